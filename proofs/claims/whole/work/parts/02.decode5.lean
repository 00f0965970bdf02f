theorem dMO_shards_17 : decode cMO_shards 17 = .ok (.aload_n 0, 1) := by decide +kernel
theorem dMO_shards_18 : decode cMO_shards 18 = .ok (.iload_n 1, 1) := by decide +kernel
theorem dMO_shards_19 : decode cMO_shards 19 = .ok (.putfield 53, 3) := by decide +kernel
theorem dMO_shards_22 : decode cMO_shards 22 = .ok (.iconst 1, 1) := by decide +kernel
theorem dMO_shards_23 : decode cMO_shards 23 = .ok (.ireturn, 1) := by decide +kernel
theorem dMO_mean_0 : decode cMO_mean 0 = .ok (.aload_n 0, 1) := by decide +kernel
theorem dMO_mean_1 : decode cMO_mean 1 = .ok (.iconst 0, 1) := by decide +kernel
theorem dMO_mean_2 : decode cMO_mean 2 = .ok (.putfield 57, 3) := by decide +kernel
theorem dMO_mean_5 : decode cMO_mean 5 = .ok (.iconst 0, 1) := by decide +kernel
theorem dMO_mean_6 : decode cMO_mean 6 = .ok (.istore_n 1, 1) := by decide +kernel
theorem dMO_mean_7 : decode cMO_mean 7 = .ok (.iconst 0, 1) := by decide +kernel
theorem dMO_mean_8 : decode cMO_mean 8 = .ok (.istore_n 2, 1) := by decide +kernel
theorem dMO_mean_9 : decode cMO_mean 9 = .ok (.iconst 0, 1) := by decide +kernel
theorem dMO_mean_10 : decode cMO_mean 10 = .ok (.istore_n 3, 1) := by decide +kernel
theorem dMO_mean_11 : decode cMO_mean 11 = .ok (.iload_n 3, 1) := by decide +kernel
theorem dMO_mean_12 : decode cMO_mean 12 = .ok (.aload_n 0, 1) := by decide +kernel
theorem dMO_mean_13 : decode cMO_mean 13 = .ok (.getfield 60, 3) := by decide +kernel
theorem dMO_mean_16 : decode cMO_mean 16 = .ok (.if_icmp .ge 35, 3) := by decide +kernel
theorem dMO_mean_19 : decode cMO_mean 19 = .ok (.iload_n 1, 1) := by decide +kernel
theorem dMO_mean_20 : decode cMO_mean 20 = .ok (.aload_n 0, 1) := by decide +kernel
theorem dMO_mean_21 : decode cMO_mean 21 = .ok (.getfield 7, 3) := by decide +kernel
theorem dMO_mean_24 : decode cMO_mean 24 = .ok (.iload_n 3, 1) := by decide +kernel
theorem dMO_mean_25 : decode cMO_mean 25 = .ok (.iaload, 1) := by decide +kernel
theorem dMO_mean_26 : decode cMO_mean 26 = .ok (.iadd, 1) := by decide +kernel
theorem dMO_mean_27 : decode cMO_mean 27 = .ok (.istore_n 1, 1) := by decide +kernel
theorem dMO_mean_28 : decode cMO_mean 28 = .ok (.iload_n 2, 1) := by decide +kernel
theorem dMO_mean_29 : decode cMO_mean 29 = .ok (.aload_n 0, 1) := by decide +kernel
theorem dMO_mean_30 : decode cMO_mean 30 = .ok (.getfield 7, 3) := by decide +kernel
theorem dMO_mean_33 : decode cMO_mean 33 = .ok (.iload_n 3, 1) := by decide +kernel
theorem dMO_mean_34 : decode cMO_mean 34 = .ok (.iaload, 1) := by decide +kernel
theorem dMO_mean_35 : decode cMO_mean 35 = .ok (.ifCond .le 7, 3) := by decide +kernel
theorem dMO_mean_38 : decode cMO_mean 38 = .ok (.iconst 1, 1) := by decide +kernel
theorem dMO_mean_39 : decode cMO_mean 39 = .ok (.goto 4, 3) := by decide +kernel
theorem dMO_mean_42 : decode cMO_mean 42 = .ok (.iconst 0, 1) := by decide +kernel
theorem dMO_mean_43 : decode cMO_mean 43 = .ok (.iadd, 1) := by decide +kernel
theorem dMO_mean_44 : decode cMO_mean 44 = .ok (.istore_n 2, 1) := by decide +kernel
theorem dMO_mean_45 : decode cMO_mean 45 = .ok (.iinc 3 1, 3) := by decide +kernel
theorem dMO_mean_48 : decode cMO_mean 48 = .ok (.goto (-37), 3) := by decide +kernel
theorem dMO_mean_51 : decode cMO_mean 51 = .ok (.iload_n 2, 1) := by decide +kernel
theorem dMO_mean_52 : decode cMO_mean 52 = .ok (.ifCond .ne 7, 3) := by decide +kernel
theorem dMO_mean_55 : decode cMO_mean 55 = .ok (.iconst 1, 1) := by decide +kernel
theorem dMO_mean_56 : decode cMO_mean 56 = .ok (.goto 10, 3) := by decide +kernel
theorem dMO_mean_59 : decode cMO_mean 59 = .ok (.iload_n 1, 1) := by decide +kernel
theorem dMO_mean_60 : decode cMO_mean 60 = .ok (.iload_n 2, 1) := by decide +kernel
theorem dMO_mean_61 : decode cMO_mean 61 = .ok (.iadd, 1) := by decide +kernel
theorem dMO_mean_62 : decode cMO_mean 62 = .ok (.iconst 1, 1) := by decide +kernel
theorem dMO_mean_63 : decode cMO_mean 63 = .ok (.isub, 1) := by decide +kernel
theorem dMO_mean_64 : decode cMO_mean 64 = .ok (.iload_n 2, 1) := by decide +kernel
theorem dMO_mean_65 : decode cMO_mean 65 = .ok (.idiv, 1) := by decide +kernel
theorem dMO_mean_66 : decode cMO_mean 66 = .ok (.ireturn, 1) := by decide +kernel
theorem dMO_groups_0 : decode cMO_groups 0 = .ok (.aload_n 0, 1) := by decide +kernel
theorem dMO_groups_1 : decode cMO_groups 1 = .ok (.iconst 0, 1) := by decide +kernel
theorem dMO_groups_2 : decode cMO_groups 2 = .ok (.putfield 57, 3) := by decide +kernel
theorem dMO_groups_5 : decode cMO_groups 5 = .ok (.iconst 0, 1) := by decide +kernel
theorem dMO_groups_6 : decode cMO_groups 6 = .ok (.istore_n 1, 1) := by decide +kernel
theorem dMO_groups_7 : decode cMO_groups 7 = .ok (.iconst 0, 1) := by decide +kernel
theorem dMO_groups_8 : decode cMO_groups 8 = .ok (.istore_n 2, 1) := by decide +kernel
theorem dMO_groups_9 : decode cMO_groups 9 = .ok (.iload_n 2, 1) := by decide +kernel
theorem dMO_groups_10 : decode cMO_groups 10 = .ok (.aload_n 0, 1) := by decide +kernel
theorem dMO_groups_11 : decode cMO_groups 11 = .ok (.getfield 60, 3) := by decide +kernel
theorem dMO_groups_14 : decode cMO_groups 14 = .ok (.if_icmp .ge 27, 3) := by decide +kernel
theorem dMO_groups_17 : decode cMO_groups 17 = .ok (.iload_n 1, 1) := by decide +kernel
theorem dMO_groups_18 : decode cMO_groups 18 = .ok (.aload_n 0, 1) := by decide +kernel
theorem dMO_groups_19 : decode cMO_groups 19 = .ok (.getfield 13, 3) := by decide +kernel
theorem dMO_groups_22 : decode cMO_groups 22 = .ok (.iload_n 2, 1) := by decide +kernel
theorem dMO_groups_23 : decode cMO_groups 23 = .ok (.iaload, 1) := by decide +kernel
theorem dMO_groups_24 : decode cMO_groups 24 = .ok (.iload_n 2, 1) := by decide +kernel
theorem dMO_groups_25 : decode cMO_groups 25 = .ok (.if_icmp .ne 7, 3) := by decide +kernel
theorem dMO_groups_28 : decode cMO_groups 28 = .ok (.iconst 1, 1) := by decide +kernel
theorem dMO_groups_29 : decode cMO_groups 29 = .ok (.goto 4, 3) := by decide +kernel
theorem dMO_groups_32 : decode cMO_groups 32 = .ok (.iconst 0, 1) := by decide +kernel
theorem dMO_groups_33 : decode cMO_groups 33 = .ok (.iadd, 1) := by decide +kernel
theorem dMO_groups_34 : decode cMO_groups 34 = .ok (.istore_n 1, 1) := by decide +kernel
theorem dMO_groups_35 : decode cMO_groups 35 = .ok (.iinc 2 1, 3) := by decide +kernel
theorem dMO_groups_38 : decode cMO_groups 38 = .ok (.goto (-29), 3) := by decide +kernel
theorem dMO_groups_41 : decode cMO_groups 41 = .ok (.iload_n 1, 1) := by decide +kernel
theorem dMO_groups_42 : decode cMO_groups 42 = .ok (.ireturn, 1) := by decide +kernel
theorem dMO_split_0 : decode cMO_split 0 = .ok (.aload_n 0, 1) := by decide +kernel
theorem dMO_split_1 : decode cMO_split 1 = .ok (.iconst 0, 1) := by decide +kernel
theorem dMO_split_2 : decode cMO_split 2 = .ok (.putfield 57, 3) := by decide +kernel
theorem dMO_split_5 : decode cMO_split 5 = .ok (.aload_n 0, 1) := by decide +kernel
theorem dMO_split_6 : decode cMO_split 6 = .ok (.invokevirtual 92, 3) := by decide +kernel
theorem dMO_split_9 : decode cMO_split 9 = .ok (.iconst 0, 1) := by decide +kernel
theorem dMO_split_10 : decode cMO_split 10 = .ok (.istore_n 1, 1) := by decide +kernel
theorem dMO_split_11 : decode cMO_split 11 = .ok (.iload_n 1, 1) := by decide +kernel
theorem dMO_split_12 : decode cMO_split 12 = .ok (.bipush 24, 2) := by decide +kernel
theorem dMO_split_14 : decode cMO_split 14 = .ok (.if_icmp .ge 21, 3) := by decide +kernel
theorem dMO_split_17 : decode cMO_split 17 = .ok (.aload_n 0, 1) := by decide +kernel
theorem dMO_split_18 : decode cMO_split 18 = .ok (.getfield 22, 3) := by decide +kernel
theorem dMO_split_21 : decode cMO_split 21 = .ok (.iload_n 1, 1) := by decide +kernel
theorem dMO_split_22 : decode cMO_split 22 = .ok (.aload_n 0, 1) := by decide +kernel
theorem dMO_split_23 : decode cMO_split 23 = .ok (.getfield 16, 3) := by decide +kernel
theorem dMO_split_26 : decode cMO_split 26 = .ok (.iload_n 1, 1) := by decide +kernel
theorem dMO_split_27 : decode cMO_split 27 = .ok (.iaload, 1) := by decide +kernel
theorem dMO_split_28 : decode cMO_split 28 = .ok (.iastore, 1) := by decide +kernel
theorem dMO_split_29 : decode cMO_split 29 = .ok (.iinc 1 1, 3) := by decide +kernel
theorem dMO_split_32 : decode cMO_split 32 = .ok (.goto (-21), 3) := by decide +kernel
theorem dMO_split_35 : decode cMO_split 35 = .ok (.aload_n 0, 1) := by decide +kernel
theorem dMO_split_36 : decode cMO_split 36 = .ok (.getfield 75, 3) := by decide +kernel
theorem dMO_split_39 : decode cMO_split 39 = .ok (.bipush 8, 2) := by decide +kernel
theorem dMO_split_41 : decode cMO_split 41 = .ok (.if_icmp .gt 10, 3) := by decide +kernel
theorem dMO_split_44 : decode cMO_split 44 = .ok (.aload_n 0, 1) := by decide +kernel
theorem dMO_split_45 : decode cMO_split 45 = .ok (.invokevirtual 95, 3) := by decide +kernel
theorem dMO_split_48 : decode cMO_split 48 = .ok (.goto 7, 3) := by decide +kernel
theorem dMO_split_51 : decode cMO_split 51 = .ok (.aload_n 0, 1) := by decide +kernel
theorem dMO_split_52 : decode cMO_split 52 = .ok (.invokevirtual 98, 3) := by decide +kernel
theorem dMO_split_55 : decode cMO_split 55 = .ok (.aload_n 0, 1) := by decide +kernel
theorem dMO_split_56 : decode cMO_split 56 = .ok (.invokevirtual 82, 3) := by decide +kernel
theorem dMO_split_59 : decode cMO_split 59 = .ok (.istore_n 1, 1) := by decide +kernel
theorem dMO_split_60 : decode cMO_split 60 = .ok (.aload_n 0, 1) := by decide +kernel
theorem dMO_split_61 : decode cMO_split 61 = .ok (.aload_n 0, 1) := by decide +kernel
theorem dMO_split_62 : decode cMO_split 62 = .ok (.invokevirtual 85, 3) := by decide +kernel
theorem dMO_split_65 : decode cMO_split 65 = .ok (.putfield 101, 3) := by decide +kernel
theorem dMO_split_68 : decode cMO_split 68 = .ok (.iconst 0, 1) := by decide +kernel
theorem dMO_split_69 : decode cMO_split 69 = .ok (.istore_n 2, 1) := by decide +kernel
theorem dMO_split_70 : decode cMO_split 70 = .ok (.iload_n 2, 1) := by decide +kernel
theorem dMO_split_71 : decode cMO_split 71 = .ok (.aload_n 0, 1) := by decide +kernel
theorem dMO_split_72 : decode cMO_split 72 = .ok (.getfield 75, 3) := by decide +kernel
theorem dMO_split_75 : decode cMO_split 75 = .ok (.if_icmp .ge 61, 3) := by decide +kernel
theorem dMO_split_78 : decode cMO_split 78 = .ok (.iconst 0, 1) := by decide +kernel
theorem dMO_split_79 : decode cMO_split 79 = .ok (.istore_n 3, 1) := by decide +kernel
theorem dMO_split_80 : decode cMO_split 80 = .ok (.iload_n 3, 1) := by decide +kernel
theorem dMO_split_81 : decode cMO_split 81 = .ok (.aload_n 0, 1) := by decide +kernel
theorem dMO_split_82 : decode cMO_split 82 = .ok (.getfield 60, 3) := by decide +kernel
theorem dMO_split_85 : decode cMO_split 85 = .ok (.if_icmp .ge 45, 3) := by decide +kernel
theorem dMO_split_88 : decode cMO_split 88 = .ok (.aload_n 0, 1) := by decide +kernel
theorem dMO_split_89 : decode cMO_split 89 = .ok (.getfield 16, 3) := by decide +kernel
theorem dMO_split_92 : decode cMO_split 92 = .ok (.iload_n 3, 1) := by decide +kernel
theorem dMO_split_93 : decode cMO_split 93 = .ok (.aload_n 0, 1) := by decide +kernel
theorem dMO_split_94 : decode cMO_split 94 = .ok (.getfield 13, 3) := by decide +kernel
theorem dMO_split_97 : decode cMO_split 97 = .ok (.iload_n 3, 1) := by decide +kernel
theorem dMO_split_98 : decode cMO_split 98 = .ok (.iaload, 1) := by decide +kernel
theorem dMO_split_99 : decode cMO_split 99 = .ok (.aload_n 0, 1) := by decide +kernel
theorem dMO_split_100 : decode cMO_split 100 = .ok (.getfield 38, 3) := by decide +kernel
theorem dMO_split_103 : decode cMO_split 103 = .ok (.iload_n 2, 1) := by decide +kernel
theorem dMO_split_104 : decode cMO_split 104 = .ok (.iaload, 1) := by decide +kernel
theorem dMO_split_105 : decode cMO_split 105 = .ok (.if_icmp .ne 12, 3) := by decide +kernel
theorem dMO_split_108 : decode cMO_split 108 = .ok (.aload_n 0, 1) := by decide +kernel
theorem dMO_split_109 : decode cMO_split 109 = .ok (.getfield 44, 3) := by decide +kernel
theorem dMO_split_112 : decode cMO_split 112 = .ok (.iload_n 2, 1) := by decide +kernel
theorem dMO_split_113 : decode cMO_split 113 = .ok (.iaload, 1) := by decide +kernel
theorem dMO_split_114 : decode cMO_split 114 = .ok (.goto 9, 3) := by decide +kernel
theorem dMO_split_117 : decode cMO_split 117 = .ok (.aload_n 0, 1) := by decide +kernel
theorem dMO_split_118 : decode cMO_split 118 = .ok (.getfield 16, 3) := by decide +kernel
theorem dMO_split_121 : decode cMO_split 121 = .ok (.iload_n 3, 1) := by decide +kernel
theorem dMO_split_122 : decode cMO_split 122 = .ok (.iaload, 1) := by decide +kernel
theorem dMO_split_123 : decode cMO_split 123 = .ok (.iastore, 1) := by decide +kernel
theorem dMO_split_124 : decode cMO_split 124 = .ok (.iinc 3 1, 3) := by decide +kernel
theorem dMO_split_127 : decode cMO_split 127 = .ok (.goto (-47), 3) := by decide +kernel
theorem dMO_split_130 : decode cMO_split 130 = .ok (.iinc 2 1, 3) := by decide +kernel
theorem dMO_split_133 : decode cMO_split 133 = .ok (.goto (-63), 3) := by decide +kernel
theorem dMO_split_136 : decode cMO_split 136 = .ok (.aload_n 0, 1) := by decide +kernel
theorem dMO_split_137 : decode cMO_split 137 = .ok (.iconst 1, 1) := by decide +kernel
theorem dMO_split_138 : decode cMO_split 138 = .ok (.putfield 104, 3) := by decide +kernel
theorem dMO_split_141 : decode cMO_split 141 = .ok (.aload_n 0, 1) := by decide +kernel
theorem dMO_split_142 : decode cMO_split 142 = .ok (.aload_n 0, 1) := by decide +kernel
theorem dMO_split_143 : decode cMO_split 143 = .ok (.getfield 53, 3) := by decide +kernel
theorem dMO_split_146 : decode cMO_split 146 = .ok (.putfield 108, 3) := by decide +kernel
theorem dMO_split_149 : decode cMO_split 149 = .ok (.aload_n 0, 1) := by decide +kernel
theorem dMO_split_150 : decode cMO_split 150 = .ok (.aload_n 0, 1) := by decide +kernel
theorem dMO_split_151 : decode cMO_split 151 = .ok (.getfield 60, 3) := by decide +kernel
theorem dMO_split_154 : decode cMO_split 154 = .ok (.putfield 111, 3) := by decide +kernel
theorem dMO_split_157 : decode cMO_split 157 = .ok (.aload_n 0, 1) := by decide +kernel
theorem dMO_split_158 : decode cMO_split 158 = .ok (.iconst 0, 1) := by decide +kernel
theorem dMO_split_159 : decode cMO_split 159 = .ok (.putfield 114, 3) := by decide +kernel
theorem dMO_split_162 : decode cMO_split 162 = .ok (.iconst 0, 1) := by decide +kernel
theorem dMO_split_163 : decode cMO_split 163 = .ok (.istore_n 2, 1) := by decide +kernel
theorem dMO_split_164 : decode cMO_split 164 = .ok (.iload_n 2, 1) := by decide +kernel
theorem dMO_split_165 : decode cMO_split 165 = .ok (.bipush 24, 2) := by decide +kernel
theorem dMO_split_167 : decode cMO_split 167 = .ok (.if_icmp .ge 23, 3) := by decide +kernel
theorem dMO_split_170 : decode cMO_split 170 = .ok (.aload_n 0, 1) := by decide +kernel
theorem dMO_split_171 : decode cMO_split 171 = .ok (.getfield 25, 3) := by decide +kernel
theorem dMO_split_174 : decode cMO_split 174 = .ok (.iload_n 2, 1) := by decide +kernel
theorem dMO_split_175 : decode cMO_split 175 = .ok (.iconst 0, 1) := by decide +kernel
theorem dMO_split_176 : decode cMO_split 176 = .ok (.bastore, 1) := by decide +kernel
theorem dMO_split_177 : decode cMO_split 177 = .ok (.aload_n 0, 1) := by decide +kernel
theorem dMO_split_178 : decode cMO_split 178 = .ok (.getfield 32, 3) := by decide +kernel
theorem dMO_split_181 : decode cMO_split 181 = .ok (.iload_n 2, 1) := by decide +kernel
theorem dMO_split_182 : decode cMO_split 182 = .ok (.iconst 0, 1) := by decide +kernel
theorem dMO_split_183 : decode cMO_split 183 = .ok (.iastore, 1) := by decide +kernel
theorem dMO_split_184 : decode cMO_split 184 = .ok (.iinc 2 1, 3) := by decide +kernel
theorem dMO_split_187 : decode cMO_split 187 = .ok (.goto (-23), 3) := by decide +kernel
theorem dMO_split_190 : decode cMO_split 190 = .ok (.iload_n 1, 1) := by decide +kernel
theorem dMO_split_191 : decode cMO_split 191 = .ok (.ireturn, 1) := by decide +kernel
theorem dMO_gathers_0 : decode cMO_gathers 0 = .ok (.aload_n 0, 1) := by decide +kernel
theorem dMO_gathers_1 : decode cMO_gathers 1 = .ok (.invokevirtual 71, 3) := by decide +kernel
theorem dMO_gathers_4 : decode cMO_gathers 4 = .ok (.istore_n 1, 1) := by decide +kernel
theorem dMO_gathers_5 : decode cMO_gathers 5 = .ok (.aload_n 0, 1) := by decide +kernel
theorem dMO_gathers_6 : decode cMO_gathers 6 = .ok (.iconst 0, 1) := by decide +kernel
theorem dMO_gathers_7 : decode cMO_gathers 7 = .ok (.putfield 75, 3) := by decide +kernel
theorem dMO_gathers_10 : decode cMO_gathers 10 = .ok (.iconst 0, 1) := by decide +kernel
theorem dMO_gathers_11 : decode cMO_gathers 11 = .ok (.istore_n 2, 1) := by decide +kernel
theorem dMO_gathers_12 : decode cMO_gathers 12 = .ok (.iload_n 2, 1) := by decide +kernel
theorem dMO_gathers_13 : decode cMO_gathers 13 = .ok (.aload_n 0, 1) := by decide +kernel
theorem dMO_gathers_14 : decode cMO_gathers 14 = .ok (.getfield 60, 3) := by decide +kernel
theorem dMO_gathers_17 : decode cMO_gathers 17 = .ok (.if_icmp .ge 113, 3) := by decide +kernel
theorem dMO_gathers_20 : decode cMO_gathers 20 = .ok (.aload_n 0, 1) := by decide +kernel
theorem dMO_gathers_21 : decode cMO_gathers 21 = .ok (.getfield 13, 3) := by decide +kernel
theorem dMO_gathers_24 : decode cMO_gathers 24 = .ok (.iload_n 2, 1) := by decide +kernel
theorem dMO_gathers_25 : decode cMO_gathers 25 = .ok (.iaload, 1) := by decide +kernel
theorem dMO_gathers_26 : decode cMO_gathers 26 = .ok (.iload_n 2, 1) := by decide +kernel
theorem dMO_gathers_27 : decode cMO_gathers 27 = .ok (.if_icmp .eq 6, 3) := by decide +kernel
theorem dMO_gathers_30 : decode cMO_gathers 30 = .ok (.goto 94, 3) := by decide +kernel
theorem dMO_gathers_33 : decode cMO_gathers 33 = .ok (.aload_n 0, 1) := by decide +kernel
theorem dMO_gathers_34 : decode cMO_gathers 34 = .ok (.getfield 38, 3) := by decide +kernel
theorem dMO_gathers_37 : decode cMO_gathers 37 = .ok (.aload_n 0, 1) := by decide +kernel
theorem dMO_gathers_38 : decode cMO_gathers 38 = .ok (.getfield 75, 3) := by decide +kernel
theorem dMO_gathers_41 : decode cMO_gathers 41 = .ok (.iload_n 2, 1) := by decide +kernel
theorem dMO_gathers_42 : decode cMO_gathers 42 = .ok (.iastore, 1) := by decide +kernel
theorem dMO_gathers_43 : decode cMO_gathers 43 = .ok (.aload_n 0, 1) := by decide +kernel
theorem dMO_gathers_44 : decode cMO_gathers 44 = .ok (.getfield 41, 3) := by decide +kernel
theorem dMO_gathers_47 : decode cMO_gathers 47 = .ok (.aload_n 0, 1) := by decide +kernel
theorem dMO_gathers_48 : decode cMO_gathers 48 = .ok (.getfield 75, 3) := by decide +kernel
theorem dMO_gathers_51 : decode cMO_gathers 51 = .ok (.iconst 0, 1) := by decide +kernel
theorem dMO_gathers_52 : decode cMO_gathers 52 = .ok (.iastore, 1) := by decide +kernel
theorem dMO_gathers_53 : decode cMO_gathers 53 = .ok (.iload_n 2, 1) := by decide +kernel
theorem dMO_gathers_54 : decode cMO_gathers 54 = .ok (.istore_n 3, 1) := by decide +kernel
theorem dMO_gathers_55 : decode cMO_gathers 55 = .ok (.iload_n 3, 1) := by decide +kernel
theorem dMO_gathers_56 : decode cMO_gathers 56 = .ok (.aload_n 0, 1) := by decide +kernel
theorem dMO_gathers_57 : decode cMO_gathers 57 = .ok (.getfield 60, 3) := by decide +kernel
theorem dMO_gathers_60 : decode cMO_gathers 60 = .ok (.if_icmp .ge 54, 3) := by decide +kernel
theorem dMO_gathers_63 : decode cMO_gathers 63 = .ok (.aload_n 0, 1) := by decide +kernel
theorem dMO_gathers_64 : decode cMO_gathers 64 = .ok (.getfield 41, 3) := by decide +kernel
theorem dMO_gathers_67 : decode cMO_gathers 67 = .ok (.aload_n 0, 1) := by decide +kernel
theorem dMO_gathers_68 : decode cMO_gathers 68 = .ok (.getfield 75, 3) := by decide +kernel
theorem dMO_gathers_71 : decode cMO_gathers 71 = .ok (.dup2, 1) := by decide +kernel
theorem dMO_gathers_72 : decode cMO_gathers 72 = .ok (.iaload, 1) := by decide +kernel
theorem dMO_gathers_73 : decode cMO_gathers 73 = .ok (.aload_n 0, 1) := by decide +kernel
theorem dMO_gathers_74 : decode cMO_gathers 74 = .ok (.getfield 13, 3) := by decide +kernel
theorem dMO_gathers_77 : decode cMO_gathers 77 = .ok (.iload_n 3, 1) := by decide +kernel
theorem dMO_gathers_78 : decode cMO_gathers 78 = .ok (.iaload, 1) := by decide +kernel
theorem dMO_gathers_79 : decode cMO_gathers 79 = .ok (.iload_n 2, 1) := by decide +kernel
theorem dMO_gathers_80 : decode cMO_gathers 80 = .ok (.if_icmp .eq 7, 3) := by decide +kernel
theorem dMO_gathers_83 : decode cMO_gathers 83 = .ok (.iconst 0, 1) := by decide +kernel
theorem dMO_gathers_84 : decode cMO_gathers 84 = .ok (.goto 22, 3) := by decide +kernel
theorem dMO_gathers_87 : decode cMO_gathers 87 = .ok (.aload_n 0, 1) := by decide +kernel
theorem dMO_gathers_88 : decode cMO_gathers 88 = .ok (.getfield 7, 3) := by decide +kernel
theorem dMO_gathers_91 : decode cMO_gathers 91 = .ok (.iload_n 3, 1) := by decide +kernel
theorem dMO_gathers_92 : decode cMO_gathers 92 = .ok (.iaload, 1) := by decide +kernel
theorem dMO_gathers_93 : decode cMO_gathers 93 = .ok (.ifCond .le 12, 3) := by decide +kernel
theorem dMO_gathers_96 : decode cMO_gathers 96 = .ok (.aload_n 0, 1) := by decide +kernel
theorem dMO_gathers_97 : decode cMO_gathers 97 = .ok (.getfield 7, 3) := by decide +kernel
theorem dMO_gathers_100 : decode cMO_gathers 100 = .ok (.iload_n 3, 1) := by decide +kernel
theorem dMO_gathers_101 : decode cMO_gathers 101 = .ok (.iaload, 1) := by decide +kernel
theorem dMO_gathers_102 : decode cMO_gathers 102 = .ok (.goto 4, 3) := by decide +kernel
theorem dMO_gathers_105 : decode cMO_gathers 105 = .ok (.iload_n 1, 1) := by decide +kernel
theorem dMO_gathers_106 : decode cMO_gathers 106 = .ok (.iadd, 1) := by decide +kernel
theorem dMO_gathers_107 : decode cMO_gathers 107 = .ok (.iastore, 1) := by decide +kernel
theorem dMO_gathers_108 : decode cMO_gathers 108 = .ok (.iinc 3 1, 3) := by decide +kernel
theorem dMO_gathers_111 : decode cMO_gathers 111 = .ok (.goto (-56), 3) := by decide +kernel
theorem dMO_gathers_114 : decode cMO_gathers 114 = .ok (.aload_n 0, 1) := by decide +kernel
theorem dMO_gathers_115 : decode cMO_gathers 115 = .ok (.dup, 1) := by decide +kernel
theorem dMO_gathers_116 : decode cMO_gathers 116 = .ok (.getfield 75, 3) := by decide +kernel
theorem dMO_gathers_119 : decode cMO_gathers 119 = .ok (.iconst 1, 1) := by decide +kernel
theorem dMO_gathers_120 : decode cMO_gathers 120 = .ok (.iadd, 1) := by decide +kernel
theorem dMO_gathers_121 : decode cMO_gathers 121 = .ok (.putfield 75, 3) := by decide +kernel
theorem dMO_gathers_124 : decode cMO_gathers 124 = .ok (.iinc 2 1, 3) := by decide +kernel
theorem dMO_gathers_127 : decode cMO_gathers 127 = .ok (.goto (-115), 3) := by decide +kernel
theorem dMO_gathers_130 : decode cMO_gathers 130 = .ok (.return_, 1) := by decide +kernel
theorem dMO_exact_0 : decode cMO_exact 0 = .ok (.iconst 0, 1) := by decide +kernel
theorem dMO_exact_1 : decode cMO_exact 1 = .ok (.istore_n 1, 1) := by decide +kernel
theorem dMO_exact_2 : decode cMO_exact 2 = .ok (.iload_n 1, 1) := by decide +kernel
theorem dMO_exact_3 : decode cMO_exact 3 = .ok (.aload_n 0, 1) := by decide +kernel
theorem dMO_exact_4 : decode cMO_exact 4 = .ok (.getfield 75, 3) := by decide +kernel
theorem dMO_exact_7 : decode cMO_exact 7 = .ok (.if_icmp .ge 16, 3) := by decide +kernel
theorem dMO_exact_10 : decode cMO_exact 10 = .ok (.aload_n 0, 1) := by decide +kernel
theorem dMO_exact_11 : decode cMO_exact 11 = .ok (.getfield 44, 3) := by decide +kernel
theorem dMO_exact_14 : decode cMO_exact 14 = .ok (.iload_n 1, 1) := by decide +kernel
theorem dMO_exact_15 : decode cMO_exact 15 = .ok (.iconst 0, 1) := by decide +kernel
theorem dMO_exact_16 : decode cMO_exact 16 = .ok (.iastore, 1) := by decide +kernel
theorem dMO_exact_17 : decode cMO_exact 17 = .ok (.iinc 1 1, 3) := by decide +kernel
theorem dMO_exact_20 : decode cMO_exact 20 = .ok (.goto (-18), 3) := by decide +kernel
theorem dMO_exact_23 : decode cMO_exact 23 = .ok (.iconst (-1), 1) := by decide +kernel
theorem dMO_exact_24 : decode cMO_exact 24 = .ok (.istore_n 1, 1) := by decide +kernel
theorem dMO_exact_25 : decode cMO_exact 25 = .ok (.iconst (-1), 1) := by decide +kernel
theorem dMO_exact_26 : decode cMO_exact 26 = .ok (.istore_n 2, 1) := by decide +kernel
theorem dMO_exact_27 : decode cMO_exact 27 = .ok (.iconst 1, 1) := by decide +kernel
theorem dMO_exact_28 : decode cMO_exact 28 = .ok (.istore_n 3, 1) := by decide +kernel
theorem dMO_exact_29 : decode cMO_exact 29 = .ok (.iload_n 3, 1) := by decide +kernel
theorem dMO_exact_30 : decode cMO_exact 30 = .ok (.ifCond .eq 94, 3) := by decide +kernel
theorem dMO_exact_33 : decode cMO_exact 33 = .ok (.aload_n 0, 1) := by decide +kernel
theorem dMO_exact_34 : decode cMO_exact 34 = .ok (.invokevirtual 82, 3) := by decide +kernel
theorem dMO_exact_37 : decode cMO_exact 37 = .ok (.istore 4, 2) := by decide +kernel
theorem dMO_exact_39 : decode cMO_exact 39 = .ok (.iload_n 1, 1) := by decide +kernel
theorem dMO_exact_40 : decode cMO_exact 40 = .ok (.iconst (-1), 1) := by decide +kernel
theorem dMO_exact_41 : decode cMO_exact 41 = .ok (.if_icmp .eq 9, 3) := by decide +kernel
theorem dMO_exact_44 : decode cMO_exact 44 = .ok (.iload 4, 2) := by decide +kernel
theorem dMO_exact_46 : decode cMO_exact 46 = .ok (.iload_n 1, 1) := by decide +kernel
theorem dMO_exact_47 : decode cMO_exact 47 = .ok (.if_icmp .ge 7, 3) := by decide +kernel
theorem dMO_exact_50 : decode cMO_exact 50 = .ok (.iconst 1, 1) := by decide +kernel
theorem dMO_exact_51 : decode cMO_exact 51 = .ok (.goto 4, 3) := by decide +kernel
theorem dMO_exact_54 : decode cMO_exact 54 = .ok (.iconst 0, 1) := by decide +kernel
theorem dMO_exact_55 : decode cMO_exact 55 = .ok (.istore 5, 2) := by decide +kernel
theorem dMO_exact_57 : decode cMO_exact 57 = .ok (.iload 5, 2) := by decide +kernel
theorem dMO_exact_59 : decode cMO_exact 59 = .ok (.ifCond .ne 17, 3) := by decide +kernel
theorem dMO_exact_62 : decode cMO_exact 62 = .ok (.iload 4, 2) := by decide +kernel
theorem dMO_exact_64 : decode cMO_exact 64 = .ok (.iload_n 1, 1) := by decide +kernel
theorem dMO_exact_65 : decode cMO_exact 65 = .ok (.if_icmp .ne 51, 3) := by decide +kernel
theorem dMO_exact_68 : decode cMO_exact 68 = .ok (.aload_n 0, 1) := by decide +kernel
theorem dMO_exact_69 : decode cMO_exact 69 = .ok (.invokevirtual 85, 3) := by decide +kernel
theorem dMO_exact_72 : decode cMO_exact 72 = .ok (.iload_n 2, 1) := by decide +kernel
theorem dMO_exact_73 : decode cMO_exact 73 = .ok (.if_icmp .ge 43, 3) := by decide +kernel
theorem dMO_exact_76 : decode cMO_exact 76 = .ok (.iload 4, 2) := by decide +kernel
theorem dMO_exact_78 : decode cMO_exact 78 = .ok (.istore_n 1, 1) := by decide +kernel
theorem dMO_exact_79 : decode cMO_exact 79 = .ok (.aload_n 0, 1) := by decide +kernel
theorem dMO_exact_80 : decode cMO_exact 80 = .ok (.invokevirtual 85, 3) := by decide +kernel
theorem dMO_exact_83 : decode cMO_exact 83 = .ok (.istore_n 2, 1) := by decide +kernel
theorem dMO_exact_84 : decode cMO_exact 84 = .ok (.iconst 0, 1) := by decide +kernel
theorem dMO_exact_85 : decode cMO_exact 85 = .ok (.istore 6, 2) := by decide +kernel
theorem dMO_exact_87 : decode cMO_exact 87 = .ok (.iload 6, 2) := by decide +kernel
theorem dMO_exact_89 : decode cMO_exact 89 = .ok (.aload_n 0, 1) := by decide +kernel
theorem dMO_exact_90 : decode cMO_exact 90 = .ok (.getfield 75, 3) := by decide +kernel
theorem dMO_exact_93 : decode cMO_exact 93 = .ok (.if_icmp .ge 23, 3) := by decide +kernel
theorem dMO_exact_96 : decode cMO_exact 96 = .ok (.aload_n 0, 1) := by decide +kernel
theorem dMO_exact_97 : decode cMO_exact 97 = .ok (.getfield 47, 3) := by decide +kernel
theorem dMO_exact_100 : decode cMO_exact 100 = .ok (.iload 6, 2) := by decide +kernel
theorem dMO_exact_102 : decode cMO_exact 102 = .ok (.aload_n 0, 1) := by decide +kernel
theorem dMO_exact_103 : decode cMO_exact 103 = .ok (.getfield 44, 3) := by decide +kernel
theorem dMO_exact_106 : decode cMO_exact 106 = .ok (.iload 6, 2) := by decide +kernel
theorem dMO_exact_108 : decode cMO_exact 108 = .ok (.iaload, 1) := by decide +kernel
theorem dMO_exact_109 : decode cMO_exact 109 = .ok (.iastore, 1) := by decide +kernel
theorem dMO_exact_110 : decode cMO_exact 110 = .ok (.iinc 6 1, 3) := by decide +kernel
theorem dMO_exact_113 : decode cMO_exact 113 = .ok (.goto (-26), 3) := by decide +kernel
theorem dMO_exact_116 : decode cMO_exact 116 = .ok (.aload_n 0, 1) := by decide +kernel
theorem dMO_exact_117 : decode cMO_exact 117 = .ok (.invokevirtual 88, 3) := by decide +kernel
theorem dMO_exact_120 : decode cMO_exact 120 = .ok (.istore_n 3, 1) := by decide +kernel
theorem dMO_exact_121 : decode cMO_exact 121 = .ok (.goto (-92), 3) := by decide +kernel
theorem dMO_exact_124 : decode cMO_exact 124 = .ok (.iconst 0, 1) := by decide +kernel
theorem dMO_exact_125 : decode cMO_exact 125 = .ok (.istore 4, 2) := by decide +kernel
theorem dMO_exact_127 : decode cMO_exact 127 = .ok (.iload 4, 2) := by decide +kernel
theorem dMO_exact_129 : decode cMO_exact 129 = .ok (.aload_n 0, 1) := by decide +kernel
theorem dMO_exact_130 : decode cMO_exact 130 = .ok (.getfield 75, 3) := by decide +kernel
theorem dMO_exact_133 : decode cMO_exact 133 = .ok (.if_icmp .ge 23, 3) := by decide +kernel
theorem dMO_exact_136 : decode cMO_exact 136 = .ok (.aload_n 0, 1) := by decide +kernel
theorem dMO_exact_137 : decode cMO_exact 137 = .ok (.getfield 44, 3) := by decide +kernel
theorem dMO_exact_140 : decode cMO_exact 140 = .ok (.iload 4, 2) := by decide +kernel
theorem dMO_exact_142 : decode cMO_exact 142 = .ok (.aload_n 0, 1) := by decide +kernel
theorem dMO_exact_143 : decode cMO_exact 143 = .ok (.getfield 47, 3) := by decide +kernel
theorem dMO_exact_146 : decode cMO_exact 146 = .ok (.iload 4, 2) := by decide +kernel
theorem dMO_exact_148 : decode cMO_exact 148 = .ok (.iaload, 1) := by decide +kernel
theorem dMO_exact_149 : decode cMO_exact 149 = .ok (.iastore, 1) := by decide +kernel
theorem dMO_exact_150 : decode cMO_exact 150 = .ok (.iinc 4 1, 3) := by decide +kernel
theorem dMO_exact_153 : decode cMO_exact 153 = .ok (.goto (-26), 3) := by decide +kernel
theorem dMO_exact_156 : decode cMO_exact 156 = .ok (.return_, 1) := by decide +kernel
theorem dMO_length_0 : decode cMO_length 0 = .ok (.iconst 0, 1) := by decide +kernel
theorem dMO_length_1 : decode cMO_length 1 = .ok (.istore_n 1, 1) := by decide +kernel
theorem dMO_length_2 : decode cMO_length 2 = .ok (.iload_n 1, 1) := by decide +kernel
theorem dMO_length_3 : decode cMO_length 3 = .ok (.iconst 4, 1) := by decide +kernel
theorem dMO_length_4 : decode cMO_length 4 = .ok (.if_icmp .ge 16, 3) := by decide +kernel
theorem dMO_length_7 : decode cMO_length 7 = .ok (.aload_n 0, 1) := by decide +kernel
theorem dMO_length_8 : decode cMO_length 8 = .ok (.getfield 19, 3) := by decide +kernel
theorem dMO_length_11 : decode cMO_length 11 = .ok (.iload_n 1, 1) := by decide +kernel
theorem dMO_length_12 : decode cMO_length 12 = .ok (.iconst 0, 1) := by decide +kernel
theorem dMO_length_13 : decode cMO_length 13 = .ok (.iastore, 1) := by decide +kernel
theorem dMO_length_14 : decode cMO_length 14 = .ok (.iinc 1 1, 3) := by decide +kernel
theorem dMO_length_17 : decode cMO_length 17 = .ok (.goto (-15), 3) := by decide +kernel
theorem dMO_length_20 : decode cMO_length 20 = .ok (.iconst 0, 1) := by decide +kernel
theorem dMO_length_21 : decode cMO_length 21 = .ok (.istore_n 1, 1) := by decide +kernel
theorem dMO_length_22 : decode cMO_length 22 = .ok (.iload_n 1, 1) := by decide +kernel
theorem dMO_length_23 : decode cMO_length 23 = .ok (.aload_n 0, 1) := by decide +kernel
theorem dMO_length_24 : decode cMO_length 24 = .ok (.getfield 75, 3) := by decide +kernel
theorem dMO_length_27 : decode cMO_length 27 = .ok (.if_icmp .ge 29, 3) := by decide +kernel
theorem dMO_length_30 : decode cMO_length 30 = .ok (.aload_n 0, 1) := by decide +kernel
theorem dMO_length_31 : decode cMO_length 31 = .ok (.getfield 19, 3) := by decide +kernel
theorem dMO_length_34 : decode cMO_length 34 = .ok (.aload_n 0, 1) := by decide +kernel
theorem dMO_length_35 : decode cMO_length 35 = .ok (.getfield 44, 3) := by decide +kernel
theorem dMO_length_38 : decode cMO_length 38 = .ok (.iload_n 1, 1) := by decide +kernel
theorem dMO_length_39 : decode cMO_length 39 = .ok (.iaload, 1) := by decide +kernel
theorem dMO_length_40 : decode cMO_length 40 = .ok (.dup2, 1) := by decide +kernel
theorem dMO_length_41 : decode cMO_length 41 = .ok (.iaload, 1) := by decide +kernel
theorem dMO_length_42 : decode cMO_length 42 = .ok (.aload_n 0, 1) := by decide +kernel
theorem dMO_length_43 : decode cMO_length 43 = .ok (.getfield 41, 3) := by decide +kernel
theorem dMO_length_46 : decode cMO_length 46 = .ok (.iload_n 1, 1) := by decide +kernel
theorem dMO_length_47 : decode cMO_length 47 = .ok (.iaload, 1) := by decide +kernel
theorem dMO_length_48 : decode cMO_length 48 = .ok (.iadd, 1) := by decide +kernel
theorem dMO_length_49 : decode cMO_length 49 = .ok (.iastore, 1) := by decide +kernel
theorem dMO_length_50 : decode cMO_length 50 = .ok (.iinc 1 1, 3) := by decide +kernel
theorem dMO_length_53 : decode cMO_length 53 = .ok (.goto (-31), 3) := by decide +kernel
theorem dMO_length_56 : decode cMO_length 56 = .ok (.iconst 0, 1) := by decide +kernel
theorem dMO_length_57 : decode cMO_length 57 = .ok (.istore_n 1, 1) := by decide +kernel
theorem dMO_length_58 : decode cMO_length 58 = .ok (.iconst 0, 1) := by decide +kernel
theorem dMO_length_59 : decode cMO_length 59 = .ok (.istore_n 2, 1) := by decide +kernel
theorem dMO_length_60 : decode cMO_length 60 = .ok (.iload_n 2, 1) := by decide +kernel
theorem dMO_length_61 : decode cMO_length 61 = .ok (.iconst 4, 1) := by decide +kernel
theorem dMO_length_62 : decode cMO_length 62 = .ok (.if_icmp .ge 30, 3) := by decide +kernel
theorem dMO_length_65 : decode cMO_length 65 = .ok (.aload_n 0, 1) := by decide +kernel
theorem dMO_length_66 : decode cMO_length 66 = .ok (.getfield 19, 3) := by decide +kernel
theorem dMO_length_69 : decode cMO_length 69 = .ok (.iload_n 2, 1) := by decide +kernel
theorem dMO_length_70 : decode cMO_length 70 = .ok (.iaload, 1) := by decide +kernel
theorem dMO_length_71 : decode cMO_length 71 = .ok (.iload_n 1, 1) := by decide +kernel
theorem dMO_length_72 : decode cMO_length 72 = .ok (.if_icmp .le 12, 3) := by decide +kernel
theorem dMO_length_75 : decode cMO_length 75 = .ok (.aload_n 0, 1) := by decide +kernel
theorem dMO_length_76 : decode cMO_length 76 = .ok (.getfield 19, 3) := by decide +kernel
theorem dMO_length_79 : decode cMO_length 79 = .ok (.iload_n 2, 1) := by decide +kernel
theorem dMO_length_80 : decode cMO_length 80 = .ok (.iaload, 1) := by decide +kernel
theorem dMO_length_81 : decode cMO_length 81 = .ok (.goto 4, 3) := by decide +kernel
theorem dMO_length_84 : decode cMO_length 84 = .ok (.iload_n 1, 1) := by decide +kernel
theorem dMO_length_85 : decode cMO_length 85 = .ok (.istore_n 1, 1) := by decide +kernel
theorem dMO_length_86 : decode cMO_length 86 = .ok (.iinc 2 1, 3) := by decide +kernel
theorem dMO_length_89 : decode cMO_length 89 = .ok (.goto (-29), 3) := by decide +kernel
theorem dMO_length_92 : decode cMO_length 92 = .ok (.iload_n 1, 1) := by decide +kernel
theorem dMO_length_93 : decode cMO_length 93 = .ok (.ireturn, 1) := by decide +kernel
theorem dMO_moves_0 : decode cMO_moves 0 = .ok (.iconst 0, 1) := by decide +kernel
theorem dMO_moves_1 : decode cMO_moves 1 = .ok (.istore_n 1, 1) := by decide +kernel
theorem dMO_moves_2 : decode cMO_moves 2 = .ok (.iconst 0, 1) := by decide +kernel
theorem dMO_moves_3 : decode cMO_moves 3 = .ok (.istore_n 2, 1) := by decide +kernel
theorem dMO_moves_4 : decode cMO_moves 4 = .ok (.iload_n 2, 1) := by decide +kernel
theorem dMO_moves_5 : decode cMO_moves 5 = .ok (.aload_n 0, 1) := by decide +kernel
theorem dMO_moves_6 : decode cMO_moves 6 = .ok (.getfield 75, 3) := by decide +kernel
theorem dMO_moves_9 : decode cMO_moves 9 = .ok (.if_icmp .ge 23, 3) := by decide +kernel
theorem dMO_moves_12 : decode cMO_moves 12 = .ok (.iload_n 1, 1) := by decide +kernel
theorem dMO_moves_13 : decode cMO_moves 13 = .ok (.aload_n 0, 1) := by decide +kernel
theorem dMO_moves_14 : decode cMO_moves 14 = .ok (.iload_n 2, 1) := by decide +kernel
theorem dMO_moves_15 : decode cMO_moves 15 = .ok (.aload_n 0, 1) := by decide +kernel
theorem dMO_moves_16 : decode cMO_moves 16 = .ok (.getfield 44, 3) := by decide +kernel
theorem dMO_moves_19 : decode cMO_moves 19 = .ok (.iload_n 2, 1) := by decide +kernel
theorem dMO_moves_20 : decode cMO_moves 20 = .ok (.iaload, 1) := by decide +kernel
theorem dMO_moves_21 : decode cMO_moves 21 = .ok (.invokevirtual 78, 3) := by decide +kernel
theorem dMO_moves_24 : decode cMO_moves 24 = .ok (.iadd, 1) := by decide +kernel
theorem dMO_moves_25 : decode cMO_moves 25 = .ok (.istore_n 1, 1) := by decide +kernel
theorem dMO_moves_26 : decode cMO_moves 26 = .ok (.iinc 2 1, 3) := by decide +kernel
theorem dMO_moves_29 : decode cMO_moves 29 = .ok (.goto (-25), 3) := by decide +kernel
theorem dMO_moves_32 : decode cMO_moves 32 = .ok (.iload_n 1, 1) := by decide +kernel
theorem dMO_moves_33 : decode cMO_moves 33 = .ok (.ireturn, 1) := by decide +kernel
theorem dMO_movesOf_0 : decode cMO_movesOf 0 = .ok (.iconst 0, 1) := by decide +kernel
theorem dMO_movesOf_1 : decode cMO_movesOf 1 = .ok (.istore_n 3, 1) := by decide +kernel
theorem dMO_movesOf_2 : decode cMO_movesOf 2 = .ok (.iconst 0, 1) := by decide +kernel
theorem dMO_movesOf_3 : decode cMO_movesOf 3 = .ok (.istore 4, 2) := by decide +kernel
theorem dMO_movesOf_5 : decode cMO_movesOf 5 = .ok (.iload 4, 2) := by decide +kernel
theorem dMO_movesOf_7 : decode cMO_movesOf 7 = .ok (.aload_n 0, 1) := by decide +kernel
theorem dMO_movesOf_8 : decode cMO_movesOf 8 = .ok (.getfield 60, 3) := by decide +kernel
theorem dMO_movesOf_11 : decode cMO_movesOf 11 = .ok (.if_icmp .ge 55, 3) := by decide +kernel
theorem dMO_movesOf_14 : decode cMO_movesOf 14 = .ok (.iload_n 3, 1) := by decide +kernel
theorem dMO_movesOf_15 : decode cMO_movesOf 15 = .ok (.aload_n 0, 1) := by decide +kernel
theorem dMO_movesOf_16 : decode cMO_movesOf 16 = .ok (.getfield 13, 3) := by decide +kernel
theorem dMO_movesOf_19 : decode cMO_movesOf 19 = .ok (.iload 4, 2) := by decide +kernel
theorem dMO_movesOf_21 : decode cMO_movesOf 21 = .ok (.iaload, 1) := by decide +kernel
theorem dMO_movesOf_22 : decode cMO_movesOf 22 = .ok (.aload_n 0, 1) := by decide +kernel
theorem dMO_movesOf_23 : decode cMO_movesOf 23 = .ok (.getfield 38, 3) := by decide +kernel
theorem dMO_movesOf_26 : decode cMO_movesOf 26 = .ok (.iload_n 1, 1) := by decide +kernel
theorem dMO_movesOf_27 : decode cMO_movesOf 27 = .ok (.iaload, 1) := by decide +kernel
theorem dMO_movesOf_28 : decode cMO_movesOf 28 = .ok (.if_icmp .ne 29, 3) := by decide +kernel
theorem dMO_movesOf_31 : decode cMO_movesOf 31 = .ok (.aload_n 0, 1) := by decide +kernel
theorem dMO_movesOf_32 : decode cMO_movesOf 32 = .ok (.getfield 22, 3) := by decide +kernel
theorem dMO_movesOf_35 : decode cMO_movesOf 35 = .ok (.iload 4, 2) := by decide +kernel
theorem dMO_movesOf_37 : decode cMO_movesOf 37 = .ok (.iaload, 1) := by decide +kernel
theorem dMO_movesOf_38 : decode cMO_movesOf 38 = .ok (.iconst (-1), 1) := by decide +kernel
theorem dMO_movesOf_39 : decode cMO_movesOf 39 = .ok (.if_icmp .eq 18, 3) := by decide +kernel
theorem dMO_movesOf_42 : decode cMO_movesOf 42 = .ok (.aload_n 0, 1) := by decide +kernel
theorem dMO_movesOf_43 : decode cMO_movesOf 43 = .ok (.getfield 22, 3) := by decide +kernel
