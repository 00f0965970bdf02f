theorem dMO_movesOf_46 : decode cMO_movesOf 46 = .ok (.iload 4, 2) := by decide +kernel
theorem dMO_movesOf_48 : decode cMO_movesOf 48 = .ok (.iaload, 1) := by decide +kernel
theorem dMO_movesOf_49 : decode cMO_movesOf 49 = .ok (.iload_n 2, 1) := by decide +kernel
theorem dMO_movesOf_50 : decode cMO_movesOf 50 = .ok (.if_icmp .eq 7, 3) := by decide +kernel
theorem dMO_movesOf_53 : decode cMO_movesOf 53 = .ok (.iconst 1, 1) := by decide +kernel
theorem dMO_movesOf_54 : decode cMO_movesOf 54 = .ok (.goto 4, 3) := by decide +kernel
theorem dMO_movesOf_57 : decode cMO_movesOf 57 = .ok (.iconst 0, 1) := by decide +kernel
theorem dMO_movesOf_58 : decode cMO_movesOf 58 = .ok (.iadd, 1) := by decide +kernel
theorem dMO_movesOf_59 : decode cMO_movesOf 59 = .ok (.istore_n 3, 1) := by decide +kernel
theorem dMO_movesOf_60 : decode cMO_movesOf 60 = .ok (.iinc 4 1, 3) := by decide +kernel
theorem dMO_movesOf_63 : decode cMO_movesOf 63 = .ok (.goto (-58), 3) := by decide +kernel
theorem dMO_movesOf_66 : decode cMO_movesOf 66 = .ok (.iload_n 3, 1) := by decide +kernel
theorem dMO_movesOf_67 : decode cMO_movesOf 67 = .ok (.ireturn, 1) := by decide +kernel
theorem dMO_next_0 : decode cMO_next 0 = .ok (.aload_n 0, 1) := by decide +kernel
theorem dMO_next_1 : decode cMO_next 1 = .ok (.getfield 75, 3) := by decide +kernel
theorem dMO_next_4 : decode cMO_next 4 = .ok (.iconst 1, 1) := by decide +kernel
theorem dMO_next_5 : decode cMO_next 5 = .ok (.isub, 1) := by decide +kernel
theorem dMO_next_6 : decode cMO_next 6 = .ok (.istore_n 1, 1) := by decide +kernel
theorem dMO_next_7 : decode cMO_next 7 = .ok (.iload_n 1, 1) := by decide +kernel
theorem dMO_next_8 : decode cMO_next 8 = .ok (.ifCond .lt 31, 3) := by decide +kernel
theorem dMO_next_11 : decode cMO_next 11 = .ok (.aload_n 0, 1) := by decide +kernel
theorem dMO_next_12 : decode cMO_next 12 = .ok (.getfield 44, 3) := by decide +kernel
theorem dMO_next_15 : decode cMO_next 15 = .ok (.iload_n 1, 1) := by decide +kernel
theorem dMO_next_16 : decode cMO_next 16 = .ok (.iaload, 1) := by decide +kernel
theorem dMO_next_17 : decode cMO_next 17 = .ok (.aload_n 0, 1) := by decide +kernel
theorem dMO_next_18 : decode cMO_next 18 = .ok (.getfield 53, 3) := by decide +kernel
theorem dMO_next_21 : decode cMO_next 21 = .ok (.iconst 1, 1) := by decide +kernel
theorem dMO_next_22 : decode cMO_next 22 = .ok (.isub, 1) := by decide +kernel
theorem dMO_next_23 : decode cMO_next 23 = .ok (.if_icmp .ne 16, 3) := by decide +kernel
theorem dMO_next_26 : decode cMO_next 26 = .ok (.aload_n 0, 1) := by decide +kernel
theorem dMO_next_27 : decode cMO_next 27 = .ok (.getfield 44, 3) := by decide +kernel
theorem dMO_next_30 : decode cMO_next 30 = .ok (.iload_n 1, 1) := by decide +kernel
theorem dMO_next_31 : decode cMO_next 31 = .ok (.iconst 0, 1) := by decide +kernel
theorem dMO_next_32 : decode cMO_next 32 = .ok (.iastore, 1) := by decide +kernel
theorem dMO_next_33 : decode cMO_next 33 = .ok (.iinc 1 (-1), 3) := by decide +kernel
theorem dMO_next_36 : decode cMO_next 36 = .ok (.goto (-29), 3) := by decide +kernel
theorem dMO_next_39 : decode cMO_next 39 = .ok (.iload_n 1, 1) := by decide +kernel
theorem dMO_next_40 : decode cMO_next 40 = .ok (.ifCond .ge 5, 3) := by decide +kernel
theorem dMO_next_43 : decode cMO_next 43 = .ok (.iconst 0, 1) := by decide +kernel
theorem dMO_next_44 : decode cMO_next 44 = .ok (.ireturn, 1) := by decide +kernel
theorem dMO_next_45 : decode cMO_next 45 = .ok (.aload_n 0, 1) := by decide +kernel
theorem dMO_next_46 : decode cMO_next 46 = .ok (.getfield 44, 3) := by decide +kernel
theorem dMO_next_49 : decode cMO_next 49 = .ok (.iload_n 1, 1) := by decide +kernel
theorem dMO_next_50 : decode cMO_next 50 = .ok (.dup2, 1) := by decide +kernel
theorem dMO_next_51 : decode cMO_next 51 = .ok (.iaload, 1) := by decide +kernel
theorem dMO_next_52 : decode cMO_next 52 = .ok (.iconst 1, 1) := by decide +kernel
theorem dMO_next_53 : decode cMO_next 53 = .ok (.iadd, 1) := by decide +kernel
theorem dMO_next_54 : decode cMO_next 54 = .ok (.iastore, 1) := by decide +kernel
theorem dMO_next_55 : decode cMO_next 55 = .ok (.iconst 1, 1) := by decide +kernel
theorem dMO_next_56 : decode cMO_next 56 = .ok (.ireturn, 1) := by decide +kernel
theorem dMO_byTimes_0 : decode cMO_byTimes 0 = .ok (.iconst 0, 1) := by decide +kernel
theorem dMO_byTimes_1 : decode cMO_byTimes 1 = .ok (.istore_n 1, 1) := by decide +kernel
theorem dMO_byTimes_2 : decode cMO_byTimes 2 = .ok (.iload_n 1, 1) := by decide +kernel
theorem dMO_byTimes_3 : decode cMO_byTimes 3 = .ok (.iconst 4, 1) := by decide +kernel
theorem dMO_byTimes_4 : decode cMO_byTimes 4 = .ok (.if_icmp .ge 16, 3) := by decide +kernel
theorem dMO_byTimes_7 : decode cMO_byTimes 7 = .ok (.aload_n 0, 1) := by decide +kernel
theorem dMO_byTimes_8 : decode cMO_byTimes 8 = .ok (.getfield 19, 3) := by decide +kernel
theorem dMO_byTimes_11 : decode cMO_byTimes 11 = .ok (.iload_n 1, 1) := by decide +kernel
theorem dMO_byTimes_12 : decode cMO_byTimes 12 = .ok (.iconst 0, 1) := by decide +kernel
theorem dMO_byTimes_13 : decode cMO_byTimes 13 = .ok (.iastore, 1) := by decide +kernel
theorem dMO_byTimes_14 : decode cMO_byTimes 14 = .ok (.iinc 1 1, 3) := by decide +kernel
theorem dMO_byTimes_17 : decode cMO_byTimes 17 = .ok (.goto (-15), 3) := by decide +kernel
theorem dMO_byTimes_20 : decode cMO_byTimes 20 = .ok (.iconst 0, 1) := by decide +kernel
theorem dMO_byTimes_21 : decode cMO_byTimes 21 = .ok (.istore_n 1, 1) := by decide +kernel
theorem dMO_byTimes_22 : decode cMO_byTimes 22 = .ok (.iload_n 1, 1) := by decide +kernel
theorem dMO_byTimes_23 : decode cMO_byTimes 23 = .ok (.aload_n 0, 1) := by decide +kernel
theorem dMO_byTimes_24 : decode cMO_byTimes 24 = .ok (.getfield 75, 3) := by decide +kernel
theorem dMO_byTimes_27 : decode cMO_byTimes 27 = .ok (.if_icmp .ge 16, 3) := by decide +kernel
theorem dMO_byTimes_30 : decode cMO_byTimes 30 = .ok (.aload_n 0, 1) := by decide +kernel
theorem dMO_byTimes_31 : decode cMO_byTimes 31 = .ok (.getfield 50, 3) := by decide +kernel
theorem dMO_byTimes_34 : decode cMO_byTimes 34 = .ok (.iload_n 1, 1) := by decide +kernel
theorem dMO_byTimes_35 : decode cMO_byTimes 35 = .ok (.iconst 0, 1) := by decide +kernel
theorem dMO_byTimes_36 : decode cMO_byTimes 36 = .ok (.bastore, 1) := by decide +kernel
theorem dMO_byTimes_37 : decode cMO_byTimes 37 = .ok (.iinc 1 1, 3) := by decide +kernel
theorem dMO_byTimes_40 : decode cMO_byTimes 40 = .ok (.goto (-18), 3) := by decide +kernel
theorem dMO_byTimes_43 : decode cMO_byTimes 43 = .ok (.iconst 0, 1) := by decide +kernel
theorem dMO_byTimes_44 : decode cMO_byTimes 44 = .ok (.istore_n 1, 1) := by decide +kernel
theorem dMO_byTimes_45 : decode cMO_byTimes 45 = .ok (.iload_n 1, 1) := by decide +kernel
theorem dMO_byTimes_46 : decode cMO_byTimes 46 = .ok (.aload_n 0, 1) := by decide +kernel
theorem dMO_byTimes_47 : decode cMO_byTimes 47 = .ok (.getfield 75, 3) := by decide +kernel
theorem dMO_byTimes_50 : decode cMO_byTimes 50 = .ok (.if_icmp .ge 188, 3) := by decide +kernel
theorem dMO_byTimes_53 : decode cMO_byTimes 53 = .ok (.iconst (-1), 1) := by decide +kernel
theorem dMO_byTimes_54 : decode cMO_byTimes 54 = .ok (.istore_n 2, 1) := by decide +kernel
theorem dMO_byTimes_55 : decode cMO_byTimes 55 = .ok (.iconst 0, 1) := by decide +kernel
theorem dMO_byTimes_56 : decode cMO_byTimes 56 = .ok (.istore_n 3, 1) := by decide +kernel
theorem dMO_byTimes_57 : decode cMO_byTimes 57 = .ok (.iload_n 3, 1) := by decide +kernel
theorem dMO_byTimes_58 : decode cMO_byTimes 58 = .ok (.aload_n 0, 1) := by decide +kernel
theorem dMO_byTimes_59 : decode cMO_byTimes 59 = .ok (.getfield 75, 3) := by decide +kernel
theorem dMO_byTimes_62 : decode cMO_byTimes 62 = .ok (.if_icmp .ge 44, 3) := by decide +kernel
theorem dMO_byTimes_65 : decode cMO_byTimes 65 = .ok (.aload_n 0, 1) := by decide +kernel
theorem dMO_byTimes_66 : decode cMO_byTimes 66 = .ok (.getfield 50, 3) := by decide +kernel
theorem dMO_byTimes_69 : decode cMO_byTimes 69 = .ok (.iload_n 3, 1) := by decide +kernel
theorem dMO_byTimes_70 : decode cMO_byTimes 70 = .ok (.baload, 1) := by decide +kernel
theorem dMO_byTimes_71 : decode cMO_byTimes 71 = .ok (.ifCond .ne 27, 3) := by decide +kernel
theorem dMO_byTimes_74 : decode cMO_byTimes 74 = .ok (.iload_n 2, 1) := by decide +kernel
theorem dMO_byTimes_75 : decode cMO_byTimes 75 = .ok (.iconst (-1), 1) := by decide +kernel
theorem dMO_byTimes_76 : decode cMO_byTimes 76 = .ok (.if_icmp .eq 18, 3) := by decide +kernel
theorem dMO_byTimes_79 : decode cMO_byTimes 79 = .ok (.aload_n 0, 1) := by decide +kernel
theorem dMO_byTimes_80 : decode cMO_byTimes 80 = .ok (.getfield 41, 3) := by decide +kernel
theorem dMO_byTimes_83 : decode cMO_byTimes 83 = .ok (.iload_n 3, 1) := by decide +kernel
theorem dMO_byTimes_84 : decode cMO_byTimes 84 = .ok (.iaload, 1) := by decide +kernel
theorem dMO_byTimes_85 : decode cMO_byTimes 85 = .ok (.aload_n 0, 1) := by decide +kernel
theorem dMO_byTimes_86 : decode cMO_byTimes 86 = .ok (.getfield 41, 3) := by decide +kernel
theorem dMO_byTimes_89 : decode cMO_byTimes 89 = .ok (.iload_n 2, 1) := by decide +kernel
theorem dMO_byTimes_90 : decode cMO_byTimes 90 = .ok (.iaload, 1) := by decide +kernel
theorem dMO_byTimes_91 : decode cMO_byTimes 91 = .ok (.if_icmp .le 7, 3) := by decide +kernel
theorem dMO_byTimes_94 : decode cMO_byTimes 94 = .ok (.iload_n 3, 1) := by decide +kernel
theorem dMO_byTimes_95 : decode cMO_byTimes 95 = .ok (.goto 4, 3) := by decide +kernel
theorem dMO_byTimes_98 : decode cMO_byTimes 98 = .ok (.iload_n 2, 1) := by decide +kernel
theorem dMO_byTimes_99 : decode cMO_byTimes 99 = .ok (.istore_n 2, 1) := by decide +kernel
theorem dMO_byTimes_100 : decode cMO_byTimes 100 = .ok (.iinc 3 1, 3) := by decide +kernel
theorem dMO_byTimes_103 : decode cMO_byTimes 103 = .ok (.goto (-46), 3) := by decide +kernel
theorem dMO_byTimes_106 : decode cMO_byTimes 106 = .ok (.aload_n 0, 1) := by decide +kernel
theorem dMO_byTimes_107 : decode cMO_byTimes 107 = .ok (.getfield 50, 3) := by decide +kernel
theorem dMO_byTimes_110 : decode cMO_byTimes 110 = .ok (.iload_n 2, 1) := by decide +kernel
theorem dMO_byTimes_111 : decode cMO_byTimes 111 = .ok (.iconst 1, 1) := by decide +kernel
theorem dMO_byTimes_112 : decode cMO_byTimes 112 = .ok (.bastore, 1) := by decide +kernel
theorem dMO_byTimes_113 : decode cMO_byTimes 113 = .ok (.iconst 0, 1) := by decide +kernel
theorem dMO_byTimes_114 : decode cMO_byTimes 114 = .ok (.istore_n 3, 1) := by decide +kernel
theorem dMO_byTimes_115 : decode cMO_byTimes 115 = .ok (.iconst 1, 1) := by decide +kernel
theorem dMO_byTimes_116 : decode cMO_byTimes 116 = .ok (.istore 4, 2) := by decide +kernel
theorem dMO_byTimes_118 : decode cMO_byTimes 118 = .ok (.iload 4, 2) := by decide +kernel
theorem dMO_byTimes_120 : decode cMO_byTimes 120 = .ok (.aload_n 0, 1) := by decide +kernel
theorem dMO_byTimes_121 : decode cMO_byTimes 121 = .ok (.getfield 53, 3) := by decide +kernel
theorem dMO_byTimes_124 : decode cMO_byTimes 124 = .ok (.if_icmp .ge 32, 3) := by decide +kernel
theorem dMO_byTimes_127 : decode cMO_byTimes 127 = .ok (.aload_n 0, 1) := by decide +kernel
theorem dMO_byTimes_128 : decode cMO_byTimes 128 = .ok (.getfield 19, 3) := by decide +kernel
theorem dMO_byTimes_131 : decode cMO_byTimes 131 = .ok (.iload 4, 2) := by decide +kernel
theorem dMO_byTimes_133 : decode cMO_byTimes 133 = .ok (.iaload, 1) := by decide +kernel
theorem dMO_byTimes_134 : decode cMO_byTimes 134 = .ok (.aload_n 0, 1) := by decide +kernel
theorem dMO_byTimes_135 : decode cMO_byTimes 135 = .ok (.getfield 19, 3) := by decide +kernel
theorem dMO_byTimes_138 : decode cMO_byTimes 138 = .ok (.iload_n 3, 1) := by decide +kernel
theorem dMO_byTimes_139 : decode cMO_byTimes 139 = .ok (.iaload, 1) := by decide +kernel
theorem dMO_byTimes_140 : decode cMO_byTimes 140 = .ok (.if_icmp .ge 8, 3) := by decide +kernel
theorem dMO_byTimes_143 : decode cMO_byTimes 143 = .ok (.iload 4, 2) := by decide +kernel
theorem dMO_byTimes_145 : decode cMO_byTimes 145 = .ok (.goto 4, 3) := by decide +kernel
theorem dMO_byTimes_148 : decode cMO_byTimes 148 = .ok (.iload_n 3, 1) := by decide +kernel
theorem dMO_byTimes_149 : decode cMO_byTimes 149 = .ok (.istore_n 3, 1) := by decide +kernel
theorem dMO_byTimes_150 : decode cMO_byTimes 150 = .ok (.iinc 4 1, 3) := by decide +kernel
theorem dMO_byTimes_153 : decode cMO_byTimes 153 = .ok (.goto (-35), 3) := by decide +kernel
theorem dMO_byTimes_156 : decode cMO_byTimes 156 = .ok (.aload_n 0, 1) := by decide +kernel
theorem dMO_byTimes_157 : decode cMO_byTimes 157 = .ok (.getfield 22, 3) := by decide +kernel
theorem dMO_byTimes_160 : decode cMO_byTimes 160 = .ok (.aload_n 0, 1) := by decide +kernel
theorem dMO_byTimes_161 : decode cMO_byTimes 161 = .ok (.getfield 38, 3) := by decide +kernel
theorem dMO_byTimes_164 : decode cMO_byTimes 164 = .ok (.iload_n 2, 1) := by decide +kernel
theorem dMO_byTimes_165 : decode cMO_byTimes 165 = .ok (.iaload, 1) := by decide +kernel
theorem dMO_byTimes_166 : decode cMO_byTimes 166 = .ok (.iaload, 1) := by decide +kernel
theorem dMO_byTimes_167 : decode cMO_byTimes 167 = .ok (.istore 4, 2) := by decide +kernel
theorem dMO_byTimes_169 : decode cMO_byTimes 169 = .ok (.aload_n 0, 1) := by decide +kernel
theorem dMO_byTimes_170 : decode cMO_byTimes 170 = .ok (.getfield 44, 3) := by decide +kernel
theorem dMO_byTimes_173 : decode cMO_byTimes 173 = .ok (.iload_n 2, 1) := by decide +kernel
theorem dMO_byTimes_174 : decode cMO_byTimes 174 = .ok (.iload 4, 2) := by decide +kernel
theorem dMO_byTimes_176 : decode cMO_byTimes 176 = .ok (.iconst (-1), 1) := by decide +kernel
theorem dMO_byTimes_177 : decode cMO_byTimes 177 = .ok (.if_icmp .eq 33, 3) := by decide +kernel
theorem dMO_byTimes_180 : decode cMO_byTimes 180 = .ok (.iload 4, 2) := by decide +kernel
theorem dMO_byTimes_182 : decode cMO_byTimes 182 = .ok (.aload_n 0, 1) := by decide +kernel
theorem dMO_byTimes_183 : decode cMO_byTimes 183 = .ok (.getfield 53, 3) := by decide +kernel
theorem dMO_byTimes_186 : decode cMO_byTimes 186 = .ok (.if_icmp .ge 24, 3) := by decide +kernel
theorem dMO_byTimes_189 : decode cMO_byTimes 189 = .ok (.aload_n 0, 1) := by decide +kernel
theorem dMO_byTimes_190 : decode cMO_byTimes 190 = .ok (.getfield 19, 3) := by decide +kernel
theorem dMO_byTimes_193 : decode cMO_byTimes 193 = .ok (.iload 4, 2) := by decide +kernel
theorem dMO_byTimes_195 : decode cMO_byTimes 195 = .ok (.iaload, 1) := by decide +kernel
theorem dMO_byTimes_196 : decode cMO_byTimes 196 = .ok (.aload_n 0, 1) := by decide +kernel
theorem dMO_byTimes_197 : decode cMO_byTimes 197 = .ok (.getfield 19, 3) := by decide +kernel
theorem dMO_byTimes_200 : decode cMO_byTimes 200 = .ok (.iload_n 3, 1) := by decide +kernel
theorem dMO_byTimes_201 : decode cMO_byTimes 201 = .ok (.iaload, 1) := by decide +kernel
theorem dMO_byTimes_202 : decode cMO_byTimes 202 = .ok (.if_icmp .ne 8, 3) := by decide +kernel
theorem dMO_byTimes_205 : decode cMO_byTimes 205 = .ok (.iload 4, 2) := by decide +kernel
theorem dMO_byTimes_207 : decode cMO_byTimes 207 = .ok (.goto 4, 3) := by decide +kernel
theorem dMO_byTimes_210 : decode cMO_byTimes 210 = .ok (.iload_n 3, 1) := by decide +kernel
theorem dMO_byTimes_211 : decode cMO_byTimes 211 = .ok (.iastore, 1) := by decide +kernel
theorem dMO_byTimes_212 : decode cMO_byTimes 212 = .ok (.aload_n 0, 1) := by decide +kernel
theorem dMO_byTimes_213 : decode cMO_byTimes 213 = .ok (.getfield 19, 3) := by decide +kernel
theorem dMO_byTimes_216 : decode cMO_byTimes 216 = .ok (.aload_n 0, 1) := by decide +kernel
theorem dMO_byTimes_217 : decode cMO_byTimes 217 = .ok (.getfield 44, 3) := by decide +kernel
theorem dMO_byTimes_220 : decode cMO_byTimes 220 = .ok (.iload_n 2, 1) := by decide +kernel
theorem dMO_byTimes_221 : decode cMO_byTimes 221 = .ok (.iaload, 1) := by decide +kernel
theorem dMO_byTimes_222 : decode cMO_byTimes 222 = .ok (.dup2, 1) := by decide +kernel
theorem dMO_byTimes_223 : decode cMO_byTimes 223 = .ok (.iaload, 1) := by decide +kernel
theorem dMO_byTimes_224 : decode cMO_byTimes 224 = .ok (.aload_n 0, 1) := by decide +kernel
theorem dMO_byTimes_225 : decode cMO_byTimes 225 = .ok (.getfield 41, 3) := by decide +kernel
theorem dMO_byTimes_228 : decode cMO_byTimes 228 = .ok (.iload_n 2, 1) := by decide +kernel
theorem dMO_byTimes_229 : decode cMO_byTimes 229 = .ok (.iaload, 1) := by decide +kernel
theorem dMO_byTimes_230 : decode cMO_byTimes 230 = .ok (.iadd, 1) := by decide +kernel
theorem dMO_byTimes_231 : decode cMO_byTimes 231 = .ok (.iastore, 1) := by decide +kernel
theorem dMO_byTimes_232 : decode cMO_byTimes 232 = .ok (.iinc 1 1, 3) := by decide +kernel
theorem dMO_byTimes_235 : decode cMO_byTimes 235 = .ok (.goto (-190), 3) := by decide +kernel
theorem dMO_byTimes_238 : decode cMO_byTimes 238 = .ok (.return_, 1) := by decide +kernel
theorem dMO_shard_0 : decode cMO_shard 0 = .ok (.aload_n 0, 1) := by decide +kernel
theorem dMO_shard_1 : decode cMO_shard 1 = .ok (.iconst 0, 1) := by decide +kernel
theorem dMO_shard_2 : decode cMO_shard 2 = .ok (.putfield 57, 3) := by decide +kernel
theorem dMO_shard_5 : decode cMO_shard 5 = .ok (.aload_n 0, 1) := by decide +kernel
theorem dMO_shard_6 : decode cMO_shard 6 = .ok (.iload_n 1, 1) := by decide +kernel
theorem dMO_shard_7 : decode cMO_shard 7 = .ok (.invokevirtual 117, 3) := by decide +kernel
theorem dMO_shard_10 : decode cMO_shard 10 = .ok (.ifCond .eq 12, 3) := by decide +kernel
theorem dMO_shard_13 : decode cMO_shard 13 = .ok (.aload_n 0, 1) := by decide +kernel
theorem dMO_shard_14 : decode cMO_shard 14 = .ok (.getfield 16, 3) := by decide +kernel
theorem dMO_shard_17 : decode cMO_shard 17 = .ok (.iload_n 1, 1) := by decide +kernel
theorem dMO_shard_18 : decode cMO_shard 18 = .ok (.iaload, 1) := by decide +kernel
theorem dMO_shard_19 : decode cMO_shard 19 = .ok (.goto 4, 3) := by decide +kernel
theorem dMO_shard_22 : decode cMO_shard 22 = .ok (.iconst (-1), 1) := by decide +kernel
theorem dMO_shard_23 : decode cMO_shard 23 = .ok (.ireturn, 1) := by decide +kernel
theorem dMO_isIn_0 : decode cMO_isIn 0 = .ok (.aload_n 0, 1) := by decide +kernel
theorem dMO_isIn_1 : decode cMO_isIn 1 = .ok (.getfield 104, 3) := by decide +kernel
theorem dMO_isIn_4 : decode cMO_isIn 4 = .ok (.ifCond .eq 19, 3) := by decide +kernel
theorem dMO_isIn_7 : decode cMO_isIn 7 = .ok (.iload_n 1, 1) := by decide +kernel
theorem dMO_isIn_8 : decode cMO_isIn 8 = .ok (.ifCond .lt 15, 3) := by decide +kernel
theorem dMO_isIn_11 : decode cMO_isIn 11 = .ok (.iload_n 1, 1) := by decide +kernel
theorem dMO_isIn_12 : decode cMO_isIn 12 = .ok (.aload_n 0, 1) := by decide +kernel
theorem dMO_isIn_13 : decode cMO_isIn 13 = .ok (.getfield 111, 3) := by decide +kernel
theorem dMO_isIn_16 : decode cMO_isIn 16 = .ok (.if_icmp .ge 7, 3) := by decide +kernel
theorem dMO_isIn_19 : decode cMO_isIn 19 = .ok (.iconst 1, 1) := by decide +kernel
theorem dMO_isIn_20 : decode cMO_isIn 20 = .ok (.goto 4, 3) := by decide +kernel
theorem dMO_isIn_23 : decode cMO_isIn 23 = .ok (.iconst 0, 1) := by decide +kernel
theorem dMO_isIn_24 : decode cMO_isIn 24 = .ok (.ireturn, 1) := by decide +kernel
theorem dMO_sum_0 : decode cMO_sum 0 = .ok (.aload_n 0, 1) := by decide +kernel
theorem dMO_sum_1 : decode cMO_sum 1 = .ok (.iconst 0, 1) := by decide +kernel
theorem dMO_sum_2 : decode cMO_sum 2 = .ok (.putfield 57, 3) := by decide +kernel
theorem dMO_sum_5 : decode cMO_sum 5 = .ok (.aload_n 0, 1) := by decide +kernel
theorem dMO_sum_6 : decode cMO_sum 6 = .ok (.iload_n 1, 1) := by decide +kernel
theorem dMO_sum_7 : decode cMO_sum 7 = .ok (.invokevirtual 120, 3) := by decide +kernel
theorem dMO_sum_10 : decode cMO_sum 10 = .ok (.ifCond .eq 12, 3) := by decide +kernel
theorem dMO_sum_13 : decode cMO_sum 13 = .ok (.aload_n 0, 1) := by decide +kernel
theorem dMO_sum_14 : decode cMO_sum 14 = .ok (.getfield 19, 3) := by decide +kernel
theorem dMO_sum_17 : decode cMO_sum 17 = .ok (.iload_n 1, 1) := by decide +kernel
theorem dMO_sum_18 : decode cMO_sum 18 = .ok (.iaload, 1) := by decide +kernel
theorem dMO_sum_19 : decode cMO_sum 19 = .ok (.goto 4, 3) := by decide +kernel
theorem dMO_sum_22 : decode cMO_sum 22 = .ok (.iconst (-1), 1) := by decide +kernel
theorem dMO_sum_23 : decode cMO_sum 23 = .ok (.ireturn, 1) := by decide +kernel
theorem dMO_isShard_0 : decode cMO_isShard 0 = .ok (.aload_n 0, 1) := by decide +kernel
theorem dMO_isShard_1 : decode cMO_isShard 1 = .ok (.getfield 104, 3) := by decide +kernel
theorem dMO_isShard_4 : decode cMO_isShard 4 = .ok (.ifCond .eq 19, 3) := by decide +kernel
theorem dMO_isShard_7 : decode cMO_isShard 7 = .ok (.iload_n 1, 1) := by decide +kernel
theorem dMO_isShard_8 : decode cMO_isShard 8 = .ok (.ifCond .lt 15, 3) := by decide +kernel
theorem dMO_isShard_11 : decode cMO_isShard 11 = .ok (.iload_n 1, 1) := by decide +kernel
theorem dMO_isShard_12 : decode cMO_isShard 12 = .ok (.aload_n 0, 1) := by decide +kernel
theorem dMO_isShard_13 : decode cMO_isShard 13 = .ok (.getfield 108, 3) := by decide +kernel
theorem dMO_isShard_16 : decode cMO_isShard 16 = .ok (.if_icmp .ge 7, 3) := by decide +kernel
theorem dMO_isShard_19 : decode cMO_isShard 19 = .ok (.iconst 1, 1) := by decide +kernel
theorem dMO_isShard_20 : decode cMO_isShard 20 = .ok (.goto 4, 3) := by decide +kernel
theorem dMO_isShard_23 : decode cMO_isShard 23 = .ok (.iconst 0, 1) := by decide +kernel
theorem dMO_isShard_24 : decode cMO_isShard 24 = .ok (.ireturn, 1) := by decide +kernel
theorem dMO_moved_0 : decode cMO_moved 0 = .ok (.aload_n 0, 1) := by decide +kernel
theorem dMO_moved_1 : decode cMO_moved 1 = .ok (.iconst 0, 1) := by decide +kernel
theorem dMO_moved_2 : decode cMO_moved 2 = .ok (.putfield 57, 3) := by decide +kernel
theorem dMO_moved_5 : decode cMO_moved 5 = .ok (.aload_n 0, 1) := by decide +kernel
theorem dMO_moved_6 : decode cMO_moved 6 = .ok (.getfield 101, 3) := by decide +kernel
theorem dMO_moved_9 : decode cMO_moved 9 = .ok (.ireturn, 1) := by decide +kernel
theorem dMO_empty_0 : decode cMO_empty 0 = .ok (.aload_n 0, 1) := by decide +kernel
theorem dMO_empty_1 : decode cMO_empty 1 = .ok (.iconst 0, 1) := by decide +kernel
theorem dMO_empty_2 : decode cMO_empty 2 = .ok (.putfield 57, 3) := by decide +kernel
theorem dMO_empty_5 : decode cMO_empty 5 = .ok (.iconst 0, 1) := by decide +kernel
theorem dMO_empty_6 : decode cMO_empty 6 = .ok (.istore_n 2, 1) := by decide +kernel
theorem dMO_empty_7 : decode cMO_empty 7 = .ok (.iconst 0, 1) := by decide +kernel
theorem dMO_empty_8 : decode cMO_empty 8 = .ok (.istore_n 3, 1) := by decide +kernel
theorem dMO_empty_9 : decode cMO_empty 9 = .ok (.aload_n 0, 1) := by decide +kernel
theorem dMO_empty_10 : decode cMO_empty 10 = .ok (.iload_n 3, 1) := by decide +kernel
theorem dMO_empty_11 : decode cMO_empty 11 = .ok (.invokevirtual 120, 3) := by decide +kernel
theorem dMO_empty_14 : decode cMO_empty 14 = .ok (.ifCond .eq 30, 3) := by decide +kernel
theorem dMO_empty_17 : decode cMO_empty 17 = .ok (.aload_n 0, 1) := by decide +kernel
theorem dMO_empty_18 : decode cMO_empty 18 = .ok (.iload_n 3, 1) := by decide +kernel
theorem dMO_empty_19 : decode cMO_empty 19 = .ok (.invokevirtual 123, 3) := by decide +kernel
theorem dMO_empty_22 : decode cMO_empty 22 = .ok (.ifCond .le 6, 3) := by decide +kernel
theorem dMO_empty_25 : decode cMO_empty 25 = .ok (.goto 13, 3) := by decide +kernel
theorem dMO_empty_28 : decode cMO_empty 28 = .ok (.iload_n 2, 1) := by decide +kernel
theorem dMO_empty_29 : decode cMO_empty 29 = .ok (.iload_n 1, 1) := by decide +kernel
theorem dMO_empty_30 : decode cMO_empty 30 = .ok (.if_icmp .ne 5, 3) := by decide +kernel
theorem dMO_empty_33 : decode cMO_empty 33 = .ok (.iload_n 3, 1) := by decide +kernel
theorem dMO_empty_34 : decode cMO_empty 34 = .ok (.ireturn, 1) := by decide +kernel
theorem dMO_empty_35 : decode cMO_empty 35 = .ok (.iinc 2 1, 3) := by decide +kernel
theorem dMO_empty_38 : decode cMO_empty 38 = .ok (.iinc 3 1, 3) := by decide +kernel
theorem dMO_empty_41 : decode cMO_empty 41 = .ok (.goto (-32), 3) := by decide +kernel
theorem dMO_empty_44 : decode cMO_empty 44 = .ok (.iconst (-1), 1) := by decide +kernel
theorem dMO_empty_45 : decode cMO_empty 45 = .ok (.ireturn, 1) := by decide +kernel
theorem dMO_testsOf_0 : decode cMO_testsOf 0 = .ok (.iconst 0, 1) := by decide +kernel
theorem dMO_testsOf_1 : decode cMO_testsOf 1 = .ok (.istore_n 2, 1) := by decide +kernel
theorem dMO_testsOf_2 : decode cMO_testsOf 2 = .ok (.iconst 0, 1) := by decide +kernel
theorem dMO_testsOf_3 : decode cMO_testsOf 3 = .ok (.istore_n 3, 1) := by decide +kernel
theorem dMO_testsOf_4 : decode cMO_testsOf 4 = .ok (.iload_n 3, 1) := by decide +kernel
theorem dMO_testsOf_5 : decode cMO_testsOf 5 = .ok (.aload_n 0, 1) := by decide +kernel
theorem dMO_testsOf_6 : decode cMO_testsOf 6 = .ok (.getfield 111, 3) := by decide +kernel
theorem dMO_testsOf_9 : decode cMO_testsOf 9 = .ok (.if_icmp .ge 27, 3) := by decide +kernel
theorem dMO_testsOf_12 : decode cMO_testsOf 12 = .ok (.iload_n 2, 1) := by decide +kernel
theorem dMO_testsOf_13 : decode cMO_testsOf 13 = .ok (.aload_n 0, 1) := by decide +kernel
theorem dMO_testsOf_14 : decode cMO_testsOf 14 = .ok (.getfield 16, 3) := by decide +kernel
theorem dMO_testsOf_17 : decode cMO_testsOf 17 = .ok (.iload_n 3, 1) := by decide +kernel
theorem dMO_testsOf_18 : decode cMO_testsOf 18 = .ok (.iaload, 1) := by decide +kernel
theorem dMO_testsOf_19 : decode cMO_testsOf 19 = .ok (.iload_n 1, 1) := by decide +kernel
theorem dMO_testsOf_20 : decode cMO_testsOf 20 = .ok (.if_icmp .ne 7, 3) := by decide +kernel
theorem dMO_testsOf_23 : decode cMO_testsOf 23 = .ok (.iconst 1, 1) := by decide +kernel
theorem dMO_testsOf_24 : decode cMO_testsOf 24 = .ok (.goto 4, 3) := by decide +kernel
theorem dMO_testsOf_27 : decode cMO_testsOf 27 = .ok (.iconst 0, 1) := by decide +kernel
theorem dMO_testsOf_28 : decode cMO_testsOf 28 = .ok (.iadd, 1) := by decide +kernel
theorem dMO_testsOf_29 : decode cMO_testsOf 29 = .ok (.istore_n 2, 1) := by decide +kernel
theorem dMO_testsOf_30 : decode cMO_testsOf 30 = .ok (.iinc 3 1, 3) := by decide +kernel
theorem dMO_testsOf_33 : decode cMO_testsOf 33 = .ok (.goto (-29), 3) := by decide +kernel
theorem dMO_testsOf_36 : decode cMO_testsOf 36 = .ok (.iload_n 2, 1) := by decide +kernel
theorem dMO_testsOf_37 : decode cMO_testsOf 37 = .ok (.ireturn, 1) := by decide +kernel
theorem dMO_draw_0 : decode cMO_draw 0 = .ok (.aload_n 0, 1) := by decide +kernel
theorem dMO_draw_1 : decode cMO_draw 1 = .ok (.iconst 0, 1) := by decide +kernel
theorem dMO_draw_2 : decode cMO_draw 2 = .ok (.putfield 57, 3) := by decide +kernel
theorem dMO_draw_5 : decode cMO_draw 5 = .ok (.aload_n 0, 1) := by decide +kernel
theorem dMO_draw_6 : decode cMO_draw 6 = .ok (.iload_n 1, 1) := by decide +kernel
theorem dMO_draw_7 : decode cMO_draw 7 = .ok (.invokevirtual 120, 3) := by decide +kernel
theorem dMO_draw_10 : decode cMO_draw 10 = .ok (.ifCond .ne 5, 3) := by decide +kernel
theorem dMO_draw_13 : decode cMO_draw 13 = .ok (.iconst (-1), 1) := by decide +kernel
theorem dMO_draw_14 : decode cMO_draw 14 = .ok (.ireturn, 1) := by decide +kernel
theorem dMO_draw_15 : decode cMO_draw 15 = .ok (.aload_n 0, 1) := by decide +kernel
theorem dMO_draw_16 : decode cMO_draw 16 = .ok (.iconst 0, 1) := by decide +kernel
theorem dMO_draw_17 : decode cMO_draw 17 = .ok (.putfield 127, 3) := by decide +kernel
theorem dMO_draw_20 : decode cMO_draw 20 = .ok (.iconst 0, 1) := by decide +kernel
theorem dMO_draw_21 : decode cMO_draw 21 = .ok (.istore 4, 2) := by decide +kernel
theorem dMO_draw_23 : decode cMO_draw 23 = .ok (.iload 4, 2) := by decide +kernel
theorem dMO_draw_25 : decode cMO_draw 25 = .ok (.aload_n 0, 1) := by decide +kernel
theorem dMO_draw_26 : decode cMO_draw 26 = .ok (.getfield 111, 3) := by decide +kernel
theorem dMO_draw_29 : decode cMO_draw 29 = .ok (.if_icmp .ge 41, 3) := by decide +kernel
theorem dMO_draw_32 : decode cMO_draw 32 = .ok (.aload_n 0, 1) := by decide +kernel
theorem dMO_draw_33 : decode cMO_draw 33 = .ok (.getfield 16, 3) := by decide +kernel
theorem dMO_draw_36 : decode cMO_draw 36 = .ok (.iload 4, 2) := by decide +kernel
theorem dMO_draw_38 : decode cMO_draw 38 = .ok (.iaload, 1) := by decide +kernel
theorem dMO_draw_39 : decode cMO_draw 39 = .ok (.iload_n 1, 1) := by decide +kernel
theorem dMO_draw_40 : decode cMO_draw 40 = .ok (.if_icmp .ne 24, 3) := by decide +kernel
theorem dMO_draw_43 : decode cMO_draw 43 = .ok (.aload_n 0, 1) := by decide +kernel
theorem dMO_draw_44 : decode cMO_draw 44 = .ok (.getfield 35, 3) := by decide +kernel
theorem dMO_draw_47 : decode cMO_draw 47 = .ok (.aload_n 0, 1) := by decide +kernel
theorem dMO_draw_48 : decode cMO_draw 48 = .ok (.getfield 127, 3) := by decide +kernel
theorem dMO_draw_51 : decode cMO_draw 51 = .ok (.iload 4, 2) := by decide +kernel
theorem dMO_draw_53 : decode cMO_draw 53 = .ok (.iastore, 1) := by decide +kernel
theorem dMO_draw_54 : decode cMO_draw 54 = .ok (.aload_n 0, 1) := by decide +kernel
theorem dMO_draw_55 : decode cMO_draw 55 = .ok (.dup, 1) := by decide +kernel
theorem dMO_draw_56 : decode cMO_draw 56 = .ok (.getfield 127, 3) := by decide +kernel
theorem dMO_draw_59 : decode cMO_draw 59 = .ok (.iconst 1, 1) := by decide +kernel
theorem dMO_draw_60 : decode cMO_draw 60 = .ok (.iadd, 1) := by decide +kernel
theorem dMO_draw_61 : decode cMO_draw 61 = .ok (.putfield 127, 3) := by decide +kernel
theorem dMO_draw_64 : decode cMO_draw 64 = .ok (.iinc 4 1, 3) := by decide +kernel
theorem dMO_draw_67 : decode cMO_draw 67 = .ok (.goto (-44), 3) := by decide +kernel
theorem dMO_draw_70 : decode cMO_draw 70 = .ok (.lload_n 2, 1) := by decide +kernel
theorem dMO_draw_71 : decode cMO_draw 71 = .ok (.lstore 4, 2) := by decide +kernel
theorem dMO_draw_73 : decode cMO_draw 73 = .ok (.aload_n 0, 1) := by decide +kernel
theorem dMO_draw_74 : decode cMO_draw 74 = .ok (.getfield 127, 3) := by decide +kernel
theorem dMO_draw_77 : decode cMO_draw 77 = .ok (.iconst 1, 1) := by decide +kernel
theorem dMO_draw_78 : decode cMO_draw 78 = .ok (.isub, 1) := by decide +kernel
theorem dMO_draw_79 : decode cMO_draw 79 = .ok (.istore 6, 2) := by decide +kernel
theorem dMO_draw_81 : decode cMO_draw 81 = .ok (.iload 6, 2) := by decide +kernel
theorem dMO_draw_83 : decode cMO_draw 83 = .ok (.ifCond .le 67, 3) := by decide +kernel
theorem dMO_draw_86 : decode cMO_draw 86 = .ok (.lload 4, 2) := by decide +kernel
theorem dMO_draw_88 : decode cMO_draw 88 = .ok (.ldc2_w 130, 3) := by decide +kernel
theorem dMO_draw_91 : decode cMO_draw 91 = .ok (.lmul, 1) := by decide +kernel
theorem dMO_draw_92 : decode cMO_draw 92 = .ok (.ldc2_w 132, 3) := by decide +kernel
theorem dMO_draw_95 : decode cMO_draw 95 = .ok (.ladd, 1) := by decide +kernel
theorem dMO_draw_96 : decode cMO_draw 96 = .ok (.lstore 4, 2) := by decide +kernel
theorem dMO_draw_98 : decode cMO_draw 98 = .ok (.lload 4, 2) := by decide +kernel
theorem dMO_draw_100 : decode cMO_draw 100 = .ok (.bipush 33, 2) := by decide +kernel
theorem dMO_draw_102 : decode cMO_draw 102 = .ok (.lushr, 1) := by decide +kernel
theorem dMO_draw_103 : decode cMO_draw 103 = .ok (.iload 6, 2) := by decide +kernel
theorem dMO_draw_105 : decode cMO_draw 105 = .ok (.iconst 1, 1) := by decide +kernel
theorem dMO_draw_106 : decode cMO_draw 106 = .ok (.iadd, 1) := by decide +kernel
theorem dMO_draw_107 : decode cMO_draw 107 = .ok (.i2l, 1) := by decide +kernel
theorem dMO_draw_108 : decode cMO_draw 108 = .ok (.lrem, 1) := by decide +kernel
theorem dMO_draw_109 : decode cMO_draw 109 = .ok (.l2i, 1) := by decide +kernel
theorem dMO_draw_110 : decode cMO_draw 110 = .ok (.istore 7, 2) := by decide +kernel
theorem dMO_draw_112 : decode cMO_draw 112 = .ok (.aload_n 0, 1) := by decide +kernel
theorem dMO_draw_113 : decode cMO_draw 113 = .ok (.getfield 35, 3) := by decide +kernel
theorem dMO_draw_116 : decode cMO_draw 116 = .ok (.iload 6, 2) := by decide +kernel
theorem dMO_draw_118 : decode cMO_draw 118 = .ok (.iaload, 1) := by decide +kernel
theorem dMO_draw_119 : decode cMO_draw 119 = .ok (.istore 8, 2) := by decide +kernel
theorem dMO_draw_121 : decode cMO_draw 121 = .ok (.aload_n 0, 1) := by decide +kernel
theorem dMO_draw_122 : decode cMO_draw 122 = .ok (.getfield 35, 3) := by decide +kernel
theorem dMO_draw_125 : decode cMO_draw 125 = .ok (.iload 6, 2) := by decide +kernel
theorem dMO_draw_127 : decode cMO_draw 127 = .ok (.aload_n 0, 1) := by decide +kernel
theorem dMO_draw_128 : decode cMO_draw 128 = .ok (.getfield 35, 3) := by decide +kernel
theorem dMO_draw_131 : decode cMO_draw 131 = .ok (.iload 7, 2) := by decide +kernel
theorem dMO_draw_133 : decode cMO_draw 133 = .ok (.iaload, 1) := by decide +kernel
theorem dMO_draw_134 : decode cMO_draw 134 = .ok (.iastore, 1) := by decide +kernel
theorem dMO_draw_135 : decode cMO_draw 135 = .ok (.aload_n 0, 1) := by decide +kernel
theorem dMO_draw_136 : decode cMO_draw 136 = .ok (.getfield 35, 3) := by decide +kernel
theorem dMO_draw_139 : decode cMO_draw 139 = .ok (.iload 7, 2) := by decide +kernel
theorem dMO_draw_141 : decode cMO_draw 141 = .ok (.iload 8, 2) := by decide +kernel
theorem dMO_draw_143 : decode cMO_draw 143 = .ok (.iastore, 1) := by decide +kernel
theorem dMO_draw_144 : decode cMO_draw 144 = .ok (.iinc 6 (-1), 3) := by decide +kernel
theorem dMO_draw_147 : decode cMO_draw 147 = .ok (.goto (-66), 3) := by decide +kernel
theorem dMO_draw_150 : decode cMO_draw 150 = .ok (.aload_n 0, 1) := by decide +kernel
theorem dMO_draw_151 : decode cMO_draw 151 = .ok (.getfield 127, 3) := by decide +kernel
theorem dMO_draw_154 : decode cMO_draw 154 = .ok (.ireturn, 1) := by decide +kernel
theorem dMO_drawn_0 : decode cMO_drawn 0 = .ok (.aload_n 0, 1) := by decide +kernel
theorem dMO_drawn_1 : decode cMO_drawn 1 = .ok (.iconst 0, 1) := by decide +kernel
theorem dMO_drawn_2 : decode cMO_drawn 2 = .ok (.putfield 57, 3) := by decide +kernel
theorem dMO_drawn_5 : decode cMO_drawn 5 = .ok (.iload_n 1, 1) := by decide +kernel
theorem dMO_drawn_6 : decode cMO_drawn 6 = .ok (.ifCond .lt 20, 3) := by decide +kernel
theorem dMO_drawn_9 : decode cMO_drawn 9 = .ok (.iload_n 1, 1) := by decide +kernel
theorem dMO_drawn_10 : decode cMO_drawn 10 = .ok (.aload_n 0, 1) := by decide +kernel
theorem dMO_drawn_11 : decode cMO_drawn 11 = .ok (.getfield 127, 3) := by decide +kernel
theorem dMO_drawn_14 : decode cMO_drawn 14 = .ok (.if_icmp .ge 12, 3) := by decide +kernel
theorem dMO_drawn_17 : decode cMO_drawn 17 = .ok (.aload_n 0, 1) := by decide +kernel
theorem dMO_drawn_18 : decode cMO_drawn 18 = .ok (.getfield 35, 3) := by decide +kernel
theorem dMO_drawn_21 : decode cMO_drawn 21 = .ok (.iload_n 1, 1) := by decide +kernel
theorem dMO_drawn_22 : decode cMO_drawn 22 = .ok (.iaload, 1) := by decide +kernel
theorem dMO_drawn_23 : decode cMO_drawn 23 = .ok (.goto 4, 3) := by decide +kernel
theorem dMO_drawn_26 : decode cMO_drawn 26 = .ok (.iconst (-1), 1) := by decide +kernel
theorem dMO_drawn_27 : decode cMO_drawn 27 = .ok (.ireturn, 1) := by decide +kernel
theorem dMO_result_0 : decode cMO_result 0 = .ok (.aload_n 0, 1) := by decide +kernel
theorem dMO_result_1 : decode cMO_result 1 = .ok (.iconst 0, 1) := by decide +kernel
theorem dMO_result_2 : decode cMO_result 2 = .ok (.putfield 57, 3) := by decide +kernel
theorem dMO_result_5 : decode cMO_result 5 = .ok (.aload_n 0, 1) := by decide +kernel
theorem dMO_result_6 : decode cMO_result 6 = .ok (.iload_n 1, 1) := by decide +kernel
theorem dMO_result_7 : decode cMO_result 7 = .ok (.invokevirtual 117, 3) := by decide +kernel
theorem dMO_result_10 : decode cMO_result 10 = .ok (.ifCond .eq 11, 3) := by decide +kernel
theorem dMO_result_13 : decode cMO_result 13 = .ok (.aload_n 0, 1) := by decide +kernel
theorem dMO_result_14 : decode cMO_result 14 = .ok (.iload_n 2, 1) := by decide +kernel
theorem dMO_result_15 : decode cMO_result 15 = .ok (.invokevirtual 120, 3) := by decide +kernel
theorem dMO_result_18 : decode cMO_result 18 = .ok (.ifCond .ne 5, 3) := by decide +kernel
theorem dMO_result_21 : decode cMO_result 21 = .ok (.iconst (-1), 1) := by decide +kernel
theorem dMO_result_22 : decode cMO_result 22 = .ok (.ireturn, 1) := by decide +kernel
theorem dMO_result_23 : decode cMO_result 23 = .ok (.aload_n 0, 1) := by decide +kernel
theorem dMO_result_24 : decode cMO_result 24 = .ok (.getfield 16, 3) := by decide +kernel
theorem dMO_result_27 : decode cMO_result 27 = .ok (.iload_n 1, 1) := by decide +kernel
theorem dMO_result_28 : decode cMO_result 28 = .ok (.iaload, 1) := by decide +kernel
theorem dMO_result_29 : decode cMO_result 29 = .ok (.iload_n 2, 1) := by decide +kernel
theorem dMO_result_30 : decode cMO_result 30 = .ok (.if_icmp .eq 16, 3) := by decide +kernel
theorem dMO_result_33 : decode cMO_result 33 = .ok (.aload_n 0, 1) := by decide +kernel
theorem dMO_result_34 : decode cMO_result 34 = .ok (.dup, 1) := by decide +kernel
theorem dMO_result_35 : decode cMO_result 35 = .ok (.getfield 114, 3) := by decide +kernel
theorem dMO_result_38 : decode cMO_result 38 = .ok (.iconst 1, 1) := by decide +kernel
theorem dMO_result_39 : decode cMO_result 39 = .ok (.iadd, 1) := by decide +kernel
theorem dMO_result_40 : decode cMO_result 40 = .ok (.putfield 114, 3) := by decide +kernel
theorem dMO_result_43 : decode cMO_result 43 = .ok (.bipush (-2), 2) := by decide +kernel
theorem dMO_result_45 : decode cMO_result 45 = .ok (.ireturn, 1) := by decide +kernel
theorem dMO_result_46 : decode cMO_result 46 = .ok (.aload_n 0, 1) := by decide +kernel
theorem dMO_result_47 : decode cMO_result 47 = .ok (.getfield 25, 3) := by decide +kernel
theorem dMO_result_50 : decode cMO_result 50 = .ok (.iload_n 1, 1) := by decide +kernel
theorem dMO_result_51 : decode cMO_result 51 = .ok (.baload, 1) := by decide +kernel
theorem dMO_result_52 : decode cMO_result 52 = .ok (.ifCond .eq 5, 3) := by decide +kernel
theorem dMO_result_55 : decode cMO_result 55 = .ok (.iconst 0, 1) := by decide +kernel
theorem dMO_result_56 : decode cMO_result 56 = .ok (.ireturn, 1) := by decide +kernel
theorem dMO_result_57 : decode cMO_result 57 = .ok (.aload_n 0, 1) := by decide +kernel
theorem dMO_result_58 : decode cMO_result 58 = .ok (.getfield 25, 3) := by decide +kernel
theorem dMO_result_61 : decode cMO_result 61 = .ok (.iload_n 1, 1) := by decide +kernel
theorem dMO_result_62 : decode cMO_result 62 = .ok (.iconst 1, 1) := by decide +kernel
theorem dMO_result_63 : decode cMO_result 63 = .ok (.bastore, 1) := by decide +kernel
theorem dMO_result_64 : decode cMO_result 64 = .ok (.aload_n 0, 1) := by decide +kernel
theorem dMO_result_65 : decode cMO_result 65 = .ok (.getfield 29, 3) := by decide +kernel
theorem dMO_result_68 : decode cMO_result 68 = .ok (.iload_n 1, 1) := by decide +kernel
theorem dMO_result_69 : decode cMO_result 69 = .ok (.iload_n 3, 1) := by decide +kernel
theorem dMO_result_70 : decode cMO_result 70 = .ok (.ifCond .ne 7, 3) := by decide +kernel
theorem dMO_result_73 : decode cMO_result 73 = .ok (.iconst 1, 1) := by decide +kernel
theorem dMO_result_74 : decode cMO_result 74 = .ok (.goto 4, 3) := by decide +kernel
theorem dMO_result_77 : decode cMO_result 77 = .ok (.iconst 0, 1) := by decide +kernel
theorem dMO_result_78 : decode cMO_result 78 = .ok (.bastore, 1) := by decide +kernel
theorem dMO_result_79 : decode cMO_result 79 = .ok (.aload_n 0, 1) := by decide +kernel
theorem dMO_result_80 : decode cMO_result 80 = .ok (.getfield 32, 3) := by decide +kernel
