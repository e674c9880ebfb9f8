theorem dX5_count_19 : decode cX5_count 19 = .ok (.athrow, 1) := by decide +kernel
theorem dX5_count_20 : decode cX5_count 20 = .ok (.iload_n 1, 1) := by decide +kernel
theorem dX5_count_21 : decode cX5_count 21 = .ok (.tableswitch 81 0 5 #[39, 47, 52, 60, 68, 76], 39) := by decide +kernel
theorem dX5_count_60 : decode cX5_count 60 = .ok (.aload_n 0, 1) := by decide +kernel
theorem dX5_count_61 : decode cX5_count 61 = .ok (.getfield 10, 3) := by decide +kernel
theorem dX5_count_64 : decode cX5_count 64 = .ok (.invokevirtual 222, 3) := by decide +kernel
theorem dX5_count_67 : decode cX5_count 67 = .ok (.ireturn, 1) := by decide +kernel
theorem dX5_count_68 : decode cX5_count 68 = .ok (.aload_n 0, 1) := by decide +kernel
theorem dX5_count_69 : decode cX5_count 69 = .ok (.getfield 148, 3) := by decide +kernel
theorem dX5_count_72 : decode cX5_count 72 = .ok (.ireturn, 1) := by decide +kernel
theorem dX5_count_73 : decode cX5_count 73 = .ok (.aload_n 0, 1) := by decide +kernel
theorem dX5_count_74 : decode cX5_count 74 = .ok (.getfield 19, 3) := by decide +kernel
theorem dX5_count_77 : decode cX5_count 77 = .ok (.getfield 225, 3) := by decide +kernel
theorem dX5_count_80 : decode cX5_count 80 = .ok (.ireturn, 1) := by decide +kernel
theorem dX5_count_81 : decode cX5_count 81 = .ok (.aload_n 0, 1) := by decide +kernel
theorem dX5_count_82 : decode cX5_count 82 = .ok (.getfield 19, 3) := by decide +kernel
theorem dX5_count_85 : decode cX5_count 85 = .ok (.getfield 228, 3) := by decide +kernel
theorem dX5_count_88 : decode cX5_count 88 = .ok (.ireturn, 1) := by decide +kernel
theorem dX5_count_89 : decode cX5_count 89 = .ok (.aload_n 0, 1) := by decide +kernel
theorem dX5_count_90 : decode cX5_count 90 = .ok (.getfield 19, 3) := by decide +kernel
theorem dX5_count_93 : decode cX5_count 93 = .ok (.getfield 229, 3) := by decide +kernel
theorem dX5_count_96 : decode cX5_count 96 = .ok (.ireturn, 1) := by decide +kernel
theorem dX5_count_97 : decode cX5_count 97 = .ok (.aload_n 0, 1) := by decide +kernel
theorem dX5_count_98 : decode cX5_count 98 = .ok (.getfield 134, 3) := by decide +kernel
theorem dX5_count_101 : decode cX5_count 101 = .ok (.ireturn, 1) := by decide +kernel
theorem dX5_count_102 : decode cX5_count 102 = .ok (.aload_n 0, 1) := by decide +kernel
theorem dX5_count_103 : decode cX5_count 103 = .ok (.getfield 215, 3) := by decide +kernel
theorem dX5_count_106 : decode cX5_count 106 = .ok (.ireturn, 1) := by decide +kernel
theorem dX5_mean_0 : decode cX5_mean 0 = .ok (.aload_n 0, 1) := by decide +kernel
theorem dX5_mean_1 : decode cX5_mean 1 = .ok (.getfield 10, 3) := by decide +kernel
theorem dX5_mean_4 : decode cX5_mean 4 = .ok (.invokevirtual 222, 3) := by decide +kernel
theorem dX5_mean_7 : decode cX5_mean 7 = .ok (.istore_n 1, 1) := by decide +kernel
theorem dX5_mean_8 : decode cX5_mean 8 = .ok (.iload_n 1, 1) := by decide +kernel
theorem dX5_mean_9 : decode cX5_mean 9 = .ok (.ifCond .ne 5, 3) := by decide +kernel
theorem dX5_mean_12 : decode cX5_mean 12 = .ok (.dconst 0, 1) := by decide +kernel
theorem dX5_mean_13 : decode cX5_mean 13 = .ok (.dreturn, 1) := by decide +kernel
theorem dX5_mean_14 : decode cX5_mean 14 = .ok (.iconst 0, 1) := by decide +kernel
theorem dX5_mean_15 : decode cX5_mean 15 = .ok (.istore_n 2, 1) := by decide +kernel
theorem dX5_mean_16 : decode cX5_mean 16 = .ok (.iconst 0, 1) := by decide +kernel
theorem dX5_mean_17 : decode cX5_mean 17 = .ok (.istore_n 3, 1) := by decide +kernel
theorem dX5_mean_18 : decode cX5_mean 18 = .ok (.iload_n 3, 1) := by decide +kernel
theorem dX5_mean_19 : decode cX5_mean 19 = .ok (.bipush 12, 2) := by decide +kernel
theorem dX5_mean_21 : decode cX5_mean 21 = .ok (.if_icmp .ge 21, 3) := by decide +kernel
theorem dX5_mean_24 : decode cX5_mean 24 = .ok (.iload_n 2, 1) := by decide +kernel
theorem dX5_mean_25 : decode cX5_mean 25 = .ok (.aload_n 0, 1) := by decide +kernel
theorem dX5_mean_26 : decode cX5_mean 26 = .ok (.getfield 10, 3) := by decide +kernel
theorem dX5_mean_29 : decode cX5_mean 29 = .ok (.getfield 81, 3) := by decide +kernel
theorem dX5_mean_32 : decode cX5_mean 32 = .ok (.iload_n 3, 1) := by decide +kernel
theorem dX5_mean_33 : decode cX5_mean 33 = .ok (.iaload, 1) := by decide +kernel
theorem dX5_mean_34 : decode cX5_mean 34 = .ok (.iadd, 1) := by decide +kernel
theorem dX5_mean_35 : decode cX5_mean 35 = .ok (.istore_n 2, 1) := by decide +kernel
theorem dX5_mean_36 : decode cX5_mean 36 = .ok (.iinc 3 1, 3) := by decide +kernel
theorem dX5_mean_39 : decode cX5_mean 39 = .ok (.goto (-21), 3) := by decide +kernel
theorem dX5_mean_42 : decode cX5_mean 42 = .ok (.iload_n 2, 1) := by decide +kernel
theorem dX5_mean_43 : decode cX5_mean 43 = .ok (.i2d, 1) := by decide +kernel
theorem dX5_mean_44 : decode cX5_mean 44 = .ok (.iload_n 1, 1) := by decide +kernel
theorem dX5_mean_45 : decode cX5_mean 45 = .ok (.i2d, 1) := by decide +kernel
theorem dX5_mean_46 : decode cX5_mean 46 = .ok (.ddiv, 1) := by decide +kernel
theorem dX5_mean_47 : decode cX5_mean 47 = .ok (.dreturn, 1) := by decide +kernel
theorem dX5_digest_0 : decode cX5_digest 0 = .ok (.ldc2_w 230, 3) := by decide +kernel
theorem dX5_digest_3 : decode cX5_digest 3 = .ok (.lstore_n 1, 1) := by decide +kernel
theorem dX5_digest_4 : decode cX5_digest 4 = .ok (.iconst 0, 1) := by decide +kernel
theorem dX5_digest_5 : decode cX5_digest 5 = .ok (.istore_n 3, 1) := by decide +kernel
theorem dX5_digest_6 : decode cX5_digest 6 = .ok (.iload_n 3, 1) := by decide +kernel
theorem dX5_digest_7 : decode cX5_digest 7 = .ok (.bipush 7, 2) := by decide +kernel
theorem dX5_digest_9 : decode cX5_digest 9 = .ok (.if_icmp .ge 19, 3) := by decide +kernel
theorem dX5_digest_12 : decode cX5_digest 12 = .ok (.lload_n 1, 1) := by decide +kernel
theorem dX5_digest_13 : decode cX5_digest 13 = .ok (.aload_n 0, 1) := by decide +kernel
theorem dX5_digest_14 : decode cX5_digest 14 = .ok (.iload_n 3, 1) := by decide +kernel
theorem dX5_digest_15 : decode cX5_digest 15 = .ok (.invokevirtual 232, 3) := by decide +kernel
theorem dX5_digest_18 : decode cX5_digest 18 = .ok (.invokestatic 235, 3) := by decide +kernel
theorem dX5_digest_21 : decode cX5_digest 21 = .ok (.lstore_n 1, 1) := by decide +kernel
theorem dX5_digest_22 : decode cX5_digest 22 = .ok (.iinc 3 1, 3) := by decide +kernel
theorem dX5_digest_25 : decode cX5_digest 25 = .ok (.goto (-19), 3) := by decide +kernel
theorem dX5_digest_28 : decode cX5_digest 28 = .ok (.iconst 0, 1) := by decide +kernel
theorem dX5_digest_29 : decode cX5_digest 29 = .ok (.istore_n 3, 1) := by decide +kernel
theorem dX5_digest_30 : decode cX5_digest 30 = .ok (.iload_n 3, 1) := by decide +kernel
theorem dX5_digest_31 : decode cX5_digest 31 = .ok (.bipush 12, 2) := by decide +kernel
theorem dX5_digest_33 : decode cX5_digest 33 = .ok (.if_icmp .ge 36, 3) := by decide +kernel
theorem dX5_digest_36 : decode cX5_digest 36 = .ok (.iconst 0, 1) := by decide +kernel
theorem dX5_digest_37 : decode cX5_digest 37 = .ok (.istore 4, 2) := by decide +kernel
theorem dX5_digest_39 : decode cX5_digest 39 = .ok (.iload 4, 2) := by decide +kernel
theorem dX5_digest_41 : decode cX5_digest 41 = .ok (.iconst 3, 1) := by decide +kernel
theorem dX5_digest_42 : decode cX5_digest 42 = .ok (.if_icmp .ge 21, 3) := by decide +kernel
theorem dX5_digest_45 : decode cX5_digest 45 = .ok (.lload_n 1, 1) := by decide +kernel
theorem dX5_digest_46 : decode cX5_digest 46 = .ok (.aload_n 0, 1) := by decide +kernel
theorem dX5_digest_47 : decode cX5_digest 47 = .ok (.iload_n 3, 1) := by decide +kernel
theorem dX5_digest_48 : decode cX5_digest 48 = .ok (.iload 4, 2) := by decide +kernel
theorem dX5_digest_50 : decode cX5_digest 50 = .ok (.invokevirtual 239, 3) := by decide +kernel
theorem dX5_digest_53 : decode cX5_digest 53 = .ok (.invokestatic 235, 3) := by decide +kernel
theorem dX5_digest_56 : decode cX5_digest 56 = .ok (.lstore_n 1, 1) := by decide +kernel
theorem dX5_digest_57 : decode cX5_digest 57 = .ok (.iinc 4 1, 3) := by decide +kernel
theorem dX5_digest_60 : decode cX5_digest 60 = .ok (.goto (-21), 3) := by decide +kernel
theorem dX5_digest_63 : decode cX5_digest 63 = .ok (.iinc 3 1, 3) := by decide +kernel
theorem dX5_digest_66 : decode cX5_digest 66 = .ok (.goto (-36), 3) := by decide +kernel
theorem dX5_digest_69 : decode cX5_digest 69 = .ok (.iconst 0, 1) := by decide +kernel
theorem dX5_digest_70 : decode cX5_digest 70 = .ok (.istore_n 3, 1) := by decide +kernel
theorem dX5_digest_71 : decode cX5_digest 71 = .ok (.iload_n 3, 1) := by decide +kernel
theorem dX5_digest_72 : decode cX5_digest 72 = .ok (.aload_n 0, 1) := by decide +kernel
theorem dX5_digest_73 : decode cX5_digest 73 = .ok (.getfield 148, 3) := by decide +kernel
theorem dX5_digest_76 : decode cX5_digest 76 = .ok (.if_icmp .ge 77, 3) := by decide +kernel
theorem dX5_digest_79 : decode cX5_digest 79 = .ok (.iconst 0, 1) := by decide +kernel
theorem dX5_digest_80 : decode cX5_digest 80 = .ok (.istore 4, 2) := by decide +kernel
theorem dX5_digest_82 : decode cX5_digest 82 = .ok (.iload 4, 2) := by decide +kernel
theorem dX5_digest_84 : decode cX5_digest 84 = .ok (.bipush 7, 2) := by decide +kernel
theorem dX5_digest_86 : decode cX5_digest 86 = .ok (.if_icmp .ge 21, 3) := by decide +kernel
theorem dX5_digest_89 : decode cX5_digest 89 = .ok (.lload_n 1, 1) := by decide +kernel
theorem dX5_digest_90 : decode cX5_digest 90 = .ok (.aload_n 0, 1) := by decide +kernel
theorem dX5_digest_91 : decode cX5_digest 91 = .ok (.iload_n 3, 1) := by decide +kernel
theorem dX5_digest_92 : decode cX5_digest 92 = .ok (.iload 4, 2) := by decide +kernel
theorem dX5_digest_94 : decode cX5_digest 94 = .ok (.invokevirtual 242, 3) := by decide +kernel
theorem dX5_digest_97 : decode cX5_digest 97 = .ok (.invokestatic 235, 3) := by decide +kernel
theorem dX5_digest_100 : decode cX5_digest 100 = .ok (.lstore_n 1, 1) := by decide +kernel
theorem dX5_digest_101 : decode cX5_digest 101 = .ok (.iinc 4 1, 3) := by decide +kernel
theorem dX5_digest_104 : decode cX5_digest 104 = .ok (.goto (-22), 3) := by decide +kernel
theorem dX5_digest_107 : decode cX5_digest 107 = .ok (.iconst 0, 1) := by decide +kernel
theorem dX5_digest_108 : decode cX5_digest 108 = .ok (.istore 4, 2) := by decide +kernel
theorem dX5_digest_110 : decode cX5_digest 110 = .ok (.iload 4, 2) := by decide +kernel
theorem dX5_digest_112 : decode cX5_digest 112 = .ok (.aload_n 0, 1) := by decide +kernel
theorem dX5_digest_113 : decode cX5_digest 113 = .ok (.getfield 41, 3) := by decide +kernel
theorem dX5_digest_116 : decode cX5_digest 116 = .ok (.iload_n 3, 1) := by decide +kernel
theorem dX5_digest_117 : decode cX5_digest 117 = .ok (.aaload, 1) := by decide +kernel
theorem dX5_digest_118 : decode cX5_digest 118 = .ok (.getfield 169, 3) := by decide +kernel
theorem dX5_digest_121 : decode cX5_digest 121 = .ok (.if_icmp .ge 26, 3) := by decide +kernel
theorem dX5_digest_124 : decode cX5_digest 124 = .ok (.lload_n 1, 1) := by decide +kernel
theorem dX5_digest_125 : decode cX5_digest 125 = .ok (.aload_n 0, 1) := by decide +kernel
theorem dX5_digest_126 : decode cX5_digest 126 = .ok (.getfield 41, 3) := by decide +kernel
theorem dX5_digest_129 : decode cX5_digest 129 = .ok (.iload_n 3, 1) := by decide +kernel
theorem dX5_digest_130 : decode cX5_digest 130 = .ok (.aaload, 1) := by decide +kernel
theorem dX5_digest_131 : decode cX5_digest 131 = .ok (.getfield 199, 3) := by decide +kernel
theorem dX5_digest_134 : decode cX5_digest 134 = .ok (.iload 4, 2) := by decide +kernel
theorem dX5_digest_136 : decode cX5_digest 136 = .ok (.iaload, 1) := by decide +kernel
theorem dX5_digest_137 : decode cX5_digest 137 = .ok (.invokestatic 235, 3) := by decide +kernel
theorem dX5_digest_140 : decode cX5_digest 140 = .ok (.lstore_n 1, 1) := by decide +kernel
theorem dX5_digest_141 : decode cX5_digest 141 = .ok (.iinc 4 1, 3) := by decide +kernel
theorem dX5_digest_144 : decode cX5_digest 144 = .ok (.goto (-34), 3) := by decide +kernel
theorem dX5_digest_147 : decode cX5_digest 147 = .ok (.iinc 3 1, 3) := by decide +kernel
theorem dX5_digest_150 : decode cX5_digest 150 = .ok (.goto (-79), 3) := by decide +kernel
theorem dX5_digest_153 : decode cX5_digest 153 = .ok (.iconst 0, 1) := by decide +kernel
theorem dX5_digest_154 : decode cX5_digest 154 = .ok (.istore_n 3, 1) := by decide +kernel
theorem dX5_digest_155 : decode cX5_digest 155 = .ok (.iload_n 3, 1) := by decide +kernel
theorem dX5_digest_156 : decode cX5_digest 156 = .ok (.aload_n 0, 1) := by decide +kernel
theorem dX5_digest_157 : decode cX5_digest 157 = .ok (.getfield 215, 3) := by decide +kernel
theorem dX5_digest_160 : decode cX5_digest 160 = .ok (.if_icmp .ge 20, 3) := by decide +kernel
theorem dX5_digest_163 : decode cX5_digest 163 = .ok (.lload_n 1, 1) := by decide +kernel
theorem dX5_digest_164 : decode cX5_digest 164 = .ok (.aload_n 0, 1) := by decide +kernel
theorem dX5_digest_165 : decode cX5_digest 165 = .ok (.getfield 50, 3) := by decide +kernel
theorem dX5_digest_168 : decode cX5_digest 168 = .ok (.iload_n 3, 1) := by decide +kernel
theorem dX5_digest_169 : decode cX5_digest 169 = .ok (.iaload, 1) := by decide +kernel
theorem dX5_digest_170 : decode cX5_digest 170 = .ok (.invokestatic 235, 3) := by decide +kernel
theorem dX5_digest_173 : decode cX5_digest 173 = .ok (.lstore_n 1, 1) := by decide +kernel
theorem dX5_digest_174 : decode cX5_digest 174 = .ok (.iinc 3 1, 3) := by decide +kernel
theorem dX5_digest_177 : decode cX5_digest 177 = .ok (.goto (-22), 3) := by decide +kernel
theorem dX5_digest_180 : decode cX5_digest 180 = .ok (.lload_n 1, 1) := by decide +kernel
theorem dX5_digest_181 : decode cX5_digest 181 = .ok (.lreturn, 1) := by decide +kernel
theorem dX5_isNoLetter_0 : decode cX5_isNoLetter 0 = .ok (.iload_n 0, 1) := by decide +kernel
theorem dX5_isNoLetter_1 : decode cX5_isNoLetter 1 = .ok (.ifCond .lt 9, 3) := by decide +kernel
theorem dX5_isNoLetter_4 : decode cX5_isNoLetter 4 = .ok (.iload_n 0, 1) := by decide +kernel
theorem dX5_isNoLetter_5 : decode cX5_isNoLetter 5 = .ok (.bipush 12, 2) := by decide +kernel
theorem dX5_isNoLetter_7 : decode cX5_isNoLetter 7 = .ok (.if_icmp .lt 7, 3) := by decide +kernel
theorem dX5_isNoLetter_10 : decode cX5_isNoLetter 10 = .ok (.iconst 1, 1) := by decide +kernel
theorem dX5_isNoLetter_11 : decode cX5_isNoLetter 11 = .ok (.goto 4, 3) := by decide +kernel
theorem dX5_isNoLetter_14 : decode cX5_isNoLetter 14 = .ok (.iconst 0, 1) := by decide +kernel
theorem dX5_isNoLetter_15 : decode cX5_isNoLetter 15 = .ok (.ireturn, 1) := by decide +kernel
theorem dX5_isNoKind_0 : decode cX5_isNoKind 0 = .ok (.iload_n 0, 1) := by decide +kernel
theorem dX5_isNoKind_1 : decode cX5_isNoKind 1 = .ok (.iconst 1, 1) := by decide +kernel
theorem dX5_isNoKind_2 : decode cX5_isNoKind 2 = .ok (.if_icmp .lt 8, 3) := by decide +kernel
theorem dX5_isNoKind_5 : decode cX5_isNoKind 5 = .ok (.iload_n 0, 1) := by decide +kernel
theorem dX5_isNoKind_6 : decode cX5_isNoKind 6 = .ok (.iconst 4, 1) := by decide +kernel
theorem dX5_isNoKind_7 : decode cX5_isNoKind 7 = .ok (.if_icmp .le 7, 3) := by decide +kernel
theorem dX5_isNoKind_10 : decode cX5_isNoKind 10 = .ok (.iconst 1, 1) := by decide +kernel
theorem dX5_isNoKind_11 : decode cX5_isNoKind 11 = .ok (.goto 4, 3) := by decide +kernel
theorem dX5_isNoKind_14 : decode cX5_isNoKind 14 = .ok (.iconst 0, 1) := by decide +kernel
theorem dX5_isNoKind_15 : decode cX5_isNoKind 15 = .ok (.ireturn, 1) := by decide +kernel
theorem dX5_isNoCord_0 : decode cX5_isNoCord 0 = .ok (.iload_n 1, 1) := by decide +kernel
theorem dX5_isNoCord_1 : decode cX5_isNoCord 1 = .ok (.ifCond .lt 11, 3) := by decide +kernel
theorem dX5_isNoCord_4 : decode cX5_isNoCord 4 = .ok (.iload_n 1, 1) := by decide +kernel
theorem dX5_isNoCord_5 : decode cX5_isNoCord 5 = .ok (.aload_n 0, 1) := by decide +kernel
theorem dX5_isNoCord_6 : decode cX5_isNoCord 6 = .ok (.getfield 148, 3) := by decide +kernel
theorem dX5_isNoCord_9 : decode cX5_isNoCord 9 = .ok (.if_icmp .lt 7, 3) := by decide +kernel
theorem dX5_isNoCord_12 : decode cX5_isNoCord 12 = .ok (.iconst 1, 1) := by decide +kernel
theorem dX5_isNoCord_13 : decode cX5_isNoCord 13 = .ok (.goto 4, 3) := by decide +kernel
theorem dX5_isNoCord_16 : decode cX5_isNoCord 16 = .ok (.iconst 0, 1) := by decide +kernel
theorem dX5_isNoCord_17 : decode cX5_isNoCord 17 = .ok (.ireturn, 1) := by decide +kernel
theorem dX5_isNoPlace_0 : decode cX5_isNoPlace 0 = .ok (.aload_n 0, 1) := by decide +kernel
theorem dX5_isNoPlace_1 : decode cX5_isNoPlace 1 = .ok (.iload_n 1, 1) := by decide +kernel
theorem dX5_isNoPlace_2 : decode cX5_isNoPlace 2 = .ok (.invokevirtual 164, 3) := by decide +kernel
theorem dX5_isNoPlace_5 : decode cX5_isNoPlace 5 = .ok (.ifCond .ne 20, 3) := by decide +kernel
theorem dX5_isNoPlace_8 : decode cX5_isNoPlace 8 = .ok (.iload_n 2, 1) := by decide +kernel
theorem dX5_isNoPlace_9 : decode cX5_isNoPlace 9 = .ok (.ifCond .lt 16, 3) := by decide +kernel
theorem dX5_isNoPlace_12 : decode cX5_isNoPlace 12 = .ok (.iload_n 2, 1) := by decide +kernel
theorem dX5_isNoPlace_13 : decode cX5_isNoPlace 13 = .ok (.aload_n 0, 1) := by decide +kernel
theorem dX5_isNoPlace_14 : decode cX5_isNoPlace 14 = .ok (.getfield 41, 3) := by decide +kernel
theorem dX5_isNoPlace_17 : decode cX5_isNoPlace 17 = .ok (.iload_n 1, 1) := by decide +kernel
theorem dX5_isNoPlace_18 : decode cX5_isNoPlace 18 = .ok (.aaload, 1) := by decide +kernel
theorem dX5_isNoPlace_19 : decode cX5_isNoPlace 19 = .ok (.getfield 169, 3) := by decide +kernel
theorem dX5_isNoPlace_22 : decode cX5_isNoPlace 22 = .ok (.if_icmp .lt 7, 3) := by decide +kernel
theorem dX5_isNoPlace_25 : decode cX5_isNoPlace 25 = .ok (.iconst 1, 1) := by decide +kernel
theorem dX5_isNoPlace_26 : decode cX5_isNoPlace 26 = .ok (.goto 4, 3) := by decide +kernel
theorem dX5_isNoPlace_29 : decode cX5_isNoPlace 29 = .ok (.iconst 0, 1) := by decide +kernel
theorem dX5_isNoPlace_30 : decode cX5_isNoPlace 30 = .ok (.ireturn, 1) := by decide +kernel
theorem dX5_mixed_0 : decode cX5_mixed 0 = .ok (.lload_n 0, 1) := by decide +kernel
theorem dX5_mixed_1 : decode cX5_mixed 1 = .ok (.ldc2_w 245, 3) := by decide +kernel
theorem dX5_mixed_4 : decode cX5_mixed 4 = .ok (.lmul, 1) := by decide +kernel
theorem dX5_mixed_5 : decode cX5_mixed 5 = .ok (.iload_n 2, 1) := by decide +kernel
theorem dX5_mixed_6 : decode cX5_mixed 6 = .ok (.i2l, 1) := by decide +kernel
theorem dX5_mixed_7 : decode cX5_mixed 7 = .ok (.ladd, 1) := by decide +kernel
theorem dX5_mixed_8 : decode cX5_mixed 8 = .ok (.lreturn, 1) := by decide +kernel
theorem dX5_letterDistance_0 : decode cX5_letterDistance 0 = .ok (.aload_n 0, 1) := by decide +kernel
theorem dX5_letterDistance_1 : decode cX5_letterDistance 1 = .ok (.getfield 10, 3) := by decide +kernel
theorem dX5_letterDistance_4 : decode cX5_letterDistance 4 = .ok (.getfield 72, 3) := by decide +kernel
theorem dX5_letterDistance_7 : decode cX5_letterDistance 7 = .ok (.iload_n 1, 1) := by decide +kernel
theorem dX5_letterDistance_8 : decode cX5_letterDistance 8 = .ok (.iaload, 1) := by decide +kernel
theorem dX5_letterDistance_9 : decode cX5_letterDistance 9 = .ok (.ifCond .eq 15, 3) := by decide +kernel
theorem dX5_letterDistance_12 : decode cX5_letterDistance 12 = .ok (.aload_n 0, 1) := by decide +kernel
theorem dX5_letterDistance_13 : decode cX5_letterDistance 13 = .ok (.getfield 10, 3) := by decide +kernel
theorem dX5_letterDistance_16 : decode cX5_letterDistance 16 = .ok (.getfield 72, 3) := by decide +kernel
theorem dX5_letterDistance_19 : decode cX5_letterDistance 19 = .ok (.iload_n 2, 1) := by decide +kernel
theorem dX5_letterDistance_20 : decode cX5_letterDistance 20 = .ok (.iaload, 1) := by decide +kernel
theorem dX5_letterDistance_21 : decode cX5_letterDistance 21 = .ok (.ifCond .ne 5, 3) := by decide +kernel
theorem dX5_letterDistance_24 : decode cX5_letterDistance 24 = .ok (.iconst (-1), 1) := by decide +kernel
theorem dX5_letterDistance_25 : decode cX5_letterDistance 25 = .ok (.ireturn, 1) := by decide +kernel
theorem dX5_letterDistance_26 : decode cX5_letterDistance 26 = .ok (.aload_n 0, 1) := by decide +kernel
theorem dX5_letterDistance_27 : decode cX5_letterDistance 27 = .ok (.getfield 26, 3) := by decide +kernel
theorem dX5_letterDistance_30 : decode cX5_letterDistance 30 = .ok (.aload_n 0, 1) := by decide +kernel
theorem dX5_letterDistance_31 : decode cX5_letterDistance 31 = .ok (.getfield 10, 3) := by decide +kernel
theorem dX5_letterDistance_34 : decode cX5_letterDistance 34 = .ok (.getfield 247, 3) := by decide +kernel
theorem dX5_letterDistance_37 : decode cX5_letterDistance 37 = .ok (.iload_n 1, 1) := by decide +kernel
theorem dX5_letterDistance_38 : decode cX5_letterDistance 38 = .ok (.iconst 4, 1) := by decide +kernel
theorem dX5_letterDistance_39 : decode cX5_letterDistance 39 = .ok (.imul, 1) := by decide +kernel
theorem dX5_letterDistance_40 : decode cX5_letterDistance 40 = .ok (.aload_n 0, 1) := by decide +kernel
theorem dX5_letterDistance_41 : decode cX5_letterDistance 41 = .ok (.getfield 10, 3) := by decide +kernel
theorem dX5_letterDistance_44 : decode cX5_letterDistance 44 = .ok (.getfield 81, 3) := by decide +kernel
theorem dX5_letterDistance_47 : decode cX5_letterDistance 47 = .ok (.iload_n 1, 1) := by decide +kernel
theorem dX5_letterDistance_48 : decode cX5_letterDistance 48 = .ok (.iaload, 1) := by decide +kernel
theorem dX5_letterDistance_49 : decode cX5_letterDistance 49 = .ok (.aload_n 0, 1) := by decide +kernel
theorem dX5_letterDistance_50 : decode cX5_letterDistance 50 = .ok (.getfield 10, 3) := by decide +kernel
theorem dX5_letterDistance_53 : decode cX5_letterDistance 53 = .ok (.getfield 247, 3) := by decide +kernel
theorem dX5_letterDistance_56 : decode cX5_letterDistance 56 = .ok (.iload_n 2, 1) := by decide +kernel
theorem dX5_letterDistance_57 : decode cX5_letterDistance 57 = .ok (.iconst 4, 1) := by decide +kernel
theorem dX5_letterDistance_58 : decode cX5_letterDistance 58 = .ok (.imul, 1) := by decide +kernel
theorem dX5_letterDistance_59 : decode cX5_letterDistance 59 = .ok (.aload_n 0, 1) := by decide +kernel
theorem dX5_letterDistance_60 : decode cX5_letterDistance 60 = .ok (.getfield 10, 3) := by decide +kernel
theorem dX5_letterDistance_63 : decode cX5_letterDistance 63 = .ok (.getfield 81, 3) := by decide +kernel
theorem dX5_letterDistance_66 : decode cX5_letterDistance 66 = .ok (.iload_n 2, 1) := by decide +kernel
theorem dX5_letterDistance_67 : decode cX5_letterDistance 67 = .ok (.iaload, 1) := by decide +kernel
theorem dX5_letterDistance_68 : decode cX5_letterDistance 68 = .ok (.invokevirtual 250, 3) := by decide +kernel
theorem dX5_letterDistance_71 : decode cX5_letterDistance 71 = .ok (.ireturn, 1) := by decide +kernel
theorem dX5_cordDistance_0 : decode cX5_cordDistance 0 = .ok (.aload_n 0, 1) := by decide +kernel
theorem dX5_cordDistance_1 : decode cX5_cordDistance 1 = .ok (.getfield 26, 3) := by decide +kernel
theorem dX5_cordDistance_4 : decode cX5_cordDistance 4 = .ok (.aload_n 0, 1) := by decide +kernel
theorem dX5_cordDistance_5 : decode cX5_cordDistance 5 = .ok (.getfield 41, 3) := by decide +kernel
theorem dX5_cordDistance_8 : decode cX5_cordDistance 8 = .ok (.iload_n 1, 1) := by decide +kernel
theorem dX5_cordDistance_9 : decode cX5_cordDistance 9 = .ok (.aaload, 1) := by decide +kernel
theorem dX5_cordDistance_10 : decode cX5_cordDistance 10 = .ok (.getfield 199, 3) := by decide +kernel
theorem dX5_cordDistance_13 : decode cX5_cordDistance 13 = .ok (.iconst 0, 1) := by decide +kernel
theorem dX5_cordDistance_14 : decode cX5_cordDistance 14 = .ok (.aload_n 0, 1) := by decide +kernel
theorem dX5_cordDistance_15 : decode cX5_cordDistance 15 = .ok (.getfield 41, 3) := by decide +kernel
theorem dX5_cordDistance_18 : decode cX5_cordDistance 18 = .ok (.iload_n 1, 1) := by decide +kernel
theorem dX5_cordDistance_19 : decode cX5_cordDistance 19 = .ok (.aaload, 1) := by decide +kernel
theorem dX5_cordDistance_20 : decode cX5_cordDistance 20 = .ok (.getfield 169, 3) := by decide +kernel
theorem dX5_cordDistance_23 : decode cX5_cordDistance 23 = .ok (.aload_n 0, 1) := by decide +kernel
theorem dX5_cordDistance_24 : decode cX5_cordDistance 24 = .ok (.getfield 41, 3) := by decide +kernel
theorem dX5_cordDistance_27 : decode cX5_cordDistance 27 = .ok (.iload_n 2, 1) := by decide +kernel
theorem dX5_cordDistance_28 : decode cX5_cordDistance 28 = .ok (.aaload, 1) := by decide +kernel
theorem dX5_cordDistance_29 : decode cX5_cordDistance 29 = .ok (.getfield 199, 3) := by decide +kernel
theorem dX5_cordDistance_32 : decode cX5_cordDistance 32 = .ok (.iconst 0, 1) := by decide +kernel
theorem dX5_cordDistance_33 : decode cX5_cordDistance 33 = .ok (.aload_n 0, 1) := by decide +kernel
theorem dX5_cordDistance_34 : decode cX5_cordDistance 34 = .ok (.getfield 41, 3) := by decide +kernel
theorem dX5_cordDistance_37 : decode cX5_cordDistance 37 = .ok (.iload_n 2, 1) := by decide +kernel
theorem dX5_cordDistance_38 : decode cX5_cordDistance 38 = .ok (.aaload, 1) := by decide +kernel
theorem dX5_cordDistance_39 : decode cX5_cordDistance 39 = .ok (.getfield 169, 3) := by decide +kernel
theorem dX5_cordDistance_42 : decode cX5_cordDistance 42 = .ok (.invokevirtual 250, 3) := by decide +kernel
theorem dX5_cordDistance_45 : decode cX5_cordDistance 45 = .ok (.ireturn, 1) := by decide +kernel
theorem dX5_appendNumber_0 : decode cX5_appendNumber 0 = .ok (.bipush 24, 2) := by decide +kernel
theorem dX5_appendNumber_2 : decode cX5_appendNumber 2 = .ok (.istore_n 2, 1) := by decide +kernel
theorem dX5_appendNumber_3 : decode cX5_appendNumber 3 = .ok (.iload_n 2, 1) := by decide +kernel
theorem dX5_appendNumber_4 : decode cX5_appendNumber 4 = .ok (.ifCond .lt 44, 3) := by decide +kernel
theorem dX5_appendNumber_7 : decode cX5_appendNumber 7 = .ok (.aload_n 0, 1) := by decide +kernel
theorem dX5_appendNumber_8 : decode cX5_appendNumber 8 = .ok (.getfield 134, 3) := by decide +kernel
theorem dX5_appendNumber_11 : decode cX5_appendNumber 11 = .ok (.bipush 80, 2) := by decide +kernel
theorem dX5_appendNumber_13 : decode cX5_appendNumber 13 = .ok (.if_icmp .ge 29, 3) := by decide +kernel
theorem dX5_appendNumber_16 : decode cX5_appendNumber 16 = .ok (.aload_n 0, 1) := by decide +kernel
theorem dX5_appendNumber_17 : decode cX5_appendNumber 17 = .ok (.getfield 46, 3) := by decide +kernel
theorem dX5_appendNumber_20 : decode cX5_appendNumber 20 = .ok (.aload_n 0, 1) := by decide +kernel
theorem dX5_appendNumber_21 : decode cX5_appendNumber 21 = .ok (.getfield 134, 3) := by decide +kernel
theorem dX5_appendNumber_24 : decode cX5_appendNumber 24 = .ok (.iload_n 1, 1) := by decide +kernel
theorem dX5_appendNumber_25 : decode cX5_appendNumber 25 = .ok (.iload_n 2, 1) := by decide +kernel
theorem dX5_appendNumber_26 : decode cX5_appendNumber 26 = .ok (.iushr, 1) := by decide +kernel
theorem dX5_appendNumber_27 : decode cX5_appendNumber 27 = .ok (.sipush 255, 3) := by decide +kernel
theorem dX5_appendNumber_30 : decode cX5_appendNumber 30 = .ok (.iand, 1) := by decide +kernel
theorem dX5_appendNumber_31 : decode cX5_appendNumber 31 = .ok (.iastore, 1) := by decide +kernel
theorem dX5_appendNumber_32 : decode cX5_appendNumber 32 = .ok (.aload_n 0, 1) := by decide +kernel
theorem dX5_appendNumber_33 : decode cX5_appendNumber 33 = .ok (.dup, 1) := by decide +kernel
theorem dX5_appendNumber_34 : decode cX5_appendNumber 34 = .ok (.getfield 134, 3) := by decide +kernel
theorem dX5_appendNumber_37 : decode cX5_appendNumber 37 = .ok (.iconst 1, 1) := by decide +kernel
theorem dX5_appendNumber_38 : decode cX5_appendNumber 38 = .ok (.iadd, 1) := by decide +kernel
theorem dX5_appendNumber_39 : decode cX5_appendNumber 39 = .ok (.putfield 134, 3) := by decide +kernel
theorem dX5_appendNumber_42 : decode cX5_appendNumber 42 = .ok (.iinc 2 (-8), 3) := by decide +kernel
theorem dX5_appendNumber_45 : decode cX5_appendNumber 45 = .ok (.goto (-42), 3) := by decide +kernel
theorem dX5_appendNumber_48 : decode cX5_appendNumber 48 = .ok (.return_, 1) := by decide +kernel
theorem dX5_letterOfByte_0 : decode cX5_letterOfByte 0 = .ok (.iload_n 1, 1) := by decide +kernel
theorem dX5_letterOfByte_1 : decode cX5_letterOfByte 1 = .ok (.bipush 97, 2) := by decide +kernel
theorem dX5_letterOfByte_3 : decode cX5_letterOfByte 3 = .ok (.isub, 1) := by decide +kernel
theorem dX5_letterOfByte_4 : decode cX5_letterOfByte 4 = .ok (.istore_n 2, 1) := by decide +kernel
theorem dX5_letterOfByte_5 : decode cX5_letterOfByte 5 = .ok (.iload_n 2, 1) := by decide +kernel
theorem dX5_letterOfByte_6 : decode cX5_letterOfByte 6 = .ok (.invokestatic 53, 3) := by decide +kernel
theorem dX5_letterOfByte_9 : decode cX5_letterOfByte 9 = .ok (.ifCond .ne 15, 3) := by decide +kernel
theorem dX5_letterOfByte_12 : decode cX5_letterOfByte 12 = .ok (.aload_n 0, 1) := by decide +kernel
theorem dX5_letterOfByte_13 : decode cX5_letterOfByte 13 = .ok (.getfield 10, 3) := by decide +kernel
theorem dX5_letterOfByte_16 : decode cX5_letterOfByte 16 = .ok (.getfield 72, 3) := by decide +kernel
theorem dX5_letterOfByte_19 : decode cX5_letterOfByte 19 = .ok (.iload_n 2, 1) := by decide +kernel
theorem dX5_letterOfByte_20 : decode cX5_letterOfByte 20 = .ok (.iaload, 1) := by decide +kernel
theorem dX5_letterOfByte_21 : decode cX5_letterOfByte 21 = .ok (.ifCond .ne 7, 3) := by decide +kernel
theorem dX5_letterOfByte_24 : decode cX5_letterOfByte 24 = .ok (.iconst (-1), 1) := by decide +kernel
theorem dX5_letterOfByte_25 : decode cX5_letterOfByte 25 = .ok (.goto 4, 3) := by decide +kernel
theorem dX5_letterOfByte_28 : decode cX5_letterOfByte 28 = .ok (.iload_n 2, 1) := by decide +kernel
theorem dX5_letterOfByte_29 : decode cX5_letterOfByte 29 = .ok (.ireturn, 1) := by decide +kernel
theorem dX5_placesOnTape_0 : decode cX5_placesOnTape 0 = .ok (.iconst 0, 1) := by decide +kernel
theorem dX5_placesOnTape_1 : decode cX5_placesOnTape 1 = .ok (.istore_n 1, 1) := by decide +kernel
theorem dX5_placesOnTape_2 : decode cX5_placesOnTape 2 = .ok (.iconst 0, 1) := by decide +kernel
theorem dX5_placesOnTape_3 : decode cX5_placesOnTape 3 = .ok (.istore_n 2, 1) := by decide +kernel
theorem dX5_placesOnTape_4 : decode cX5_placesOnTape 4 = .ok (.iload_n 2, 1) := by decide +kernel
theorem dX5_placesOnTape_5 : decode cX5_placesOnTape 5 = .ok (.aload_n 0, 1) := by decide +kernel
theorem dX5_placesOnTape_6 : decode cX5_placesOnTape 6 = .ok (.getfield 134, 3) := by decide +kernel
theorem dX5_placesOnTape_9 : decode cX5_placesOnTape 9 = .ok (.if_icmp .ge 54, 3) := by decide +kernel
theorem dX5_placesOnTape_12 : decode cX5_placesOnTape 12 = .ok (.aload_n 0, 1) := by decide +kernel
theorem dX5_placesOnTape_13 : decode cX5_placesOnTape 13 = .ok (.aload_n 0, 1) := by decide +kernel
theorem dX5_placesOnTape_14 : decode cX5_placesOnTape 14 = .ok (.getfield 46, 3) := by decide +kernel
theorem dX5_placesOnTape_17 : decode cX5_placesOnTape 17 = .ok (.iload_n 2, 1) := by decide +kernel
theorem dX5_placesOnTape_18 : decode cX5_placesOnTape 18 = .ok (.iaload, 1) := by decide +kernel
theorem dX5_placesOnTape_19 : decode cX5_placesOnTape 19 = .ok (.invokevirtual 254, 3) := by decide +kernel
theorem dX5_placesOnTape_22 : decode cX5_placesOnTape 22 = .ok (.istore_n 3, 1) := by decide +kernel
theorem dX5_placesOnTape_23 : decode cX5_placesOnTape 23 = .ok (.iload_n 3, 1) := by decide +kernel
theorem dX5_placesOnTape_24 : decode cX5_placesOnTape 24 = .ok (.iconst (-1), 1) := by decide +kernel
theorem dX5_placesOnTape_25 : decode cX5_placesOnTape 25 = .ok (.if_icmp .eq 18, 3) := by decide +kernel
theorem dX5_placesOnTape_28 : decode cX5_placesOnTape 28 = .ok (.iload_n 1, 1) := by decide +kernel
theorem dX5_placesOnTape_29 : decode cX5_placesOnTape 29 = .ok (.aload_n 0, 1) := by decide +kernel
theorem dX5_placesOnTape_30 : decode cX5_placesOnTape 30 = .ok (.getfield 10, 3) := by decide +kernel
theorem dX5_placesOnTape_33 : decode cX5_placesOnTape 33 = .ok (.getfield 81, 3) := by decide +kernel
theorem dX5_placesOnTape_36 : decode cX5_placesOnTape 36 = .ok (.iload_n 3, 1) := by decide +kernel
theorem dX5_placesOnTape_37 : decode cX5_placesOnTape 37 = .ok (.iaload, 1) := by decide +kernel
theorem dX5_placesOnTape_38 : decode cX5_placesOnTape 38 = .ok (.iadd, 1) := by decide +kernel
theorem dX5_placesOnTape_39 : decode cX5_placesOnTape 39 = .ok (.istore_n 1, 1) := by decide +kernel
theorem dX5_placesOnTape_40 : decode cX5_placesOnTape 40 = .ok (.goto 17, 3) := by decide +kernel
theorem dX5_placesOnTape_43 : decode cX5_placesOnTape 43 = .ok (.aload_n 0, 1) := by decide +kernel
theorem dX5_placesOnTape_44 : decode cX5_placesOnTape 44 = .ok (.getfield 46, 3) := by decide +kernel
theorem dX5_placesOnTape_47 : decode cX5_placesOnTape 47 = .ok (.iload_n 2, 1) := by decide +kernel
theorem dX5_placesOnTape_48 : decode cX5_placesOnTape 48 = .ok (.iaload, 1) := by decide +kernel
theorem dX5_placesOnTape_49 : decode cX5_placesOnTape 49 = .ok (.bipush 32, 2) := by decide +kernel
theorem dX5_placesOnTape_51 : decode cX5_placesOnTape 51 = .ok (.if_icmp .ne 6, 3) := by decide +kernel
theorem dX5_placesOnTape_54 : decode cX5_placesOnTape 54 = .ok (.iinc 1 1, 3) := by decide +kernel
theorem dX5_placesOnTape_57 : decode cX5_placesOnTape 57 = .ok (.iinc 2 1, 3) := by decide +kernel
theorem dX5_placesOnTape_60 : decode cX5_placesOnTape 60 = .ok (.goto (-56), 3) := by decide +kernel
theorem dX5_placesOnTape_63 : decode cX5_placesOnTape 63 = .ok (.iload_n 1, 1) := by decide +kernel
theorem dX5_placesOnTape_64 : decode cX5_placesOnTape 64 = .ok (.ireturn, 1) := by decide +kernel
theorem dX5_isTapeText_0 : decode cX5_isTapeText 0 = .ok (.iconst 0, 1) := by decide +kernel
theorem dX5_isTapeText_1 : decode cX5_isTapeText 1 = .ok (.istore_n 1, 1) := by decide +kernel
theorem dX5_isTapeText_2 : decode cX5_isTapeText 2 = .ok (.iload_n 1, 1) := by decide +kernel
theorem dX5_isTapeText_3 : decode cX5_isTapeText 3 = .ok (.aload_n 0, 1) := by decide +kernel
theorem dX5_isTapeText_4 : decode cX5_isTapeText 4 = .ok (.getfield 134, 3) := by decide +kernel
theorem dX5_isTapeText_7 : decode cX5_isTapeText 7 = .ok (.if_icmp .ge 36, 3) := by decide +kernel
theorem dX5_isTapeText_10 : decode cX5_isTapeText 10 = .ok (.aload_n 0, 1) := by decide +kernel
theorem dX5_isTapeText_11 : decode cX5_isTapeText 11 = .ok (.getfield 46, 3) := by decide +kernel
theorem dX5_isTapeText_14 : decode cX5_isTapeText 14 = .ok (.iload_n 1, 1) := by decide +kernel
theorem dX5_isTapeText_15 : decode cX5_isTapeText 15 = .ok (.iaload, 1) := by decide +kernel
theorem dX5_isTapeText_16 : decode cX5_isTapeText 16 = .ok (.bipush 32, 2) := by decide +kernel
theorem dX5_isTapeText_18 : decode cX5_isTapeText 18 = .ok (.if_icmp .eq 19, 3) := by decide +kernel
theorem dX5_isTapeText_21 : decode cX5_isTapeText 21 = .ok (.aload_n 0, 1) := by decide +kernel
theorem dX5_isTapeText_22 : decode cX5_isTapeText 22 = .ok (.aload_n 0, 1) := by decide +kernel
theorem dX5_isTapeText_23 : decode cX5_isTapeText 23 = .ok (.getfield 46, 3) := by decide +kernel
theorem dX5_isTapeText_26 : decode cX5_isTapeText 26 = .ok (.iload_n 1, 1) := by decide +kernel
theorem dX5_isTapeText_27 : decode cX5_isTapeText 27 = .ok (.iaload, 1) := by decide +kernel
theorem dX5_isTapeText_28 : decode cX5_isTapeText 28 = .ok (.invokevirtual 254, 3) := by decide +kernel
theorem dX5_isTapeText_31 : decode cX5_isTapeText 31 = .ok (.iconst (-1), 1) := by decide +kernel
theorem dX5_isTapeText_32 : decode cX5_isTapeText 32 = .ok (.if_icmp .ne 5, 3) := by decide +kernel
theorem dX5_isTapeText_35 : decode cX5_isTapeText 35 = .ok (.iconst 0, 1) := by decide +kernel
theorem dX5_isTapeText_36 : decode cX5_isTapeText 36 = .ok (.ireturn, 1) := by decide +kernel
theorem dX5_isTapeText_37 : decode cX5_isTapeText 37 = .ok (.iinc 1 1, 3) := by decide +kernel
theorem dX5_isTapeText_40 : decode cX5_isTapeText 40 = .ok (.goto (-38), 3) := by decide +kernel
theorem dX5_isTapeText_43 : decode cX5_isTapeText 43 = .ok (.iconst 1, 1) := by decide +kernel
theorem dX5_isTapeText_44 : decode cX5_isTapeText 44 = .ok (.ireturn, 1) := by decide +kernel
theorem dX5_tieByte_0 : decode cX5_tieByte 0 = .ok (.aload_n 0, 1) := by decide +kernel
theorem dX5_tieByte_1 : decode cX5_tieByte 1 = .ok (.iload_n 2, 1) := by decide +kernel
theorem dX5_tieByte_2 : decode cX5_tieByte 2 = .ok (.invokevirtual 254, 3) := by decide +kernel
theorem dX5_tieByte_5 : decode cX5_tieByte 5 = .ok (.istore_n 3, 1) := by decide +kernel
theorem dX5_tieByte_6 : decode cX5_tieByte 6 = .ok (.iload_n 3, 1) := by decide +kernel
theorem dX5_tieByte_7 : decode cX5_tieByte 7 = .ok (.iconst (-1), 1) := by decide +kernel
theorem dX5_tieByte_8 : decode cX5_tieByte 8 = .ok (.if_icmp .ne 8, 3) := by decide +kernel
theorem dX5_tieByte_11 : decode cX5_tieByte 11 = .ok (.aload_n 1, 1) := by decide +kernel
theorem dX5_tieByte_12 : decode cX5_tieByte 12 = .ok (.invokevirtual 257, 3) := by decide +kernel
theorem dX5_tieByte_15 : decode cX5_tieByte 15 = .ok (.return_, 1) := by decide +kernel
theorem dX5_tieByte_16 : decode cX5_tieByte 16 = .ok (.aload_n 0, 1) := by decide +kernel
theorem dX5_tieByte_17 : decode cX5_tieByte 17 = .ok (.getfield 10, 3) := by decide +kernel
theorem dX5_tieByte_20 : decode cX5_tieByte 20 = .ok (.getfield 84, 3) := by decide +kernel
theorem dX5_tieByte_23 : decode cX5_tieByte 23 = .ok (.iload_n 3, 1) := by decide +kernel
theorem dX5_tieByte_24 : decode cX5_tieByte 24 = .ok (.dup2, 1) := by decide +kernel
theorem dX5_tieByte_25 : decode cX5_tieByte 25 = .ok (.iaload, 1) := by decide +kernel
theorem dX5_tieByte_26 : decode cX5_tieByte 26 = .ok (.iconst 1, 1) := by decide +kernel
theorem dX5_tieByte_27 : decode cX5_tieByte 27 = .ok (.iadd, 1) := by decide +kernel
theorem dX5_tieByte_28 : decode cX5_tieByte 28 = .ok (.iastore, 1) := by decide +kernel
theorem dX5_tieByte_29 : decode cX5_tieByte 29 = .ok (.iconst 0, 1) := by decide +kernel
theorem dX5_tieByte_30 : decode cX5_tieByte 30 = .ok (.istore 4, 2) := by decide +kernel
theorem dX5_tieByte_32 : decode cX5_tieByte 32 = .ok (.iload 4, 2) := by decide +kernel
theorem dX5_tieByte_34 : decode cX5_tieByte 34 = .ok (.aload_n 0, 1) := by decide +kernel
theorem dX5_tieByte_35 : decode cX5_tieByte 35 = .ok (.getfield 10, 3) := by decide +kernel
theorem dX5_tieByte_38 : decode cX5_tieByte 38 = .ok (.getfield 81, 3) := by decide +kernel
theorem dX5_tieByte_41 : decode cX5_tieByte 41 = .ok (.iload_n 3, 1) := by decide +kernel
theorem dX5_tieByte_42 : decode cX5_tieByte 42 = .ok (.iaload, 1) := by decide +kernel
theorem dX5_tieByte_43 : decode cX5_tieByte 43 = .ok (.if_icmp .ge 27, 3) := by decide +kernel
theorem dX5_tieByte_46 : decode cX5_tieByte 46 = .ok (.aload_n 0, 1) := by decide +kernel
theorem dX5_tieByte_47 : decode cX5_tieByte 47 = .ok (.getfield 19, 3) := by decide +kernel
theorem dX5_tieByte_50 : decode cX5_tieByte 50 = .ok (.aload_n 1, 1) := by decide +kernel
theorem dX5_tieByte_51 : decode cX5_tieByte 51 = .ok (.aload_n 0, 1) := by decide +kernel
theorem dX5_tieByte_52 : decode cX5_tieByte 52 = .ok (.getfield 10, 3) := by decide +kernel
theorem dX5_tieByte_55 : decode cX5_tieByte 55 = .ok (.iload_n 3, 1) := by decide +kernel
theorem dX5_tieByte_56 : decode cX5_tieByte 56 = .ok (.iload 4, 2) := by decide +kernel
theorem dX5_tieByte_58 : decode cX5_tieByte 58 = .ok (.invokevirtual 260, 3) := by decide +kernel
theorem dX5_tieByte_61 : decode cX5_tieByte 61 = .ok (.invokevirtual 263, 3) := by decide +kernel
theorem dX5_tieByte_64 : decode cX5_tieByte 64 = .ok (.iinc 4 1, 3) := by decide +kernel
theorem dX5_tieByte_67 : decode cX5_tieByte 67 = .ok (.goto (-35), 3) := by decide +kernel
theorem dX5_tieByte_70 : decode cX5_tieByte 70 = .ok (.return_, 1) := by decide +kernel
theorem dX6_init_0 : decode cX6_init 0 = .ok (.aload_n 0, 1) := by decide +kernel
theorem dX6_init_1 : decode cX6_init 1 = .ok (.invokespecial 1, 3) := by decide +kernel
theorem dX6_init_4 : decode cX6_init 4 = .ok (.aload_n 0, 1) := by decide +kernel
theorem dX6_init_5 : decode cX6_init 5 = .ok (.bipush 12, 2) := by decide +kernel
theorem dX6_init_7 : decode cX6_init 7 = .ok (.newarray .int, 2) := by decide +kernel
theorem dX6_init_9 : decode cX6_init 9 = .ok (.putfield 9, 3) := by decide +kernel
theorem dX6_init_12 : decode cX6_init 12 = .ok (.aload_n 0, 1) := by decide +kernel
theorem dX6_init_13 : decode cX6_init 13 = .ok (.bipush 12, 2) := by decide +kernel
theorem dX6_init_15 : decode cX6_init 15 = .ok (.newarray .int, 2) := by decide +kernel
theorem dX6_init_17 : decode cX6_init 17 = .ok (.putfield 13, 3) := by decide +kernel
theorem dX6_init_20 : decode cX6_init 20 = .ok (.aload_n 0, 1) := by decide +kernel
theorem dX6_init_21 : decode cX6_init 21 = .ok (.bipush 25, 2) := by decide +kernel
theorem dX6_init_23 : decode cX6_init 23 = .ok (.newarray .int, 2) := by decide +kernel
theorem dX6_init_25 : decode cX6_init 25 = .ok (.putfield 16, 3) := by decide +kernel
theorem dX6_init_28 : decode cX6_init 28 = .ok (.aload_n 0, 1) := by decide +kernel
theorem dX6_init_29 : decode cX6_init 29 = .ok (.iconst 4, 1) := by decide +kernel
theorem dX6_init_30 : decode cX6_init 30 = .ok (.putfield 19, 3) := by decide +kernel
theorem dX6_init_33 : decode cX6_init 33 = .ok (.aload_n 0, 1) := by decide +kernel
theorem dX6_init_34 : decode cX6_init 34 = .ok (.iconst 4, 1) := by decide +kernel
theorem dX6_init_35 : decode cX6_init 35 = .ok (.putfield 23, 3) := by decide +kernel
theorem dX6_init_38 : decode cX6_init 38 = .ok (.aload_n 0, 1) := by decide +kernel
theorem dX6_init_39 : decode cX6_init 39 = .ok (.bipush 10, 2) := by decide +kernel
theorem dX6_init_41 : decode cX6_init 41 = .ok (.newarray .int, 2) := by decide +kernel
theorem dX6_init_43 : decode cX6_init 43 = .ok (.putfield 26, 3) := by decide +kernel
theorem dX6_init_46 : decode cX6_init 46 = .ok (.aload_n 0, 1) := by decide +kernel
theorem dX6_init_47 : decode cX6_init 47 = .ok (.sipush 400, 3) := by decide +kernel
theorem dX6_init_50 : decode cX6_init 50 = .ok (.newarray .int, 2) := by decide +kernel
theorem dX6_init_52 : decode cX6_init 52 = .ok (.putfield 29, 3) := by decide +kernel
theorem dX6_init_55 : decode cX6_init 55 = .ok (.aload_n 0, 1) := by decide +kernel
theorem dX6_init_56 : decode cX6_init 56 = .ok (.bipush 10, 2) := by decide +kernel
theorem dX6_init_58 : decode cX6_init 58 = .ok (.newarray .int, 2) := by decide +kernel
theorem dX6_init_60 : decode cX6_init 60 = .ok (.putfield 32, 3) := by decide +kernel
theorem dX6_init_63 : decode cX6_init 63 = .ok (.aload_n 0, 1) := by decide +kernel
theorem dX6_init_64 : decode cX6_init 64 = .ok (.bipush 10, 2) := by decide +kernel
theorem dX6_init_66 : decode cX6_init 66 = .ok (.newarray .int, 2) := by decide +kernel
theorem dX6_init_68 : decode cX6_init 68 = .ok (.putfield 35, 3) := by decide +kernel
theorem dX6_init_71 : decode cX6_init 71 = .ok (.aload_n 0, 1) := by decide +kernel
theorem dX6_init_72 : decode cX6_init 72 = .ok (.bipush 80, 2) := by decide +kernel
theorem dX6_init_74 : decode cX6_init 74 = .ok (.newarray .int, 2) := by decide +kernel
theorem dX6_init_76 : decode cX6_init 76 = .ok (.putfield 38, 3) := by decide +kernel
theorem dX6_init_79 : decode cX6_init 79 = .ok (.aload_n 0, 1) := by decide +kernel
theorem dX6_init_80 : decode cX6_init 80 = .ok (.bipush 40, 2) := by decide +kernel
theorem dX6_init_82 : decode cX6_init 82 = .ok (.newarray .int, 2) := by decide +kernel
theorem dX6_init_84 : decode cX6_init 84 = .ok (.putfield 41, 3) := by decide +kernel
theorem dX6_init_87 : decode cX6_init 87 = .ok (.aload_n 0, 1) := by decide +kernel
theorem dX6_init_88 : decode cX6_init 88 = .ok (.bipush 41, 2) := by decide +kernel
theorem dX6_init_90 : decode cX6_init 90 = .ok (.newarray .int, 2) := by decide +kernel
theorem dX6_init_92 : decode cX6_init 92 = .ok (.putfield 44, 3) := by decide +kernel
theorem dX6_init_95 : decode cX6_init 95 = .ok (.aload_n 0, 1) := by decide +kernel
theorem dX6_init_96 : decode cX6_init 96 = .ok (.bipush 41, 2) := by decide +kernel
theorem dX6_init_98 : decode cX6_init 98 = .ok (.newarray .int, 2) := by decide +kernel
theorem dX6_init_100 : decode cX6_init 100 = .ok (.putfield 47, 3) := by decide +kernel
theorem dX6_init_103 : decode cX6_init 103 = .ok (.aload_n 0, 1) := by decide +kernel
theorem dX6_init_104 : decode cX6_init 104 = .ok (.bipush 41, 2) := by decide +kernel
theorem dX6_init_106 : decode cX6_init 106 = .ok (.newarray .int, 2) := by decide +kernel
theorem dX6_init_108 : decode cX6_init 108 = .ok (.putfield 50, 3) := by decide +kernel
theorem dX6_init_111 : decode cX6_init 111 = .ok (.aload_n 0, 1) := by decide +kernel
theorem dX6_init_112 : decode cX6_init 112 = .ok (.bipush 41, 2) := by decide +kernel
theorem dX6_init_114 : decode cX6_init 114 = .ok (.newarray .int, 2) := by decide +kernel
theorem dX6_init_116 : decode cX6_init 116 = .ok (.putfield 53, 3) := by decide +kernel
theorem dX6_init_119 : decode cX6_init 119 = .ok (.aload_n 0, 1) := by decide +kernel
theorem dX6_init_120 : decode cX6_init 120 = .ok (.bipush 41, 2) := by decide +kernel
theorem dX6_init_122 : decode cX6_init 122 = .ok (.newarray .int, 2) := by decide +kernel
theorem dX6_init_124 : decode cX6_init 124 = .ok (.putfield 56, 3) := by decide +kernel
theorem dX6_init_127 : decode cX6_init 127 = .ok (.iconst 0, 1) := by decide +kernel
theorem dX6_init_128 : decode cX6_init 128 = .ok (.istore_n 1, 1) := by decide +kernel
theorem dX6_init_129 : decode cX6_init 129 = .ok (.iload_n 1, 1) := by decide +kernel
theorem dX6_init_130 : decode cX6_init 130 = .ok (.bipush 25, 2) := by decide +kernel
theorem dX6_init_132 : decode cX6_init 132 = .ok (.if_icmp .ge 29, 3) := by decide +kernel
theorem dX6_init_135 : decode cX6_init 135 = .ok (.aload_n 0, 1) := by decide +kernel
theorem dX6_init_136 : decode cX6_init 136 = .ok (.getfield 16, 3) := by decide +kernel
theorem dX6_init_139 : decode cX6_init 139 = .ok (.iload_n 1, 1) := by decide +kernel
theorem dX6_init_140 : decode cX6_init 140 = .ok (.iload_n 1, 1) := by decide +kernel
theorem dX6_init_141 : decode cX6_init 141 = .ok (.iconst 5, 1) := by decide +kernel
theorem dX6_init_142 : decode cX6_init 142 = .ok (.idiv, 1) := by decide +kernel
theorem dX6_init_143 : decode cX6_init 143 = .ok (.iload_n 1, 1) := by decide +kernel
theorem dX6_init_144 : decode cX6_init 144 = .ok (.iconst 5, 1) := by decide +kernel
theorem dX6_init_145 : decode cX6_init 145 = .ok (.irem, 1) := by decide +kernel
theorem dX6_init_146 : decode cX6_init 146 = .ok (.if_icmp .ne 7, 3) := by decide +kernel
theorem dX6_init_149 : decode cX6_init 149 = .ok (.iconst 0, 1) := by decide +kernel
theorem dX6_init_150 : decode cX6_init 150 = .ok (.goto 4, 3) := by decide +kernel
theorem dX6_init_153 : decode cX6_init 153 = .ok (.iconst 3, 1) := by decide +kernel
theorem dX6_init_154 : decode cX6_init 154 = .ok (.iastore, 1) := by decide +kernel
theorem dX6_init_155 : decode cX6_init 155 = .ok (.iinc 1 1, 3) := by decide +kernel
theorem dX6_init_158 : decode cX6_init 158 = .ok (.goto (-29), 3) := by decide +kernel
theorem dX6_init_161 : decode cX6_init 161 = .ok (.return_, 1) := by decide +kernel
theorem dX6_thrown_0 : decode cX6_thrown 0 = .ok (.aload_n 0, 1) := by decide +kernel
theorem dX6_thrown_1 : decode cX6_thrown 1 = .ok (.getfield 59, 3) := by decide +kernel
theorem dX6_thrown_4 : decode cX6_thrown 4 = .ok (.ireturn, 1) := by decide +kernel
theorem dX6_no_0 : decode cX6_no 0 = .ok (.aload_n 0, 1) := by decide +kernel
theorem dX6_no_1 : decode cX6_no 1 = .ok (.iload_n 1, 1) := by decide +kernel
theorem dX6_no_2 : decode cX6_no 2 = .ok (.putfield 59, 3) := by decide +kernel
theorem dX6_no_5 : decode cX6_no 5 = .ok (.iconst 0, 1) := by decide +kernel
theorem dX6_no_6 : decode cX6_no 6 = .ok (.ireturn, 1) := by decide +kernel
theorem dX6_isIn_0 : decode cX6_isIn 0 = .ok (.iload_n 0, 1) := by decide +kernel
theorem dX6_isIn_1 : decode cX6_isIn 1 = .ok (.iload_n 1, 1) := by decide +kernel
theorem dX6_isIn_2 : decode cX6_isIn 2 = .ok (.if_icmp .lt 12, 3) := by decide +kernel
theorem dX6_isIn_5 : decode cX6_isIn 5 = .ok (.iload_n 0, 1) := by decide +kernel
theorem dX6_isIn_6 : decode cX6_isIn 6 = .ok (.iload_n 2, 1) := by decide +kernel
theorem dX6_isIn_7 : decode cX6_isIn 7 = .ok (.if_icmp .gt 7, 3) := by decide +kernel
theorem dX6_isIn_10 : decode cX6_isIn 10 = .ok (.iconst 1, 1) := by decide +kernel
theorem dX6_isIn_11 : decode cX6_isIn 11 = .ok (.goto 4, 3) := by decide +kernel
theorem dX6_isIn_14 : decode cX6_isIn 14 = .ok (.iconst 0, 1) := by decide +kernel
theorem dX6_isIn_15 : decode cX6_isIn 15 = .ok (.ireturn, 1) := by decide +kernel
theorem dX6_lengthOf_0 : decode cX6_lengthOf 0 = .ok (.iload_n 0, 1) := by decide +kernel
theorem dX6_lengthOf_1 : decode cX6_lengthOf 1 = .ok (.ifCond .ne 7, 3) := by decide +kernel
theorem dX6_lengthOf_4 : decode cX6_lengthOf 4 = .ok (.iconst 0, 1) := by decide +kernel
theorem dX6_lengthOf_5 : decode cX6_lengthOf 5 = .ok (.goto 12, 3) := by decide +kernel
theorem dX6_lengthOf_8 : decode cX6_lengthOf 8 = .ok (.iconst 1, 1) := by decide +kernel
theorem dX6_lengthOf_9 : decode cX6_lengthOf 9 = .ok (.iload_n 0, 1) := by decide +kernel
theorem dX6_lengthOf_10 : decode cX6_lengthOf 10 = .ok (.bipush 10, 2) := by decide +kernel
theorem dX6_lengthOf_12 : decode cX6_lengthOf 12 = .ok (.idiv, 1) := by decide +kernel
theorem dX6_lengthOf_13 : decode cX6_lengthOf 13 = .ok (.invokestatic 62, 3) := by decide +kernel
theorem dX6_lengthOf_16 : decode cX6_lengthOf 16 = .ok (.iadd, 1) := by decide +kernel
theorem dX6_lengthOf_17 : decode cX6_lengthOf 17 = .ok (.ireturn, 1) := by decide +kernel
theorem dX6_knotOf_0 : decode cX6_knotOf 0 = .ok (.iload_n 0, 1) := by decide +kernel
theorem dX6_knotOf_1 : decode cX6_knotOf 1 = .ok (.istore_n 2, 1) := by decide +kernel
theorem dX6_knotOf_2 : decode cX6_knotOf 2 = .ok (.iload_n 0, 1) := by decide +kernel
theorem dX6_knotOf_3 : decode cX6_knotOf 3 = .ok (.invokestatic 62, 3) := by decide +kernel
theorem dX6_knotOf_6 : decode cX6_knotOf 6 = .ok (.iconst 1, 1) := by decide +kernel
theorem dX6_knotOf_7 : decode cX6_knotOf 7 = .ok (.isub, 1) := by decide +kernel
theorem dX6_knotOf_8 : decode cX6_knotOf 8 = .ok (.istore_n 3, 1) := by decide +kernel
theorem dX6_knotOf_9 : decode cX6_knotOf 9 = .ok (.iload_n 3, 1) := by decide +kernel
theorem dX6_knotOf_10 : decode cX6_knotOf 10 = .ok (.iload_n 1, 1) := by decide +kernel
theorem dX6_knotOf_11 : decode cX6_knotOf 11 = .ok (.if_icmp .le 14, 3) := by decide +kernel
theorem dX6_knotOf_14 : decode cX6_knotOf 14 = .ok (.iload_n 2, 1) := by decide +kernel
theorem dX6_knotOf_15 : decode cX6_knotOf 15 = .ok (.bipush 10, 2) := by decide +kernel
theorem dX6_knotOf_17 : decode cX6_knotOf 17 = .ok (.idiv, 1) := by decide +kernel
theorem dX6_knotOf_18 : decode cX6_knotOf 18 = .ok (.istore_n 2, 1) := by decide +kernel
theorem dX6_knotOf_19 : decode cX6_knotOf 19 = .ok (.iinc 3 (-1), 3) := by decide +kernel
theorem dX6_knotOf_22 : decode cX6_knotOf 22 = .ok (.goto (-13), 3) := by decide +kernel
theorem dX6_knotOf_25 : decode cX6_knotOf 25 = .ok (.iload_n 2, 1) := by decide +kernel
theorem dX6_knotOf_26 : decode cX6_knotOf 26 = .ok (.bipush 10, 2) := by decide +kernel
theorem dX6_knotOf_28 : decode cX6_knotOf 28 = .ok (.irem, 1) := by decide +kernel
theorem dX6_knotOf_29 : decode cX6_knotOf 29 = .ok (.ireturn, 1) := by decide +kernel
theorem dX6_isRow_0 : decode cX6_isRow 0 = .ok (.iload_n 0, 1) := by decide +kernel
theorem dX6_isRow_1 : decode cX6_isRow 1 = .ok (.ifCond .lt 14, 3) := by decide +kernel
theorem dX6_isRow_4 : decode cX6_isRow 4 = .ok (.iload_n 0, 1) := by decide +kernel
theorem dX6_isRow_5 : decode cX6_isRow 5 = .ok (.sipush 10000, 3) := by decide +kernel
theorem dX6_isRow_8 : decode cX6_isRow 8 = .ok (.if_icmp .ge 7, 3) := by decide +kernel
theorem dX6_isRow_11 : decode cX6_isRow 11 = .ok (.iconst 1, 1) := by decide +kernel
theorem dX6_isRow_12 : decode cX6_isRow 12 = .ok (.goto 4, 3) := by decide +kernel
theorem dX6_isRow_15 : decode cX6_isRow 15 = .ok (.iconst 0, 1) := by decide +kernel
theorem dX6_isRow_16 : decode cX6_isRow 16 = .ok (.istore_n 1, 1) := by decide +kernel
theorem dX6_isRow_17 : decode cX6_isRow 17 = .ok (.iload_n 0, 1) := by decide +kernel
theorem dX6_isRow_18 : decode cX6_isRow 18 = .ok (.istore_n 2, 1) := by decide +kernel
theorem dX6_isRow_19 : decode cX6_isRow 19 = .ok (.iload_n 2, 1) := by decide +kernel
theorem dX6_isRow_20 : decode cX6_isRow 20 = .ok (.ifCond .le 25, 3) := by decide +kernel
theorem dX6_isRow_23 : decode cX6_isRow 23 = .ok (.iload_n 1, 1) := by decide +kernel
theorem dX6_isRow_24 : decode cX6_isRow 24 = .ok (.ifCond .eq 21, 3) := by decide +kernel
theorem dX6_isRow_27 : decode cX6_isRow 27 = .ok (.iload_n 2, 1) := by decide +kernel
theorem dX6_isRow_28 : decode cX6_isRow 28 = .ok (.bipush 10, 2) := by decide +kernel
theorem dX6_isRow_30 : decode cX6_isRow 30 = .ok (.irem, 1) := by decide +kernel
theorem dX6_isRow_31 : decode cX6_isRow 31 = .ok (.iconst 1, 1) := by decide +kernel
theorem dX6_isRow_32 : decode cX6_isRow 32 = .ok (.iconst 4, 1) := by decide +kernel
theorem dX6_isRow_33 : decode cX6_isRow 33 = .ok (.invokestatic 66, 3) := by decide +kernel
theorem dX6_isRow_36 : decode cX6_isRow 36 = .ok (.istore_n 1, 1) := by decide +kernel
theorem dX6_isRow_37 : decode cX6_isRow 37 = .ok (.iload_n 2, 1) := by decide +kernel
theorem dX6_isRow_38 : decode cX6_isRow 38 = .ok (.bipush 10, 2) := by decide +kernel
theorem dX6_isRow_40 : decode cX6_isRow 40 = .ok (.idiv, 1) := by decide +kernel
theorem dX6_isRow_41 : decode cX6_isRow 41 = .ok (.istore_n 2, 1) := by decide +kernel
theorem dX6_isRow_42 : decode cX6_isRow 42 = .ok (.goto (-23), 3) := by decide +kernel
theorem dX6_isRow_45 : decode cX6_isRow 45 = .ok (.iload_n 1, 1) := by decide +kernel
theorem dX6_isRow_46 : decode cX6_isRow 46 = .ok (.ireturn, 1) := by decide +kernel
theorem dX6_setLetter_0 : decode cX6_setLetter 0 = .ok (.aload_n 0, 1) := by decide +kernel
theorem dX6_setLetter_1 : decode cX6_setLetter 1 = .ok (.iconst 0, 1) := by decide +kernel
theorem dX6_setLetter_2 : decode cX6_setLetter 2 = .ok (.putfield 59, 3) := by decide +kernel
theorem dX6_setLetter_5 : decode cX6_setLetter 5 = .ok (.iload_n 1, 1) := by decide +kernel
theorem dX6_setLetter_6 : decode cX6_setLetter 6 = .ok (.iconst 0, 1) := by decide +kernel
theorem dX6_setLetter_7 : decode cX6_setLetter 7 = .ok (.bipush 11, 2) := by decide +kernel
theorem dX6_setLetter_9 : decode cX6_setLetter 9 = .ok (.invokestatic 66, 3) := by decide +kernel
theorem dX6_setLetter_12 : decode cX6_setLetter 12 = .ok (.ifCond .ne 9, 3) := by decide +kernel
theorem dX6_setLetter_15 : decode cX6_setLetter 15 = .ok (.aload_n 0, 1) := by decide +kernel
theorem dX6_setLetter_16 : decode cX6_setLetter 16 = .ok (.iconst 1, 1) := by decide +kernel
theorem dX6_setLetter_17 : decode cX6_setLetter 17 = .ok (.invokevirtual 70, 3) := by decide +kernel
theorem dX6_setLetter_20 : decode cX6_setLetter 20 = .ok (.ireturn, 1) := by decide +kernel
theorem dX6_setLetter_21 : decode cX6_setLetter 21 = .ok (.iload_n 2, 1) := by decide +kernel
theorem dX6_setLetter_22 : decode cX6_setLetter 22 = .ok (.invokestatic 73, 3) := by decide +kernel
theorem dX6_setLetter_25 : decode cX6_setLetter 25 = .ok (.ifCond .ne 9, 3) := by decide +kernel
theorem dX6_setLetter_28 : decode cX6_setLetter 28 = .ok (.aload_n 0, 1) := by decide +kernel
theorem dX6_setLetter_29 : decode cX6_setLetter 29 = .ok (.iconst 2, 1) := by decide +kernel
theorem dX6_setLetter_30 : decode cX6_setLetter 30 = .ok (.invokevirtual 70, 3) := by decide +kernel
theorem dX6_setLetter_33 : decode cX6_setLetter 33 = .ok (.ireturn, 1) := by decide +kernel
theorem dX6_setLetter_34 : decode cX6_setLetter 34 = .ok (.aload_n 0, 1) := by decide +kernel
theorem dX6_setLetter_35 : decode cX6_setLetter 35 = .ok (.getfield 9, 3) := by decide +kernel
theorem dX6_setLetter_38 : decode cX6_setLetter 38 = .ok (.iload_n 1, 1) := by decide +kernel
theorem dX6_setLetter_39 : decode cX6_setLetter 39 = .ok (.iaload, 1) := by decide +kernel
theorem dX6_setLetter_40 : decode cX6_setLetter 40 = .ok (.istore_n 3, 1) := by decide +kernel
theorem dX6_setLetter_41 : decode cX6_setLetter 41 = .ok (.aload_n 0, 1) := by decide +kernel
theorem dX6_setLetter_42 : decode cX6_setLetter 42 = .ok (.getfield 9, 3) := by decide +kernel
theorem dX6_setLetter_45 : decode cX6_setLetter 45 = .ok (.iload_n 1, 1) := by decide +kernel
theorem dX6_setLetter_46 : decode cX6_setLetter 46 = .ok (.iload_n 2, 1) := by decide +kernel
theorem dX6_setLetter_47 : decode cX6_setLetter 47 = .ok (.iastore, 1) := by decide +kernel
theorem dX6_setLetter_48 : decode cX6_setLetter 48 = .ok (.iload_n 3, 1) := by decide +kernel
theorem dX6_setLetter_49 : decode cX6_setLetter 49 = .ok (.ireturn, 1) := by decide +kernel
theorem dX6_letterTold_0 : decode cX6_letterTold 0 = .ok (.iload_n 2, 1) := by decide +kernel
theorem dX6_letterTold_1 : decode cX6_letterTold 1 = .ok (.ifCond .ne 12, 3) := by decide +kernel
theorem dX6_letterTold_4 : decode cX6_letterTold 4 = .ok (.aload_n 0, 1) := by decide +kernel
theorem dX6_letterTold_5 : decode cX6_letterTold 5 = .ok (.getfield 9, 3) := by decide +kernel
theorem dX6_letterTold_8 : decode cX6_letterTold 8 = .ok (.iload_n 1, 1) := by decide +kernel
theorem dX6_letterTold_9 : decode cX6_letterTold 9 = .ok (.iaload, 1) := by decide +kernel
theorem dX6_letterTold_10 : decode cX6_letterTold 10 = .ok (.goto 26, 3) := by decide +kernel
theorem dX6_letterTold_13 : decode cX6_letterTold 13 = .ok (.iload_n 2, 1) := by decide +kernel
theorem dX6_letterTold_14 : decode cX6_letterTold 14 = .ok (.iconst 1, 1) := by decide +kernel
theorem dX6_letterTold_15 : decode cX6_letterTold 15 = .ok (.if_icmp .ne 15, 3) := by decide +kernel
theorem dX6_letterTold_18 : decode cX6_letterTold 18 = .ok (.aload_n 0, 1) := by decide +kernel
theorem dX6_letterTold_19 : decode cX6_letterTold 19 = .ok (.getfield 9, 3) := by decide +kernel
theorem dX6_letterTold_22 : decode cX6_letterTold 22 = .ok (.iload_n 1, 1) := by decide +kernel
theorem dX6_letterTold_23 : decode cX6_letterTold 23 = .ok (.iaload, 1) := by decide +kernel
theorem dX6_letterTold_24 : decode cX6_letterTold 24 = .ok (.invokestatic 62, 3) := by decide +kernel
theorem dX6_letterTold_27 : decode cX6_letterTold 27 = .ok (.goto 9, 3) := by decide +kernel
theorem dX6_letterTold_30 : decode cX6_letterTold 30 = .ok (.aload_n 0, 1) := by decide +kernel
theorem dX6_letterTold_31 : decode cX6_letterTold 31 = .ok (.getfield 13, 3) := by decide +kernel
theorem dX6_letterTold_34 : decode cX6_letterTold 34 = .ok (.iload_n 1, 1) := by decide +kernel
theorem dX6_letterTold_35 : decode cX6_letterTold 35 = .ok (.iaload, 1) := by decide +kernel
theorem dX6_letterTold_36 : decode cX6_letterTold 36 = .ok (.ireturn, 1) := by decide +kernel
theorem dX6_letter_0 : decode cX6_letter 0 = .ok (.aload_n 0, 1) := by decide +kernel
theorem dX6_letter_1 : decode cX6_letter 1 = .ok (.iconst 0, 1) := by decide +kernel
theorem dX6_letter_2 : decode cX6_letter 2 = .ok (.putfield 59, 3) := by decide +kernel
theorem dX6_letter_5 : decode cX6_letter 5 = .ok (.iload_n 1, 1) := by decide +kernel
theorem dX6_letter_6 : decode cX6_letter 6 = .ok (.iconst 0, 1) := by decide +kernel
theorem dX6_letter_7 : decode cX6_letter 7 = .ok (.bipush 11, 2) := by decide +kernel
theorem dX6_letter_9 : decode cX6_letter 9 = .ok (.invokestatic 66, 3) := by decide +kernel
theorem dX6_letter_12 : decode cX6_letter 12 = .ok (.ifCond .eq 21, 3) := by decide +kernel
theorem dX6_letter_15 : decode cX6_letter 15 = .ok (.iload_n 2, 1) := by decide +kernel
theorem dX6_letter_16 : decode cX6_letter 16 = .ok (.iconst 0, 1) := by decide +kernel
theorem dX6_letter_17 : decode cX6_letter 17 = .ok (.iconst 2, 1) := by decide +kernel
theorem dX6_letter_18 : decode cX6_letter 18 = .ok (.invokestatic 66, 3) := by decide +kernel
theorem dX6_letter_21 : decode cX6_letter 21 = .ok (.ifCond .eq 12, 3) := by decide +kernel
theorem dX6_letter_24 : decode cX6_letter 24 = .ok (.aload_n 0, 1) := by decide +kernel
theorem dX6_letter_25 : decode cX6_letter 25 = .ok (.iload_n 1, 1) := by decide +kernel
theorem dX6_letter_26 : decode cX6_letter 26 = .ok (.iload_n 2, 1) := by decide +kernel
theorem dX6_letter_27 : decode cX6_letter 27 = .ok (.invokevirtual 77, 3) := by decide +kernel
theorem dX6_letter_30 : decode cX6_letter 30 = .ok (.goto 8, 3) := by decide +kernel
theorem dX6_letter_33 : decode cX6_letter 33 = .ok (.aload_n 0, 1) := by decide +kernel
theorem dX6_letter_34 : decode cX6_letter 34 = .ok (.iconst 1, 1) := by decide +kernel
theorem dX6_letter_35 : decode cX6_letter 35 = .ok (.invokevirtual 70, 3) := by decide +kernel
theorem dX6_letter_38 : decode cX6_letter 38 = .ok (.ireturn, 1) := by decide +kernel
theorem dX6_begins_0 : decode cX6_begins 0 = .ok (.iload_n 1, 1) := by decide +kernel
theorem dX6_begins_1 : decode cX6_begins 1 = .ok (.istore_n 2, 1) := by decide +kernel
theorem dX6_begins_2 : decode cX6_begins 2 = .ok (.iload_n 2, 1) := by decide +kernel
theorem dX6_begins_3 : decode cX6_begins 3 = .ok (.invokestatic 62, 3) := by decide +kernel
theorem dX6_begins_6 : decode cX6_begins 6 = .ok (.iload_n 0, 1) := by decide +kernel
theorem dX6_begins_7 : decode cX6_begins 7 = .ok (.invokestatic 62, 3) := by decide +kernel
theorem dX6_begins_10 : decode cX6_begins 10 = .ok (.if_icmp .le 11, 3) := by decide +kernel
theorem dX6_begins_13 : decode cX6_begins 13 = .ok (.iload_n 2, 1) := by decide +kernel
theorem dX6_begins_14 : decode cX6_begins 14 = .ok (.bipush 10, 2) := by decide +kernel
theorem dX6_begins_16 : decode cX6_begins 16 = .ok (.idiv, 1) := by decide +kernel
theorem dX6_begins_17 : decode cX6_begins 17 = .ok (.istore_n 2, 1) := by decide +kernel
theorem dX6_begins_18 : decode cX6_begins 18 = .ok (.goto (-16), 3) := by decide +kernel
theorem dX6_begins_21 : decode cX6_begins 21 = .ok (.iload_n 2, 1) := by decide +kernel
theorem dX6_begins_22 : decode cX6_begins 22 = .ok (.iload_n 0, 1) := by decide +kernel
theorem dX6_begins_23 : decode cX6_begins 23 = .ok (.if_icmp .ne 7, 3) := by decide +kernel
theorem dX6_begins_26 : decode cX6_begins 26 = .ok (.iconst 1, 1) := by decide +kernel
theorem dX6_begins_27 : decode cX6_begins 27 = .ok (.goto 4, 3) := by decide +kernel
theorem dX6_begins_30 : decode cX6_begins 30 = .ok (.iconst 0, 1) := by decide +kernel
theorem dX6_begins_31 : decode cX6_begins 31 = .ok (.ireturn, 1) := by decide +kernel
theorem dX6_isFree_0 : decode cX6_isFree 0 = .ok (.aload_n 0, 1) := by decide +kernel
theorem dX6_isFree_1 : decode cX6_isFree 1 = .ok (.iconst 0, 1) := by decide +kernel
theorem dX6_isFree_2 : decode cX6_isFree 2 = .ok (.putfield 59, 3) := by decide +kernel
theorem dX6_isFree_5 : decode cX6_isFree 5 = .ok (.iconst 1, 1) := by decide +kernel
theorem dX6_isFree_6 : decode cX6_isFree 6 = .ok (.istore_n 1, 1) := by decide +kernel
theorem dX6_isFree_7 : decode cX6_isFree 7 = .ok (.iconst 0, 1) := by decide +kernel
theorem dX6_isFree_8 : decode cX6_isFree 8 = .ok (.istore_n 2, 1) := by decide +kernel
theorem dX6_isFree_9 : decode cX6_isFree 9 = .ok (.iload_n 2, 1) := by decide +kernel
theorem dX6_isFree_10 : decode cX6_isFree 10 = .ok (.bipush 12, 2) := by decide +kernel
theorem dX6_isFree_12 : decode cX6_isFree 12 = .ok (.if_icmp .ge 74, 3) := by decide +kernel
theorem dX6_isFree_15 : decode cX6_isFree 15 = .ok (.iconst 0, 1) := by decide +kernel
theorem dX6_isFree_16 : decode cX6_isFree 16 = .ok (.istore_n 3, 1) := by decide +kernel
theorem dX6_isFree_17 : decode cX6_isFree 17 = .ok (.iload_n 3, 1) := by decide +kernel
theorem dX6_isFree_18 : decode cX6_isFree 18 = .ok (.bipush 12, 2) := by decide +kernel
theorem dX6_isFree_20 : decode cX6_isFree 20 = .ok (.if_icmp .ge 60, 3) := by decide +kernel
theorem dX6_isFree_23 : decode cX6_isFree 23 = .ok (.iload_n 1, 1) := by decide +kernel
theorem dX6_isFree_24 : decode cX6_isFree 24 = .ok (.ifCond .eq 48, 3) := by decide +kernel
theorem dX6_isFree_27 : decode cX6_isFree 27 = .ok (.iload_n 2, 1) := by decide +kernel
theorem dX6_isFree_28 : decode cX6_isFree 28 = .ok (.iload_n 3, 1) := by decide +kernel
theorem dX6_isFree_29 : decode cX6_isFree 29 = .ok (.if_icmp .eq 39, 3) := by decide +kernel
theorem dX6_isFree_32 : decode cX6_isFree 32 = .ok (.aload_n 0, 1) := by decide +kernel
theorem dX6_isFree_33 : decode cX6_isFree 33 = .ok (.getfield 9, 3) := by decide +kernel
theorem dX6_isFree_36 : decode cX6_isFree 36 = .ok (.iload_n 2, 1) := by decide +kernel
theorem dX6_isFree_37 : decode cX6_isFree 37 = .ok (.iaload, 1) := by decide +kernel
theorem dX6_isFree_38 : decode cX6_isFree 38 = .ok (.ifCond .eq 30, 3) := by decide +kernel
theorem dX6_isFree_41 : decode cX6_isFree 41 = .ok (.aload_n 0, 1) := by decide +kernel
theorem dX6_isFree_42 : decode cX6_isFree 42 = .ok (.getfield 9, 3) := by decide +kernel
theorem dX6_isFree_45 : decode cX6_isFree 45 = .ok (.iload_n 3, 1) := by decide +kernel
theorem dX6_isFree_46 : decode cX6_isFree 46 = .ok (.iaload, 1) := by decide +kernel
theorem dX6_isFree_47 : decode cX6_isFree 47 = .ok (.ifCond .eq 21, 3) := by decide +kernel
theorem dX6_isFree_50 : decode cX6_isFree 50 = .ok (.aload_n 0, 1) := by decide +kernel
theorem dX6_isFree_51 : decode cX6_isFree 51 = .ok (.getfield 9, 3) := by decide +kernel
theorem dX6_isFree_54 : decode cX6_isFree 54 = .ok (.iload_n 2, 1) := by decide +kernel
theorem dX6_isFree_55 : decode cX6_isFree 55 = .ok (.iaload, 1) := by decide +kernel
theorem dX6_isFree_56 : decode cX6_isFree 56 = .ok (.aload_n 0, 1) := by decide +kernel
theorem dX6_isFree_57 : decode cX6_isFree 57 = .ok (.getfield 9, 3) := by decide +kernel
theorem dX6_isFree_60 : decode cX6_isFree 60 = .ok (.iload_n 3, 1) := by decide +kernel
theorem dX6_isFree_61 : decode cX6_isFree 61 = .ok (.iaload, 1) := by decide +kernel
theorem dX6_isFree_62 : decode cX6_isFree 62 = .ok (.invokestatic 81, 3) := by decide +kernel
theorem dX6_isFree_65 : decode cX6_isFree 65 = .ok (.ifCond .ne 7, 3) := by decide +kernel
theorem dX6_isFree_68 : decode cX6_isFree 68 = .ok (.iconst 1, 1) := by decide +kernel
theorem dX6_isFree_69 : decode cX6_isFree 69 = .ok (.goto 4, 3) := by decide +kernel
theorem dX6_isFree_72 : decode cX6_isFree 72 = .ok (.iconst 0, 1) := by decide +kernel
theorem dX6_isFree_73 : decode cX6_isFree 73 = .ok (.istore_n 1, 1) := by decide +kernel
theorem dX6_isFree_74 : decode cX6_isFree 74 = .ok (.iinc 3 1, 3) := by decide +kernel
theorem dX6_isFree_77 : decode cX6_isFree 77 = .ok (.goto (-60), 3) := by decide +kernel
theorem dX6_isFree_80 : decode cX6_isFree 80 = .ok (.iinc 2 1, 3) := by decide +kernel
theorem dX6_isFree_83 : decode cX6_isFree 83 = .ok (.goto (-74), 3) := by decide +kernel
theorem dX6_isFree_86 : decode cX6_isFree 86 = .ok (.iload_n 1, 1) := by decide +kernel
theorem dX6_isFree_87 : decode cX6_isFree 87 = .ok (.ireturn, 1) := by decide +kernel
theorem dX6_over_0 : decode cX6_over 0 = .ok (.aload_n 0, 1) := by decide +kernel
theorem dX6_over_1 : decode cX6_over 1 = .ok (.getfield 9, 3) := by decide +kernel
theorem dX6_over_4 : decode cX6_over 4 = .ok (.iload_n 1, 1) := by decide +kernel
theorem dX6_over_5 : decode cX6_over 5 = .ok (.iaload, 1) := by decide +kernel
theorem dX6_over_6 : decode cX6_over 6 = .ok (.invokestatic 62, 3) := by decide +kernel
theorem dX6_over_9 : decode cX6_over 9 = .ok (.iload_n 2, 1) := by decide +kernel
theorem dX6_over_10 : decode cX6_over 10 = .ok (.isub, 1) := by decide +kernel
theorem dX6_over_11 : decode cX6_over 11 = .ok (.istore 4, 2) := by decide +kernel
theorem dX6_over_13 : decode cX6_over 13 = .ok (.aload_n 0, 1) := by decide +kernel
theorem dX6_over_14 : decode cX6_over 14 = .ok (.getfield 9, 3) := by decide +kernel
theorem dX6_over_17 : decode cX6_over 17 = .ok (.iload_n 3, 1) := by decide +kernel
theorem dX6_over_18 : decode cX6_over 18 = .ok (.iaload, 1) := by decide +kernel
theorem dX6_over_19 : decode cX6_over 19 = .ok (.invokestatic 62, 3) := by decide +kernel
theorem dX6_over_22 : decode cX6_over 22 = .ok (.istore 5, 2) := by decide +kernel
theorem dX6_over_24 : decode cX6_over 24 = .ok (.iconst 0, 1) := by decide +kernel
theorem dX6_over_25 : decode cX6_over 25 = .ok (.istore 6, 2) := by decide +kernel
theorem dX6_over_27 : decode cX6_over 27 = .ok (.iload 6, 2) := by decide +kernel
theorem dX6_over_29 : decode cX6_over 29 = .ok (.iload 4, 2) := by decide +kernel
theorem dX6_over_31 : decode cX6_over 31 = .ok (.iload 5, 2) := by decide +kernel
theorem dX6_over_33 : decode cX6_over 33 = .ok (.invokestatic 85, 3) := by decide +kernel
theorem dX6_over_36 : decode cX6_over 36 = .ok (.if_icmp .ge 38, 3) := by decide +kernel
theorem dX6_over_39 : decode cX6_over 39 = .ok (.aload_n 0, 1) := by decide +kernel
theorem dX6_over_40 : decode cX6_over 40 = .ok (.getfield 9, 3) := by decide +kernel
theorem dX6_over_43 : decode cX6_over 43 = .ok (.iload_n 1, 1) := by decide +kernel
theorem dX6_over_44 : decode cX6_over 44 = .ok (.iaload, 1) := by decide +kernel
theorem dX6_over_45 : decode cX6_over 45 = .ok (.iload_n 2, 1) := by decide +kernel
theorem dX6_over_46 : decode cX6_over 46 = .ok (.iload 6, 2) := by decide +kernel
theorem dX6_over_48 : decode cX6_over 48 = .ok (.iadd, 1) := by decide +kernel
theorem dX6_over_49 : decode cX6_over 49 = .ok (.invokestatic 90, 3) := by decide +kernel
theorem dX6_over_52 : decode cX6_over 52 = .ok (.aload_n 0, 1) := by decide +kernel
theorem dX6_over_53 : decode cX6_over 53 = .ok (.getfield 9, 3) := by decide +kernel
theorem dX6_over_56 : decode cX6_over 56 = .ok (.iload_n 3, 1) := by decide +kernel
theorem dX6_over_57 : decode cX6_over 57 = .ok (.iaload, 1) := by decide +kernel
theorem dX6_over_58 : decode cX6_over 58 = .ok (.iload 6, 2) := by decide +kernel
theorem dX6_over_60 : decode cX6_over 60 = .ok (.invokestatic 90, 3) := by decide +kernel
theorem dX6_over_63 : decode cX6_over 63 = .ok (.if_icmp .eq 5, 3) := by decide +kernel
theorem dX6_over_66 : decode cX6_over 66 = .ok (.iconst (-1), 1) := by decide +kernel
theorem dX6_over_67 : decode cX6_over 67 = .ok (.ireturn, 1) := by decide +kernel
theorem dX6_over_68 : decode cX6_over 68 = .ok (.iinc 6 1, 3) := by decide +kernel
theorem dX6_over_71 : decode cX6_over 71 = .ok (.goto (-44), 3) := by decide +kernel
theorem dX6_over_74 : decode cX6_over 74 = .ok (.iload 4, 2) := by decide +kernel
theorem dX6_over_76 : decode cX6_over 76 = .ok (.iload 5, 2) := by decide +kernel
theorem dX6_over_78 : decode cX6_over 78 = .ok (.if_icmp .ne 8, 3) := by decide +kernel
theorem dX6_over_81 : decode cX6_over 81 = .ok (.bipush (-2), 2) := by decide +kernel
theorem dX6_over_83 : decode cX6_over 83 = .ok (.goto 27, 3) := by decide +kernel
theorem dX6_over_86 : decode cX6_over 86 = .ok (.iload 4, 2) := by decide +kernel
theorem dX6_over_88 : decode cX6_over 88 = .ok (.iload 5, 2) := by decide +kernel
theorem dX6_over_90 : decode cX6_over 90 = .ok (.if_icmp .le 14, 3) := by decide +kernel
theorem dX6_over_93 : decode cX6_over 93 = .ok (.iconst 4, 1) := by decide +kernel
theorem dX6_over_94 : decode cX6_over 94 = .ok (.iload_n 1, 1) := by decide +kernel
theorem dX6_over_95 : decode cX6_over 95 = .ok (.imul, 1) := by decide +kernel
theorem dX6_over_96 : decode cX6_over 96 = .ok (.iload_n 2, 1) := by decide +kernel
theorem dX6_over_97 : decode cX6_over 97 = .ok (.iadd, 1) := by decide +kernel
theorem dX6_over_98 : decode cX6_over 98 = .ok (.iload 5, 2) := by decide +kernel
theorem dX6_over_100 : decode cX6_over 100 = .ok (.iadd, 1) := by decide +kernel
theorem dX6_over_101 : decode cX6_over 101 = .ok (.goto 9, 3) := by decide +kernel
theorem dX6_over_104 : decode cX6_over 104 = .ok (.iconst 4, 1) := by decide +kernel
theorem dX6_over_105 : decode cX6_over 105 = .ok (.iload_n 3, 1) := by decide +kernel
theorem dX6_over_106 : decode cX6_over 106 = .ok (.imul, 1) := by decide +kernel
theorem dX6_over_107 : decode cX6_over 107 = .ok (.iload 4, 2) := by decide +kernel
theorem dX6_over_109 : decode cX6_over 109 = .ok (.iadd, 1) := by decide +kernel
theorem dX6_over_110 : decode cX6_over 110 = .ok (.ireturn, 1) := by decide +kernel
theorem dX6_isClear_0 : decode cX6_isClear 0 = .ok (.aload_n 0, 1) := by decide +kernel
theorem dX6_isClear_1 : decode cX6_isClear 1 = .ok (.iconst 0, 1) := by decide +kernel
theorem dX6_isClear_2 : decode cX6_isClear 2 = .ok (.putfield 59, 3) := by decide +kernel
theorem dX6_isClear_5 : decode cX6_isClear 5 = .ok (.bipush 48, 2) := by decide +kernel
theorem dX6_isClear_7 : decode cX6_isClear 7 = .ok (.newarray .boolean, 2) := by decide +kernel
theorem dX6_isClear_9 : decode cX6_isClear 9 = .ok (.astore_n 1, 1) := by decide +kernel
theorem dX6_isClear_10 : decode cX6_isClear 10 = .ok (.bipush 48, 2) := by decide +kernel
theorem dX6_isClear_12 : decode cX6_isClear 12 = .ok (.newarray .int, 2) := by decide +kernel
theorem dX6_isClear_14 : decode cX6_isClear 14 = .ok (.astore_n 2, 1) := by decide +kernel
theorem dX6_isClear_15 : decode cX6_isClear 15 = .ok (.iconst 0, 1) := by decide +kernel
theorem dX6_isClear_16 : decode cX6_isClear 16 = .ok (.istore_n 3, 1) := by decide +kernel
theorem dX6_isClear_17 : decode cX6_isClear 17 = .ok (.iconst 0, 1) := by decide +kernel
theorem dX6_isClear_18 : decode cX6_isClear 18 = .ok (.istore 4, 2) := by decide +kernel
theorem dX6_isClear_20 : decode cX6_isClear 20 = .ok (.iload 4, 2) := by decide +kernel
theorem dX6_isClear_22 : decode cX6_isClear 22 = .ok (.bipush 12, 2) := by decide +kernel
theorem dX6_isClear_24 : decode cX6_isClear 24 = .ok (.if_icmp .ge 100, 3) := by decide +kernel
theorem dX6_isClear_27 : decode cX6_isClear 27 = .ok (.iload 4, 2) := by decide +kernel
theorem dX6_isClear_29 : decode cX6_isClear 29 = .ok (.iconst 1, 1) := by decide +kernel
theorem dX6_isClear_30 : decode cX6_isClear 30 = .ok (.iadd, 1) := by decide +kernel
theorem dX6_isClear_31 : decode cX6_isClear 31 = .ok (.istore 5, 2) := by decide +kernel
theorem dX6_isClear_33 : decode cX6_isClear 33 = .ok (.iload 5, 2) := by decide +kernel
theorem dX6_isClear_35 : decode cX6_isClear 35 = .ok (.bipush 12, 2) := by decide +kernel
theorem dX6_isClear_37 : decode cX6_isClear 37 = .ok (.if_icmp .ge 81, 3) := by decide +kernel
theorem dX6_isClear_40 : decode cX6_isClear 40 = .ok (.aload_n 0, 1) := by decide +kernel
theorem dX6_isClear_41 : decode cX6_isClear 41 = .ok (.getfield 9, 3) := by decide +kernel
theorem dX6_isClear_44 : decode cX6_isClear 44 = .ok (.iload 4, 2) := by decide +kernel
theorem dX6_isClear_46 : decode cX6_isClear 46 = .ok (.iaload, 1) := by decide +kernel
theorem dX6_isClear_47 : decode cX6_isClear 47 = .ok (.ifCond .eq 65, 3) := by decide +kernel
theorem dX6_isClear_50 : decode cX6_isClear 50 = .ok (.aload_n 0, 1) := by decide +kernel
theorem dX6_isClear_51 : decode cX6_isClear 51 = .ok (.getfield 9, 3) := by decide +kernel
theorem dX6_isClear_54 : decode cX6_isClear 54 = .ok (.iload 5, 2) := by decide +kernel
theorem dX6_isClear_56 : decode cX6_isClear 56 = .ok (.iaload, 1) := by decide +kernel
theorem dX6_isClear_57 : decode cX6_isClear 57 = .ok (.ifCond .ne 6, 3) := by decide +kernel
theorem dX6_isClear_60 : decode cX6_isClear 60 = .ok (.goto 52, 3) := by decide +kernel
theorem dX6_isClear_63 : decode cX6_isClear 63 = .ok (.aload_n 0, 1) := by decide +kernel
theorem dX6_isClear_64 : decode cX6_isClear 64 = .ok (.iload 4, 2) := by decide +kernel
theorem dX6_isClear_66 : decode cX6_isClear 66 = .ok (.iconst 0, 1) := by decide +kernel
theorem dX6_isClear_67 : decode cX6_isClear 67 = .ok (.iload 5, 2) := by decide +kernel
theorem dX6_isClear_69 : decode cX6_isClear 69 = .ok (.invokevirtual 93, 3) := by decide +kernel
theorem dX6_isClear_72 : decode cX6_isClear 72 = .ok (.istore 6, 2) := by decide +kernel
theorem dX6_isClear_74 : decode cX6_isClear 74 = .ok (.iload 6, 2) := by decide +kernel
theorem dX6_isClear_76 : decode cX6_isClear 76 = .ok (.bipush (-2), 2) := by decide +kernel
theorem dX6_isClear_78 : decode cX6_isClear 78 = .ok (.if_icmp .ne 5, 3) := by decide +kernel
theorem dX6_isClear_81 : decode cX6_isClear 81 = .ok (.iconst 0, 1) := by decide +kernel
theorem dX6_isClear_82 : decode cX6_isClear 82 = .ok (.ireturn, 1) := by decide +kernel
theorem dX6_isClear_83 : decode cX6_isClear 83 = .ok (.iload 6, 2) := by decide +kernel
theorem dX6_isClear_85 : decode cX6_isClear 85 = .ok (.iconst (-1), 1) := by decide +kernel
theorem dX6_isClear_86 : decode cX6_isClear 86 = .ok (.if_icmp .eq 26, 3) := by decide +kernel
theorem dX6_isClear_89 : decode cX6_isClear 89 = .ok (.aload_n 1, 1) := by decide +kernel
theorem dX6_isClear_90 : decode cX6_isClear 90 = .ok (.iload 6, 2) := by decide +kernel
theorem dX6_isClear_92 : decode cX6_isClear 92 = .ok (.baload, 1) := by decide +kernel
theorem dX6_isClear_93 : decode cX6_isClear 93 = .ok (.ifCond .eq 6, 3) := by decide +kernel
theorem dX6_isClear_96 : decode cX6_isClear 96 = .ok (.goto 16, 3) := by decide +kernel
theorem dX6_isClear_99 : decode cX6_isClear 99 = .ok (.aload_n 1, 1) := by decide +kernel
theorem dX6_isClear_100 : decode cX6_isClear 100 = .ok (.iload 6, 2) := by decide +kernel
theorem dX6_isClear_102 : decode cX6_isClear 102 = .ok (.iconst 1, 1) := by decide +kernel
theorem dX6_isClear_103 : decode cX6_isClear 103 = .ok (.bastore, 1) := by decide +kernel
theorem dX6_isClear_104 : decode cX6_isClear 104 = .ok (.aload_n 2, 1) := by decide +kernel
theorem dX6_isClear_105 : decode cX6_isClear 105 = .ok (.iload_n 3, 1) := by decide +kernel
theorem dX6_isClear_106 : decode cX6_isClear 106 = .ok (.iload 6, 2) := by decide +kernel
theorem dX6_isClear_108 : decode cX6_isClear 108 = .ok (.iastore, 1) := by decide +kernel
theorem dX6_isClear_109 : decode cX6_isClear 109 = .ok (.iinc 3 1, 3) := by decide +kernel
theorem dX6_isClear_112 : decode cX6_isClear 112 = .ok (.iinc 5 1, 3) := by decide +kernel
theorem dX6_isClear_115 : decode cX6_isClear 115 = .ok (.goto (-82), 3) := by decide +kernel
theorem dX6_isClear_118 : decode cX6_isClear 118 = .ok (.iinc 4 1, 3) := by decide +kernel
theorem dX6_isClear_121 : decode cX6_isClear 121 = .ok (.goto (-101), 3) := by decide +kernel
theorem dX6_isClear_124 : decode cX6_isClear 124 = .ok (.iconst 0, 1) := by decide +kernel
theorem dX6_isClear_125 : decode cX6_isClear 125 = .ok (.istore 4, 2) := by decide +kernel
theorem dX6_isClear_127 : decode cX6_isClear 127 = .ok (.iload 4, 2) := by decide +kernel
theorem dX6_isClear_129 : decode cX6_isClear 129 = .ok (.iload_n 3, 1) := by decide +kernel
theorem dX6_isClear_130 : decode cX6_isClear 130 = .ok (.if_icmp .ge 96, 3) := by decide +kernel
theorem dX6_isClear_133 : decode cX6_isClear 133 = .ok (.iconst 0, 1) := by decide +kernel
theorem dX6_isClear_134 : decode cX6_isClear 134 = .ok (.istore 5, 2) := by decide +kernel
theorem dX6_isClear_136 : decode cX6_isClear 136 = .ok (.iload 5, 2) := by decide +kernel
theorem dX6_isClear_138 : decode cX6_isClear 138 = .ok (.bipush 12, 2) := by decide +kernel
theorem dX6_isClear_140 : decode cX6_isClear 140 = .ok (.if_icmp .ge 80, 3) := by decide +kernel
theorem dX6_isClear_143 : decode cX6_isClear 143 = .ok (.aload_n 0, 1) := by decide +kernel
theorem dX6_isClear_144 : decode cX6_isClear 144 = .ok (.getfield 9, 3) := by decide +kernel
theorem dX6_isClear_147 : decode cX6_isClear 147 = .ok (.iload 5, 2) := by decide +kernel
theorem dX6_isClear_149 : decode cX6_isClear 149 = .ok (.iaload, 1) := by decide +kernel
theorem dX6_isClear_150 : decode cX6_isClear 150 = .ok (.ifCond .ne 6, 3) := by decide +kernel
theorem dX6_isClear_153 : decode cX6_isClear 153 = .ok (.goto 61, 3) := by decide +kernel
theorem dX6_isClear_156 : decode cX6_isClear 156 = .ok (.aload_n 0, 1) := by decide +kernel
theorem dX6_isClear_157 : decode cX6_isClear 157 = .ok (.aload_n 2, 1) := by decide +kernel
theorem dX6_isClear_158 : decode cX6_isClear 158 = .ok (.iload 4, 2) := by decide +kernel
theorem dX6_isClear_160 : decode cX6_isClear 160 = .ok (.iaload, 1) := by decide +kernel
theorem dX6_isClear_161 : decode cX6_isClear 161 = .ok (.iconst 4, 1) := by decide +kernel
theorem dX6_isClear_162 : decode cX6_isClear 162 = .ok (.idiv, 1) := by decide +kernel
theorem dX6_isClear_163 : decode cX6_isClear 163 = .ok (.aload_n 2, 1) := by decide +kernel
theorem dX6_isClear_164 : decode cX6_isClear 164 = .ok (.iload 4, 2) := by decide +kernel
theorem dX6_isClear_166 : decode cX6_isClear 166 = .ok (.iaload, 1) := by decide +kernel
theorem dX6_isClear_167 : decode cX6_isClear 167 = .ok (.iconst 4, 1) := by decide +kernel
theorem dX6_isClear_168 : decode cX6_isClear 168 = .ok (.irem, 1) := by decide +kernel
theorem dX6_isClear_169 : decode cX6_isClear 169 = .ok (.iload 5, 2) := by decide +kernel
theorem dX6_isClear_171 : decode cX6_isClear 171 = .ok (.invokevirtual 93, 3) := by decide +kernel
theorem dX6_isClear_174 : decode cX6_isClear 174 = .ok (.istore 6, 2) := by decide +kernel
theorem dX6_isClear_176 : decode cX6_isClear 176 = .ok (.iload 6, 2) := by decide +kernel
theorem dX6_isClear_178 : decode cX6_isClear 178 = .ok (.bipush (-2), 2) := by decide +kernel
theorem dX6_isClear_180 : decode cX6_isClear 180 = .ok (.if_icmp .ne 5, 3) := by decide +kernel
theorem dX6_isClear_183 : decode cX6_isClear 183 = .ok (.iconst 0, 1) := by decide +kernel
theorem dX6_isClear_184 : decode cX6_isClear 184 = .ok (.ireturn, 1) := by decide +kernel
theorem dX6_isClear_185 : decode cX6_isClear 185 = .ok (.iload 6, 2) := by decide +kernel
theorem dX6_isClear_187 : decode cX6_isClear 187 = .ok (.iconst (-1), 1) := by decide +kernel
theorem dX6_isClear_188 : decode cX6_isClear 188 = .ok (.if_icmp .eq 26, 3) := by decide +kernel
theorem dX6_isClear_191 : decode cX6_isClear 191 = .ok (.aload_n 1, 1) := by decide +kernel
theorem dX6_isClear_192 : decode cX6_isClear 192 = .ok (.iload 6, 2) := by decide +kernel
theorem dX6_isClear_194 : decode cX6_isClear 194 = .ok (.baload, 1) := by decide +kernel
theorem dX6_isClear_195 : decode cX6_isClear 195 = .ok (.ifCond .eq 6, 3) := by decide +kernel
theorem dX6_isClear_198 : decode cX6_isClear 198 = .ok (.goto 16, 3) := by decide +kernel
theorem dX6_isClear_201 : decode cX6_isClear 201 = .ok (.aload_n 1, 1) := by decide +kernel
theorem dX6_isClear_202 : decode cX6_isClear 202 = .ok (.iload 6, 2) := by decide +kernel
theorem dX6_isClear_204 : decode cX6_isClear 204 = .ok (.iconst 1, 1) := by decide +kernel
theorem dX6_isClear_205 : decode cX6_isClear 205 = .ok (.bastore, 1) := by decide +kernel
theorem dX6_isClear_206 : decode cX6_isClear 206 = .ok (.aload_n 2, 1) := by decide +kernel
theorem dX6_isClear_207 : decode cX6_isClear 207 = .ok (.iload_n 3, 1) := by decide +kernel
theorem dX6_isClear_208 : decode cX6_isClear 208 = .ok (.iload 6, 2) := by decide +kernel
theorem dX6_isClear_210 : decode cX6_isClear 210 = .ok (.iastore, 1) := by decide +kernel
theorem dX6_isClear_211 : decode cX6_isClear 211 = .ok (.iinc 3 1, 3) := by decide +kernel
theorem dX6_isClear_214 : decode cX6_isClear 214 = .ok (.iinc 5 1, 3) := by decide +kernel
theorem dX6_isClear_217 : decode cX6_isClear 217 = .ok (.goto (-81), 3) := by decide +kernel
theorem dX6_isClear_220 : decode cX6_isClear 220 = .ok (.iinc 4 1, 3) := by decide +kernel
theorem dX6_isClear_223 : decode cX6_isClear 223 = .ok (.goto (-96), 3) := by decide +kernel
theorem dX6_isClear_226 : decode cX6_isClear 226 = .ok (.iconst 1, 1) := by decide +kernel
theorem dX6_isClear_227 : decode cX6_isClear 227 = .ok (.ireturn, 1) := by decide +kernel
theorem dX6_lay_0 : decode cX6_lay 0 = .ok (.iconst 0, 1) := by decide +kernel
theorem dX6_lay_1 : decode cX6_lay 1 = .ok (.istore 4, 2) := by decide +kernel
theorem dX6_lay_3 : decode cX6_lay 3 = .ok (.iload 4, 2) := by decide +kernel
theorem dX6_lay_5 : decode cX6_lay 5 = .ok (.iload_n 3, 1) := by decide +kernel
theorem dX6_lay_6 : decode cX6_lay 6 = .ok (.iload_n 2, 1) := by decide +kernel
theorem dX6_lay_7 : decode cX6_lay 7 = .ok (.isub, 1) := by decide +kernel
theorem dX6_lay_8 : decode cX6_lay 8 = .ok (.if_icmp .gt 23, 3) := by decide +kernel
theorem dX6_lay_11 : decode cX6_lay 11 = .ok (.aload_n 0, 1) := by decide +kernel
theorem dX6_lay_12 : decode cX6_lay 12 = .ok (.getfield 56, 3) := by decide +kernel
theorem dX6_lay_15 : decode cX6_lay 15 = .ok (.iload 4, 2) := by decide +kernel
theorem dX6_lay_17 : decode cX6_lay 17 = .ok (.iload 4, 2) := by decide +kernel
theorem dX6_lay_19 : decode cX6_lay 19 = .ok (.aload_n 0, 1) := by decide +kernel
theorem dX6_lay_20 : decode cX6_lay 20 = .ok (.getfield 23, 3) := by decide +kernel
theorem dX6_lay_23 : decode cX6_lay 23 = .ok (.imul, 1) := by decide +kernel
theorem dX6_lay_24 : decode cX6_lay 24 = .ok (.iastore, 1) := by decide +kernel
theorem dX6_lay_25 : decode cX6_lay 25 = .ok (.iinc 4 1, 3) := by decide +kernel
theorem dX6_lay_28 : decode cX6_lay 28 = .ok (.goto (-25), 3) := by decide +kernel
theorem dX6_lay_31 : decode cX6_lay 31 = .ok (.iconst 0, 1) := by decide +kernel
theorem dX6_lay_32 : decode cX6_lay 32 = .ok (.istore 4, 2) := by decide +kernel
theorem dX6_lay_34 : decode cX6_lay 34 = .ok (.iload 4, 2) := by decide +kernel
theorem dX6_lay_36 : decode cX6_lay 36 = .ok (.iload_n 1, 1) := by decide +kernel
theorem dX6_lay_37 : decode cX6_lay 37 = .ok (.invokestatic 62, 3) := by decide +kernel
theorem dX6_lay_40 : decode cX6_lay 40 = .ok (.if_icmp .ge 127, 3) := by decide +kernel
theorem dX6_lay_43 : decode cX6_lay 43 = .ok (.aload_n 0, 1) := by decide +kernel
theorem dX6_lay_44 : decode cX6_lay 44 = .ok (.getfield 56, 3) := by decide +kernel
theorem dX6_lay_47 : decode cX6_lay 47 = .ok (.iconst 0, 1) := by decide +kernel
theorem dX6_lay_48 : decode cX6_lay 48 = .ok (.iaload, 1) := by decide +kernel
theorem dX6_lay_49 : decode cX6_lay 49 = .ok (.istore 5, 2) := by decide +kernel
theorem dX6_lay_51 : decode cX6_lay 51 = .ok (.aload_n 0, 1) := by decide +kernel
theorem dX6_lay_52 : decode cX6_lay 52 = .ok (.getfield 56, 3) := by decide +kernel
theorem dX6_lay_55 : decode cX6_lay 55 = .ok (.iconst 0, 1) := by decide +kernel
theorem dX6_lay_56 : decode cX6_lay 56 = .ok (.dup2, 1) := by decide +kernel
theorem dX6_lay_57 : decode cX6_lay 57 = .ok (.iaload, 1) := by decide +kernel
theorem dX6_lay_58 : decode cX6_lay 58 = .ok (.aload_n 0, 1) := by decide +kernel
theorem dX6_lay_59 : decode cX6_lay 59 = .ok (.getfield 19, 3) := by decide +kernel
theorem dX6_lay_62 : decode cX6_lay 62 = .ok (.iadd, 1) := by decide +kernel
theorem dX6_lay_63 : decode cX6_lay 63 = .ok (.iastore, 1) := by decide +kernel
theorem dX6_lay_64 : decode cX6_lay 64 = .ok (.iconst 1, 1) := by decide +kernel
theorem dX6_lay_65 : decode cX6_lay 65 = .ok (.istore 6, 2) := by decide +kernel
theorem dX6_lay_67 : decode cX6_lay 67 = .ok (.iload 6, 2) := by decide +kernel
theorem dX6_lay_69 : decode cX6_lay 69 = .ok (.iload_n 3, 1) := by decide +kernel
theorem dX6_lay_70 : decode cX6_lay 70 = .ok (.iload_n 2, 1) := by decide +kernel
theorem dX6_lay_71 : decode cX6_lay 71 = .ok (.isub, 1) := by decide +kernel
theorem dX6_lay_72 : decode cX6_lay 72 = .ok (.if_icmp .gt 89, 3) := by decide +kernel
theorem dX6_lay_75 : decode cX6_lay 75 = .ok (.iload 5, 2) := by decide +kernel
theorem dX6_lay_77 : decode cX6_lay 77 = .ok (.aload_n 0, 1) := by decide +kernel
theorem dX6_lay_78 : decode cX6_lay 78 = .ok (.getfield 16, 3) := by decide +kernel
theorem dX6_lay_81 : decode cX6_lay 81 = .ok (.iconst 5, 1) := by decide +kernel
theorem dX6_lay_82 : decode cX6_lay 82 = .ok (.iload_n 1, 1) := by decide +kernel
theorem dX6_lay_83 : decode cX6_lay 83 = .ok (.iload 4, 2) := by decide +kernel
theorem dX6_lay_85 : decode cX6_lay 85 = .ok (.invokestatic 90, 3) := by decide +kernel
theorem dX6_lay_88 : decode cX6_lay 88 = .ok (.imul, 1) := by decide +kernel
theorem dX6_lay_89 : decode cX6_lay 89 = .ok (.aload_n 0, 1) := by decide +kernel
theorem dX6_lay_90 : decode cX6_lay 90 = .ok (.getfield 29, 3) := by decide +kernel
theorem dX6_lay_93 : decode cX6_lay 93 = .ok (.iload_n 2, 1) := by decide +kernel
theorem dX6_lay_94 : decode cX6_lay 94 = .ok (.iload 6, 2) := by decide +kernel
theorem dX6_lay_96 : decode cX6_lay 96 = .ok (.iadd, 1) := by decide +kernel
theorem dX6_lay_97 : decode cX6_lay 97 = .ok (.iconst 1, 1) := by decide +kernel
theorem dX6_lay_98 : decode cX6_lay 98 = .ok (.isub, 1) := by decide +kernel
theorem dX6_lay_99 : decode cX6_lay 99 = .ok (.iaload, 1) := by decide +kernel
theorem dX6_lay_100 : decode cX6_lay 100 = .ok (.iadd, 1) := by decide +kernel
theorem dX6_lay_101 : decode cX6_lay 101 = .ok (.iaload, 1) := by decide +kernel
theorem dX6_lay_102 : decode cX6_lay 102 = .ok (.iadd, 1) := by decide +kernel
theorem dX6_lay_103 : decode cX6_lay 103 = .ok (.aload_n 0, 1) := by decide +kernel
theorem dX6_lay_104 : decode cX6_lay 104 = .ok (.getfield 56, 3) := by decide +kernel
theorem dX6_lay_107 : decode cX6_lay 107 = .ok (.iload 6, 2) := by decide +kernel
theorem dX6_lay_109 : decode cX6_lay 109 = .ok (.iaload, 1) := by decide +kernel
theorem dX6_lay_110 : decode cX6_lay 110 = .ok (.aload_n 0, 1) := by decide +kernel
theorem dX6_lay_111 : decode cX6_lay 111 = .ok (.getfield 19, 3) := by decide +kernel
theorem dX6_lay_114 : decode cX6_lay 114 = .ok (.iadd, 1) := by decide +kernel
theorem dX6_lay_115 : decode cX6_lay 115 = .ok (.aload_n 0, 1) := by decide +kernel
theorem dX6_lay_116 : decode cX6_lay 116 = .ok (.getfield 56, 3) := by decide +kernel
theorem dX6_lay_119 : decode cX6_lay 119 = .ok (.iload 6, 2) := by decide +kernel
theorem dX6_lay_121 : decode cX6_lay 121 = .ok (.iconst 1, 1) := by decide +kernel
theorem dX6_lay_122 : decode cX6_lay 122 = .ok (.isub, 1) := by decide +kernel
theorem dX6_lay_123 : decode cX6_lay 123 = .ok (.iaload, 1) := by decide +kernel
theorem dX6_lay_124 : decode cX6_lay 124 = .ok (.aload_n 0, 1) := by decide +kernel
theorem dX6_lay_125 : decode cX6_lay 125 = .ok (.getfield 23, 3) := by decide +kernel
theorem dX6_lay_128 : decode cX6_lay 128 = .ok (.iadd, 1) := by decide +kernel
theorem dX6_lay_129 : decode cX6_lay 129 = .ok (.invokestatic 85, 3) := by decide +kernel
theorem dX6_lay_132 : decode cX6_lay 132 = .ok (.invokestatic 85, 3) := by decide +kernel
theorem dX6_lay_135 : decode cX6_lay 135 = .ok (.istore 7, 2) := by decide +kernel
theorem dX6_lay_137 : decode cX6_lay 137 = .ok (.aload_n 0, 1) := by decide +kernel
theorem dX6_lay_138 : decode cX6_lay 138 = .ok (.getfield 56, 3) := by decide +kernel
theorem dX6_lay_141 : decode cX6_lay 141 = .ok (.iload 6, 2) := by decide +kernel
theorem dX6_lay_143 : decode cX6_lay 143 = .ok (.iaload, 1) := by decide +kernel
theorem dX6_lay_144 : decode cX6_lay 144 = .ok (.istore 5, 2) := by decide +kernel
theorem dX6_lay_146 : decode cX6_lay 146 = .ok (.aload_n 0, 1) := by decide +kernel
theorem dX6_lay_147 : decode cX6_lay 147 = .ok (.getfield 56, 3) := by decide +kernel
theorem dX6_lay_150 : decode cX6_lay 150 = .ok (.iload 6, 2) := by decide +kernel
theorem dX6_lay_152 : decode cX6_lay 152 = .ok (.iload 7, 2) := by decide +kernel
theorem dX6_lay_154 : decode cX6_lay 154 = .ok (.iastore, 1) := by decide +kernel
theorem dX6_lay_155 : decode cX6_lay 155 = .ok (.iinc 6 1, 3) := by decide +kernel
theorem dX6_lay_158 : decode cX6_lay 158 = .ok (.goto (-91), 3) := by decide +kernel
theorem dX6_lay_161 : decode cX6_lay 161 = .ok (.iinc 4 1, 3) := by decide +kernel
theorem dX6_lay_164 : decode cX6_lay 164 = .ok (.goto (-130), 3) := by decide +kernel
theorem dX6_lay_167 : decode cX6_lay 167 = .ok (.return_, 1) := by decide +kernel
theorem dX6_apart_0 : decode cX6_apart 0 = .ok (.aload_n 0, 1) := by decide +kernel
