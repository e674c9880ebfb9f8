theorem dX6_apart_1 : decode cX6_apart 1 = .ok (.getfield 9, 3) := by decide +kernel
theorem dX6_apart_4 : decode cX6_apart 4 = .ok (.iload_n 1, 1) := by decide +kernel
theorem dX6_apart_5 : decode cX6_apart 5 = .ok (.iaload, 1) := by decide +kernel
theorem dX6_apart_6 : decode cX6_apart 6 = .ok (.invokestatic 62, 3) := by decide +kernel
theorem dX6_apart_9 : decode cX6_apart 9 = .ok (.istore_n 3, 1) := by decide +kernel
theorem dX6_apart_10 : decode cX6_apart 10 = .ok (.aload_n 0, 1) := by decide +kernel
theorem dX6_apart_11 : decode cX6_apart 11 = .ok (.getfield 9, 3) := by decide +kernel
theorem dX6_apart_14 : decode cX6_apart 14 = .ok (.iload_n 2, 1) := by decide +kernel
theorem dX6_apart_15 : decode cX6_apart 15 = .ok (.iaload, 1) := by decide +kernel
theorem dX6_apart_16 : decode cX6_apart 16 = .ok (.invokestatic 62, 3) := by decide +kernel
theorem dX6_apart_19 : decode cX6_apart 19 = .ok (.iconst 1, 1) := by decide +kernel
theorem dX6_apart_20 : decode cX6_apart 20 = .ok (.iadd, 1) := by decide +kernel
theorem dX6_apart_21 : decode cX6_apart 21 = .ok (.istore 4, 2) := by decide +kernel
theorem dX6_apart_23 : decode cX6_apart 23 = .ok (.bipush 25, 2) := by decide +kernel
theorem dX6_apart_25 : decode cX6_apart 25 = .ok (.newarray .int, 2) := by decide +kernel
theorem dX6_apart_27 : decode cX6_apart 27 = .ok (.astore 5, 2) := by decide +kernel
theorem dX6_apart_29 : decode cX6_apart 29 = .ok (.iconst 0, 1) := by decide +kernel
theorem dX6_apart_30 : decode cX6_apart 30 = .ok (.istore 6, 2) := by decide +kernel
theorem dX6_apart_32 : decode cX6_apart 32 = .ok (.iload 6, 2) := by decide +kernel
theorem dX6_apart_34 : decode cX6_apart 34 = .ok (.iload_n 3, 1) := by decide +kernel
theorem dX6_apart_35 : decode cX6_apart 35 = .ok (.if_icmp .gt 178, 3) := by decide +kernel
theorem dX6_apart_38 : decode cX6_apart 38 = .ok (.iconst 0, 1) := by decide +kernel
theorem dX6_apart_39 : decode cX6_apart 39 = .ok (.istore 7, 2) := by decide +kernel
theorem dX6_apart_41 : decode cX6_apart 41 = .ok (.iload 7, 2) := by decide +kernel
theorem dX6_apart_43 : decode cX6_apart 43 = .ok (.iload 4, 2) := by decide +kernel
theorem dX6_apart_45 : decode cX6_apart 45 = .ok (.if_icmp .ge 162, 3) := by decide +kernel
theorem dX6_apart_48 : decode cX6_apart 48 = .ok (.iload 6, 2) := by decide +kernel
theorem dX6_apart_50 : decode cX6_apart 50 = .ok (.ifCond .ne 12, 3) := by decide +kernel
theorem dX6_apart_53 : decode cX6_apart 53 = .ok (.iload 7, 2) := by decide +kernel
theorem dX6_apart_55 : decode cX6_apart 55 = .ok (.ifCond .ne 7, 3) := by decide +kernel
theorem dX6_apart_58 : decode cX6_apart 58 = .ok (.iconst 0, 1) := by decide +kernel
theorem dX6_apart_59 : decode cX6_apart 59 = .ok (.goto 5, 3) := by decide +kernel
theorem dX6_apart_62 : decode cX6_apart 62 = .ok (.ldc 97, 2) := by decide +kernel
theorem dX6_apart_64 : decode cX6_apart 64 = .ok (.istore 8, 2) := by decide +kernel
theorem dX6_apart_66 : decode cX6_apart 66 = .ok (.iload 6, 2) := by decide +kernel
theorem dX6_apart_68 : decode cX6_apart 68 = .ok (.ifCond .le 27, 3) := by decide +kernel
theorem dX6_apart_71 : decode cX6_apart 71 = .ok (.iload 8, 2) := by decide +kernel
theorem dX6_apart_73 : decode cX6_apart 73 = .ok (.aload 5, 2) := by decide +kernel
theorem dX6_apart_75 : decode cX6_apart 75 = .ok (.iconst 5, 1) := by decide +kernel
theorem dX6_apart_76 : decode cX6_apart 76 = .ok (.iload 6, 2) := by decide +kernel
theorem dX6_apart_78 : decode cX6_apart 78 = .ok (.imul, 1) := by decide +kernel
theorem dX6_apart_79 : decode cX6_apart 79 = .ok (.iconst 5, 1) := by decide +kernel
theorem dX6_apart_80 : decode cX6_apart 80 = .ok (.isub, 1) := by decide +kernel
theorem dX6_apart_81 : decode cX6_apart 81 = .ok (.iload 7, 2) := by decide +kernel
theorem dX6_apart_83 : decode cX6_apart 83 = .ok (.iadd, 1) := by decide +kernel
theorem dX6_apart_84 : decode cX6_apart 84 = .ok (.iaload, 1) := by decide +kernel
theorem dX6_apart_85 : decode cX6_apart 85 = .ok (.aload_n 0, 1) := by decide +kernel
theorem dX6_apart_86 : decode cX6_apart 86 = .ok (.getfield 19, 3) := by decide +kernel
theorem dX6_apart_89 : decode cX6_apart 89 = .ok (.iadd, 1) := by decide +kernel
theorem dX6_apart_90 : decode cX6_apart 90 = .ok (.invokestatic 85, 3) := by decide +kernel
theorem dX6_apart_93 : decode cX6_apart 93 = .ok (.istore 8, 2) := by decide +kernel
theorem dX6_apart_95 : decode cX6_apart 95 = .ok (.iload 7, 2) := by decide +kernel
theorem dX6_apart_97 : decode cX6_apart 97 = .ok (.ifCond .le 27, 3) := by decide +kernel
theorem dX6_apart_100 : decode cX6_apart 100 = .ok (.iload 8, 2) := by decide +kernel
theorem dX6_apart_102 : decode cX6_apart 102 = .ok (.aload 5, 2) := by decide +kernel
theorem dX6_apart_104 : decode cX6_apart 104 = .ok (.iconst 5, 1) := by decide +kernel
theorem dX6_apart_105 : decode cX6_apart 105 = .ok (.iload 6, 2) := by decide +kernel
theorem dX6_apart_107 : decode cX6_apart 107 = .ok (.imul, 1) := by decide +kernel
theorem dX6_apart_108 : decode cX6_apart 108 = .ok (.iload 7, 2) := by decide +kernel
theorem dX6_apart_110 : decode cX6_apart 110 = .ok (.iadd, 1) := by decide +kernel
theorem dX6_apart_111 : decode cX6_apart 111 = .ok (.iconst 1, 1) := by decide +kernel
theorem dX6_apart_112 : decode cX6_apart 112 = .ok (.isub, 1) := by decide +kernel
theorem dX6_apart_113 : decode cX6_apart 113 = .ok (.iaload, 1) := by decide +kernel
theorem dX6_apart_114 : decode cX6_apart 114 = .ok (.aload_n 0, 1) := by decide +kernel
theorem dX6_apart_115 : decode cX6_apart 115 = .ok (.getfield 23, 3) := by decide +kernel
theorem dX6_apart_118 : decode cX6_apart 118 = .ok (.iadd, 1) := by decide +kernel
theorem dX6_apart_119 : decode cX6_apart 119 = .ok (.invokestatic 85, 3) := by decide +kernel
theorem dX6_apart_122 : decode cX6_apart 122 = .ok (.istore 8, 2) := by decide +kernel
theorem dX6_apart_124 : decode cX6_apart 124 = .ok (.iload 6, 2) := by decide +kernel
theorem dX6_apart_126 : decode cX6_apart 126 = .ok (.ifCond .le 63, 3) := by decide +kernel
theorem dX6_apart_129 : decode cX6_apart 129 = .ok (.iload 7, 2) := by decide +kernel
theorem dX6_apart_131 : decode cX6_apart 131 = .ok (.ifCond .le 58, 3) := by decide +kernel
theorem dX6_apart_134 : decode cX6_apart 134 = .ok (.iload 8, 2) := by decide +kernel
theorem dX6_apart_136 : decode cX6_apart 136 = .ok (.aload 5, 2) := by decide +kernel
theorem dX6_apart_138 : decode cX6_apart 138 = .ok (.iconst 5, 1) := by decide +kernel
theorem dX6_apart_139 : decode cX6_apart 139 = .ok (.iload 6, 2) := by decide +kernel
theorem dX6_apart_141 : decode cX6_apart 141 = .ok (.imul, 1) := by decide +kernel
theorem dX6_apart_142 : decode cX6_apart 142 = .ok (.bipush 6, 2) := by decide +kernel
theorem dX6_apart_144 : decode cX6_apart 144 = .ok (.isub, 1) := by decide +kernel
theorem dX6_apart_145 : decode cX6_apart 145 = .ok (.iload 7, 2) := by decide +kernel
theorem dX6_apart_147 : decode cX6_apart 147 = .ok (.iadd, 1) := by decide +kernel
theorem dX6_apart_148 : decode cX6_apart 148 = .ok (.iaload, 1) := by decide +kernel
theorem dX6_apart_149 : decode cX6_apart 149 = .ok (.aload_n 0, 1) := by decide +kernel
theorem dX6_apart_150 : decode cX6_apart 150 = .ok (.getfield 16, 3) := by decide +kernel
theorem dX6_apart_153 : decode cX6_apart 153 = .ok (.iconst 5, 1) := by decide +kernel
theorem dX6_apart_154 : decode cX6_apart 154 = .ok (.aload_n 0, 1) := by decide +kernel
theorem dX6_apart_155 : decode cX6_apart 155 = .ok (.getfield 9, 3) := by decide +kernel
theorem dX6_apart_158 : decode cX6_apart 158 = .ok (.iload_n 1, 1) := by decide +kernel
theorem dX6_apart_159 : decode cX6_apart 159 = .ok (.iaload, 1) := by decide +kernel
theorem dX6_apart_160 : decode cX6_apart 160 = .ok (.iload 6, 2) := by decide +kernel
theorem dX6_apart_162 : decode cX6_apart 162 = .ok (.iconst 1, 1) := by decide +kernel
theorem dX6_apart_163 : decode cX6_apart 163 = .ok (.isub, 1) := by decide +kernel
theorem dX6_apart_164 : decode cX6_apart 164 = .ok (.invokestatic 90, 3) := by decide +kernel
theorem dX6_apart_167 : decode cX6_apart 167 = .ok (.imul, 1) := by decide +kernel
theorem dX6_apart_168 : decode cX6_apart 168 = .ok (.aload_n 0, 1) := by decide +kernel
theorem dX6_apart_169 : decode cX6_apart 169 = .ok (.getfield 9, 3) := by decide +kernel
theorem dX6_apart_172 : decode cX6_apart 172 = .ok (.iload_n 2, 1) := by decide +kernel
theorem dX6_apart_173 : decode cX6_apart 173 = .ok (.iaload, 1) := by decide +kernel
theorem dX6_apart_174 : decode cX6_apart 174 = .ok (.iload 7, 2) := by decide +kernel
theorem dX6_apart_176 : decode cX6_apart 176 = .ok (.iconst 1, 1) := by decide +kernel
theorem dX6_apart_177 : decode cX6_apart 177 = .ok (.isub, 1) := by decide +kernel
theorem dX6_apart_178 : decode cX6_apart 178 = .ok (.invokestatic 90, 3) := by decide +kernel
theorem dX6_apart_181 : decode cX6_apart 181 = .ok (.iadd, 1) := by decide +kernel
theorem dX6_apart_182 : decode cX6_apart 182 = .ok (.iaload, 1) := by decide +kernel
theorem dX6_apart_183 : decode cX6_apart 183 = .ok (.iadd, 1) := by decide +kernel
theorem dX6_apart_184 : decode cX6_apart 184 = .ok (.invokestatic 85, 3) := by decide +kernel
theorem dX6_apart_187 : decode cX6_apart 187 = .ok (.istore 8, 2) := by decide +kernel
theorem dX6_apart_189 : decode cX6_apart 189 = .ok (.aload 5, 2) := by decide +kernel
theorem dX6_apart_191 : decode cX6_apart 191 = .ok (.iconst 5, 1) := by decide +kernel
theorem dX6_apart_192 : decode cX6_apart 192 = .ok (.iload 6, 2) := by decide +kernel
theorem dX6_apart_194 : decode cX6_apart 194 = .ok (.imul, 1) := by decide +kernel
theorem dX6_apart_195 : decode cX6_apart 195 = .ok (.iload 7, 2) := by decide +kernel
theorem dX6_apart_197 : decode cX6_apart 197 = .ok (.iadd, 1) := by decide +kernel
theorem dX6_apart_198 : decode cX6_apart 198 = .ok (.iload 8, 2) := by decide +kernel
theorem dX6_apart_200 : decode cX6_apart 200 = .ok (.iastore, 1) := by decide +kernel
theorem dX6_apart_201 : decode cX6_apart 201 = .ok (.iinc 7 1, 3) := by decide +kernel
theorem dX6_apart_204 : decode cX6_apart 204 = .ok (.goto (-163), 3) := by decide +kernel
theorem dX6_apart_207 : decode cX6_apart 207 = .ok (.iinc 6 1, 3) := by decide +kernel
theorem dX6_apart_210 : decode cX6_apart 210 = .ok (.goto (-178), 3) := by decide +kernel
theorem dX6_apart_213 : decode cX6_apart 213 = .ok (.aload 5, 2) := by decide +kernel
theorem dX6_apart_215 : decode cX6_apart 215 = .ok (.iconst 5, 1) := by decide +kernel
theorem dX6_apart_216 : decode cX6_apart 216 = .ok (.iload_n 3, 1) := by decide +kernel
theorem dX6_apart_217 : decode cX6_apart 217 = .ok (.imul, 1) := by decide +kernel
theorem dX6_apart_218 : decode cX6_apart 218 = .ok (.iload 4, 2) := by decide +kernel
theorem dX6_apart_220 : decode cX6_apart 220 = .ok (.iadd, 1) := by decide +kernel
theorem dX6_apart_221 : decode cX6_apart 221 = .ok (.iconst 1, 1) := by decide +kernel
theorem dX6_apart_222 : decode cX6_apart 222 = .ok (.isub, 1) := by decide +kernel
theorem dX6_apart_223 : decode cX6_apart 223 = .ok (.iaload, 1) := by decide +kernel
theorem dX6_apart_224 : decode cX6_apart 224 = .ok (.ireturn, 1) := by decide +kernel
theorem dX6_alike_0 : decode cX6_alike 0 = .ok (.aload_n 0, 1) := by decide +kernel
theorem dX6_alike_1 : decode cX6_alike 1 = .ok (.iconst 0, 1) := by decide +kernel
theorem dX6_alike_2 : decode cX6_alike 2 = .ok (.putfield 59, 3) := by decide +kernel
theorem dX6_alike_5 : decode cX6_alike 5 = .ok (.iload_n 1, 1) := by decide +kernel
theorem dX6_alike_6 : decode cX6_alike 6 = .ok (.iconst 0, 1) := by decide +kernel
theorem dX6_alike_7 : decode cX6_alike 7 = .ok (.bipush 11, 2) := by decide +kernel
theorem dX6_alike_9 : decode cX6_alike 9 = .ok (.invokestatic 66, 3) := by decide +kernel
theorem dX6_alike_12 : decode cX6_alike 12 = .ok (.ifCond .eq 13, 3) := by decide +kernel
theorem dX6_alike_15 : decode cX6_alike 15 = .ok (.iload_n 2, 1) := by decide +kernel
theorem dX6_alike_16 : decode cX6_alike 16 = .ok (.iconst 0, 1) := by decide +kernel
theorem dX6_alike_17 : decode cX6_alike 17 = .ok (.bipush 11, 2) := by decide +kernel
theorem dX6_alike_19 : decode cX6_alike 19 = .ok (.invokestatic 66, 3) := by decide +kernel
theorem dX6_alike_22 : decode cX6_alike 22 = .ok (.ifCond .ne 9, 3) := by decide +kernel
theorem dX6_alike_25 : decode cX6_alike 25 = .ok (.aload_n 0, 1) := by decide +kernel
theorem dX6_alike_26 : decode cX6_alike 26 = .ok (.iconst 1, 1) := by decide +kernel
theorem dX6_alike_27 : decode cX6_alike 27 = .ok (.invokevirtual 70, 3) := by decide +kernel
theorem dX6_alike_30 : decode cX6_alike 30 = .ok (.ireturn, 1) := by decide +kernel
theorem dX6_alike_31 : decode cX6_alike 31 = .ok (.aload_n 0, 1) := by decide +kernel
theorem dX6_alike_32 : decode cX6_alike 32 = .ok (.getfield 9, 3) := by decide +kernel
theorem dX6_alike_35 : decode cX6_alike 35 = .ok (.iload_n 1, 1) := by decide +kernel
theorem dX6_alike_36 : decode cX6_alike 36 = .ok (.iaload, 1) := by decide +kernel
theorem dX6_alike_37 : decode cX6_alike 37 = .ok (.ifCond .eq 12, 3) := by decide +kernel
theorem dX6_alike_40 : decode cX6_alike 40 = .ok (.aload_n 0, 1) := by decide +kernel
theorem dX6_alike_41 : decode cX6_alike 41 = .ok (.getfield 9, 3) := by decide +kernel
theorem dX6_alike_44 : decode cX6_alike 44 = .ok (.iload_n 2, 1) := by decide +kernel
theorem dX6_alike_45 : decode cX6_alike 45 = .ok (.iaload, 1) := by decide +kernel
theorem dX6_alike_46 : decode cX6_alike 46 = .ok (.ifCond .ne 7, 3) := by decide +kernel
theorem dX6_alike_49 : decode cX6_alike 49 = .ok (.iconst (-1), 1) := by decide +kernel
theorem dX6_alike_50 : decode cX6_alike 50 = .ok (.goto 9, 3) := by decide +kernel
theorem dX6_alike_53 : decode cX6_alike 53 = .ok (.aload_n 0, 1) := by decide +kernel
theorem dX6_alike_54 : decode cX6_alike 54 = .ok (.iload_n 1, 1) := by decide +kernel
theorem dX6_alike_55 : decode cX6_alike 55 = .ok (.iload_n 2, 1) := by decide +kernel
theorem dX6_alike_56 : decode cX6_alike 56 = .ok (.invokevirtual 98, 3) := by decide +kernel
theorem dX6_alike_59 : decode cX6_alike 59 = .ok (.ireturn, 1) := by decide +kernel
theorem dX6_closest_0 : decode cX6_closest 0 = .ok (.aload_n 0, 1) := by decide +kernel
theorem dX6_closest_1 : decode cX6_closest 1 = .ok (.iconst 0, 1) := by decide +kernel
theorem dX6_closest_2 : decode cX6_closest 2 = .ok (.putfield 59, 3) := by decide +kernel
theorem dX6_closest_5 : decode cX6_closest 5 = .ok (.iconst (-1), 1) := by decide +kernel
theorem dX6_closest_6 : decode cX6_closest 6 = .ok (.istore_n 1, 1) := by decide +kernel
theorem dX6_closest_7 : decode cX6_closest 7 = .ok (.iconst 0, 1) := by decide +kernel
theorem dX6_closest_8 : decode cX6_closest 8 = .ok (.istore_n 2, 1) := by decide +kernel
theorem dX6_closest_9 : decode cX6_closest 9 = .ok (.iconst 0, 1) := by decide +kernel
theorem dX6_closest_10 : decode cX6_closest 10 = .ok (.istore_n 3, 1) := by decide +kernel
theorem dX6_closest_11 : decode cX6_closest 11 = .ok (.iload_n 3, 1) := by decide +kernel
theorem dX6_closest_12 : decode cX6_closest 12 = .ok (.bipush 12, 2) := by decide +kernel
theorem dX6_closest_14 : decode cX6_closest 14 = .ok (.if_icmp .ge 81, 3) := by decide +kernel
theorem dX6_closest_17 : decode cX6_closest 17 = .ok (.iload_n 3, 1) := by decide +kernel
theorem dX6_closest_18 : decode cX6_closest 18 = .ok (.iconst 1, 1) := by decide +kernel
theorem dX6_closest_19 : decode cX6_closest 19 = .ok (.iadd, 1) := by decide +kernel
theorem dX6_closest_20 : decode cX6_closest 20 = .ok (.istore 4, 2) := by decide +kernel
theorem dX6_closest_22 : decode cX6_closest 22 = .ok (.iload 4, 2) := by decide +kernel
theorem dX6_closest_24 : decode cX6_closest 24 = .ok (.bipush 12, 2) := by decide +kernel
theorem dX6_closest_26 : decode cX6_closest 26 = .ok (.if_icmp .ge 63, 3) := by decide +kernel
theorem dX6_closest_29 : decode cX6_closest 29 = .ok (.aload_n 0, 1) := by decide +kernel
theorem dX6_closest_30 : decode cX6_closest 30 = .ok (.getfield 9, 3) := by decide +kernel
theorem dX6_closest_33 : decode cX6_closest 33 = .ok (.iload_n 3, 1) := by decide +kernel
theorem dX6_closest_34 : decode cX6_closest 34 = .ok (.iaload, 1) := by decide +kernel
theorem dX6_closest_35 : decode cX6_closest 35 = .ok (.ifCond .eq 48, 3) := by decide +kernel
theorem dX6_closest_38 : decode cX6_closest 38 = .ok (.aload_n 0, 1) := by decide +kernel
theorem dX6_closest_39 : decode cX6_closest 39 = .ok (.getfield 9, 3) := by decide +kernel
theorem dX6_closest_42 : decode cX6_closest 42 = .ok (.iload 4, 2) := by decide +kernel
theorem dX6_closest_44 : decode cX6_closest 44 = .ok (.iaload, 1) := by decide +kernel
theorem dX6_closest_45 : decode cX6_closest 45 = .ok (.ifCond .eq 38, 3) := by decide +kernel
theorem dX6_closest_48 : decode cX6_closest 48 = .ok (.iload_n 1, 1) := by decide +kernel
theorem dX6_closest_49 : decode cX6_closest 49 = .ok (.iconst (-1), 1) := by decide +kernel
theorem dX6_closest_50 : decode cX6_closest 50 = .ok (.if_icmp .eq 17, 3) := by decide +kernel
theorem dX6_closest_53 : decode cX6_closest 53 = .ok (.aload_n 0, 1) := by decide +kernel
theorem dX6_closest_54 : decode cX6_closest 54 = .ok (.iload_n 3, 1) := by decide +kernel
theorem dX6_closest_55 : decode cX6_closest 55 = .ok (.iload 4, 2) := by decide +kernel
theorem dX6_closest_57 : decode cX6_closest 57 = .ok (.invokevirtual 98, 3) := by decide +kernel
theorem dX6_closest_60 : decode cX6_closest 60 = .ok (.iload_n 2, 1) := by decide +kernel
theorem dX6_closest_61 : decode cX6_closest 61 = .ok (.if_icmp .lt 6, 3) := by decide +kernel
theorem dX6_closest_64 : decode cX6_closest 64 = .ok (.goto 19, 3) := by decide +kernel
theorem dX6_closest_67 : decode cX6_closest 67 = .ok (.bipush 12, 2) := by decide +kernel
theorem dX6_closest_69 : decode cX6_closest 69 = .ok (.iload_n 3, 1) := by decide +kernel
theorem dX6_closest_70 : decode cX6_closest 70 = .ok (.imul, 1) := by decide +kernel
theorem dX6_closest_71 : decode cX6_closest 71 = .ok (.iload 4, 2) := by decide +kernel
theorem dX6_closest_73 : decode cX6_closest 73 = .ok (.iadd, 1) := by decide +kernel
theorem dX6_closest_74 : decode cX6_closest 74 = .ok (.istore_n 1, 1) := by decide +kernel
theorem dX6_closest_75 : decode cX6_closest 75 = .ok (.aload_n 0, 1) := by decide +kernel
theorem dX6_closest_76 : decode cX6_closest 76 = .ok (.iload_n 3, 1) := by decide +kernel
theorem dX6_closest_77 : decode cX6_closest 77 = .ok (.iload 4, 2) := by decide +kernel
theorem dX6_closest_79 : decode cX6_closest 79 = .ok (.invokevirtual 98, 3) := by decide +kernel
theorem dX6_closest_82 : decode cX6_closest 82 = .ok (.istore_n 2, 1) := by decide +kernel
theorem dX6_closest_83 : decode cX6_closest 83 = .ok (.iinc 4 1, 3) := by decide +kernel
theorem dX6_closest_86 : decode cX6_closest 86 = .ok (.goto (-64), 3) := by decide +kernel
theorem dX6_closest_89 : decode cX6_closest 89 = .ok (.iinc 3 1, 3) := by decide +kernel
theorem dX6_closest_92 : decode cX6_closest 92 = .ok (.goto (-81), 3) := by decide +kernel
theorem dX6_closest_95 : decode cX6_closest 95 = .ok (.iload_n 1, 1) := by decide +kernel
theorem dX6_closest_96 : decode cX6_closest 96 = .ok (.ireturn, 1) := by decide +kernel
theorem dX6_advise_0 : decode cX6_advise 0 = .ok (.aload_n 0, 1) := by decide +kernel
theorem dX6_advise_1 : decode cX6_advise 1 = .ok (.iconst 0, 1) := by decide +kernel
theorem dX6_advise_2 : decode cX6_advise 2 = .ok (.putfield 59, 3) := by decide +kernel
theorem dX6_advise_5 : decode cX6_advise 5 = .ok (.iconst 1, 1) := by decide +kernel
theorem dX6_advise_6 : decode cX6_advise 6 = .ok (.istore_n 1, 1) := by decide +kernel
theorem dX6_advise_7 : decode cX6_advise 7 = .ok (.iload_n 1, 1) := by decide +kernel
theorem dX6_advise_8 : decode cX6_advise 8 = .ok (.sipush 5000, 3) := by decide +kernel
theorem dX6_advise_11 : decode cX6_advise 11 = .ok (.if_icmp .ge 79, 3) := by decide +kernel
theorem dX6_advise_14 : decode cX6_advise 14 = .ok (.iload_n 1, 1) := by decide +kernel
theorem dX6_advise_15 : decode cX6_advise 15 = .ok (.invokestatic 73, 3) := by decide +kernel
theorem dX6_advise_18 : decode cX6_advise 18 = .ok (.istore_n 2, 1) := by decide +kernel
theorem dX6_advise_19 : decode cX6_advise 19 = .ok (.iconst 0, 1) := by decide +kernel
theorem dX6_advise_20 : decode cX6_advise 20 = .ok (.istore_n 3, 1) := by decide +kernel
theorem dX6_advise_21 : decode cX6_advise 21 = .ok (.iload_n 3, 1) := by decide +kernel
theorem dX6_advise_22 : decode cX6_advise 22 = .ok (.bipush 12, 2) := by decide +kernel
theorem dX6_advise_24 : decode cX6_advise 24 = .ok (.if_icmp .ge 54, 3) := by decide +kernel
theorem dX6_advise_27 : decode cX6_advise 27 = .ok (.iload_n 2, 1) := by decide +kernel
theorem dX6_advise_28 : decode cX6_advise 28 = .ok (.ifCond .eq 50, 3) := by decide +kernel
theorem dX6_advise_31 : decode cX6_advise 31 = .ok (.aload_n 0, 1) := by decide +kernel
theorem dX6_advise_32 : decode cX6_advise 32 = .ok (.getfield 9, 3) := by decide +kernel
theorem dX6_advise_35 : decode cX6_advise 35 = .ok (.iload_n 3, 1) := by decide +kernel
theorem dX6_advise_36 : decode cX6_advise 36 = .ok (.iaload, 1) := by decide +kernel
theorem dX6_advise_37 : decode cX6_advise 37 = .ok (.ifCond .eq 29, 3) := by decide +kernel
theorem dX6_advise_40 : decode cX6_advise 40 = .ok (.iload_n 1, 1) := by decide +kernel
theorem dX6_advise_41 : decode cX6_advise 41 = .ok (.aload_n 0, 1) := by decide +kernel
theorem dX6_advise_42 : decode cX6_advise 42 = .ok (.getfield 9, 3) := by decide +kernel
theorem dX6_advise_45 : decode cX6_advise 45 = .ok (.iload_n 3, 1) := by decide +kernel
theorem dX6_advise_46 : decode cX6_advise 46 = .ok (.iaload, 1) := by decide +kernel
theorem dX6_advise_47 : decode cX6_advise 47 = .ok (.invokestatic 81, 3) := by decide +kernel
theorem dX6_advise_50 : decode cX6_advise 50 = .ok (.ifCond .ne 20, 3) := by decide +kernel
theorem dX6_advise_53 : decode cX6_advise 53 = .ok (.aload_n 0, 1) := by decide +kernel
theorem dX6_advise_54 : decode cX6_advise 54 = .ok (.getfield 9, 3) := by decide +kernel
theorem dX6_advise_57 : decode cX6_advise 57 = .ok (.iload_n 3, 1) := by decide +kernel
theorem dX6_advise_58 : decode cX6_advise 58 = .ok (.iaload, 1) := by decide +kernel
theorem dX6_advise_59 : decode cX6_advise 59 = .ok (.iload_n 1, 1) := by decide +kernel
theorem dX6_advise_60 : decode cX6_advise 60 = .ok (.invokestatic 81, 3) := by decide +kernel
theorem dX6_advise_63 : decode cX6_advise 63 = .ok (.ifCond .ne 7, 3) := by decide +kernel
theorem dX6_advise_66 : decode cX6_advise 66 = .ok (.iconst 1, 1) := by decide +kernel
theorem dX6_advise_67 : decode cX6_advise 67 = .ok (.goto 4, 3) := by decide +kernel
theorem dX6_advise_70 : decode cX6_advise 70 = .ok (.iconst 0, 1) := by decide +kernel
theorem dX6_advise_71 : decode cX6_advise 71 = .ok (.istore_n 2, 1) := by decide +kernel
theorem dX6_advise_72 : decode cX6_advise 72 = .ok (.iinc 3 1, 3) := by decide +kernel
theorem dX6_advise_75 : decode cX6_advise 75 = .ok (.goto (-54), 3) := by decide +kernel
theorem dX6_advise_78 : decode cX6_advise 78 = .ok (.iload_n 2, 1) := by decide +kernel
theorem dX6_advise_79 : decode cX6_advise 79 = .ok (.ifCond .eq 5, 3) := by decide +kernel
theorem dX6_advise_82 : decode cX6_advise 82 = .ok (.iload_n 1, 1) := by decide +kernel
theorem dX6_advise_83 : decode cX6_advise 83 = .ok (.ireturn, 1) := by decide +kernel
theorem dX6_advise_84 : decode cX6_advise 84 = .ok (.iinc 1 1, 3) := by decide +kernel
theorem dX6_advise_87 : decode cX6_advise 87 = .ok (.goto (-80), 3) := by decide +kernel
theorem dX6_advise_90 : decode cX6_advise 90 = .ok (.iconst 0, 1) := by decide +kernel
theorem dX6_advise_91 : decode cX6_advise 91 = .ok (.ireturn, 1) := by decide +kernel
theorem dX6_setKnotter_0 : decode cX6_setKnotter 0 = .ok (.aload_n 0, 1) := by decide +kernel
theorem dX6_setKnotter_1 : decode cX6_setKnotter 1 = .ok (.iconst 0, 1) := by decide +kernel
theorem dX6_setKnotter_2 : decode cX6_setKnotter 2 = .ok (.putfield 59, 3) := by decide +kernel
theorem dX6_setKnotter_5 : decode cX6_setKnotter 5 = .ok (.iload_n 1, 1) := by decide +kernel
theorem dX6_setKnotter_6 : decode cX6_setKnotter 6 = .ok (.iconst 0, 1) := by decide +kernel
theorem dX6_setKnotter_7 : decode cX6_setKnotter 7 = .ok (.bipush 99, 2) := by decide +kernel
theorem dX6_setKnotter_9 : decode cX6_setKnotter 9 = .ok (.invokestatic 66, 3) := by decide +kernel
theorem dX6_setKnotter_12 : decode cX6_setKnotter 12 = .ok (.ifCond .eq 13, 3) := by decide +kernel
theorem dX6_setKnotter_15 : decode cX6_setKnotter 15 = .ok (.iload_n 2, 1) := by decide +kernel
theorem dX6_setKnotter_16 : decode cX6_setKnotter 16 = .ok (.iconst 0, 1) := by decide +kernel
theorem dX6_setKnotter_17 : decode cX6_setKnotter 17 = .ok (.bipush 99, 2) := by decide +kernel
theorem dX6_setKnotter_19 : decode cX6_setKnotter 19 = .ok (.invokestatic 66, 3) := by decide +kernel
theorem dX6_setKnotter_22 : decode cX6_setKnotter 22 = .ok (.ifCond .ne 9, 3) := by decide +kernel
theorem dX6_setKnotter_25 : decode cX6_setKnotter 25 = .ok (.aload_n 0, 1) := by decide +kernel
theorem dX6_setKnotter_26 : decode cX6_setKnotter 26 = .ok (.iconst 1, 1) := by decide +kernel
theorem dX6_setKnotter_27 : decode cX6_setKnotter 27 = .ok (.invokevirtual 70, 3) := by decide +kernel
theorem dX6_setKnotter_30 : decode cX6_setKnotter 30 = .ok (.ireturn, 1) := by decide +kernel
theorem dX6_setKnotter_31 : decode cX6_setKnotter 31 = .ok (.bipush 100, 2) := by decide +kernel
theorem dX6_setKnotter_33 : decode cX6_setKnotter 33 = .ok (.aload_n 0, 1) := by decide +kernel
theorem dX6_setKnotter_34 : decode cX6_setKnotter 34 = .ok (.getfield 101, 3) := by decide +kernel
theorem dX6_setKnotter_37 : decode cX6_setKnotter 37 = .ok (.imul, 1) := by decide +kernel
theorem dX6_setKnotter_38 : decode cX6_setKnotter 38 = .ok (.aload_n 0, 1) := by decide +kernel
theorem dX6_setKnotter_39 : decode cX6_setKnotter 39 = .ok (.getfield 104, 3) := by decide +kernel
theorem dX6_setKnotter_42 : decode cX6_setKnotter 42 = .ok (.iadd, 1) := by decide +kernel
theorem dX6_setKnotter_43 : decode cX6_setKnotter 43 = .ok (.istore_n 3, 1) := by decide +kernel
theorem dX6_setKnotter_44 : decode cX6_setKnotter 44 = .ok (.aload_n 0, 1) := by decide +kernel
theorem dX6_setKnotter_45 : decode cX6_setKnotter 45 = .ok (.iload_n 1, 1) := by decide +kernel
theorem dX6_setKnotter_46 : decode cX6_setKnotter 46 = .ok (.putfield 101, 3) := by decide +kernel
theorem dX6_setKnotter_49 : decode cX6_setKnotter 49 = .ok (.aload_n 0, 1) := by decide +kernel
theorem dX6_setKnotter_50 : decode cX6_setKnotter 50 = .ok (.iload_n 2, 1) := by decide +kernel
theorem dX6_setKnotter_51 : decode cX6_setKnotter 51 = .ok (.putfield 104, 3) := by decide +kernel
theorem dX6_setKnotter_54 : decode cX6_setKnotter 54 = .ok (.iload_n 3, 1) := by decide +kernel
theorem dX6_setKnotter_55 : decode cX6_setKnotter 55 = .ok (.ireturn, 1) := by decide +kernel
theorem dX6_setFeel_0 : decode cX6_setFeel 0 = .ok (.aload_n 0, 1) := by decide +kernel
theorem dX6_setFeel_1 : decode cX6_setFeel 1 = .ok (.iconst 0, 1) := by decide +kernel
theorem dX6_setFeel_2 : decode cX6_setFeel 2 = .ok (.putfield 59, 3) := by decide +kernel
theorem dX6_setFeel_5 : decode cX6_setFeel 5 = .ok (.iload_n 1, 1) := by decide +kernel
theorem dX6_setFeel_6 : decode cX6_setFeel 6 = .ok (.iconst 1, 1) := by decide +kernel
theorem dX6_setFeel_7 : decode cX6_setFeel 7 = .ok (.iconst 4, 1) := by decide +kernel
theorem dX6_setFeel_8 : decode cX6_setFeel 8 = .ok (.invokestatic 66, 3) := by decide +kernel
theorem dX6_setFeel_11 : decode cX6_setFeel 11 = .ok (.ifCond .eq 27, 3) := by decide +kernel
theorem dX6_setFeel_14 : decode cX6_setFeel 14 = .ok (.iload_n 2, 1) := by decide +kernel
theorem dX6_setFeel_15 : decode cX6_setFeel 15 = .ok (.iconst 1, 1) := by decide +kernel
theorem dX6_setFeel_16 : decode cX6_setFeel 16 = .ok (.iconst 4, 1) := by decide +kernel
theorem dX6_setFeel_17 : decode cX6_setFeel 17 = .ok (.invokestatic 66, 3) := by decide +kernel
theorem dX6_setFeel_20 : decode cX6_setFeel 20 = .ok (.ifCond .eq 18, 3) := by decide +kernel
theorem dX6_setFeel_23 : decode cX6_setFeel 23 = .ok (.iload_n 1, 1) := by decide +kernel
theorem dX6_setFeel_24 : decode cX6_setFeel 24 = .ok (.iload_n 2, 1) := by decide +kernel
theorem dX6_setFeel_25 : decode cX6_setFeel 25 = .ok (.if_icmp .eq 13, 3) := by decide +kernel
theorem dX6_setFeel_28 : decode cX6_setFeel 28 = .ok (.iload_n 3, 1) := by decide +kernel
theorem dX6_setFeel_29 : decode cX6_setFeel 29 = .ok (.iconst 0, 1) := by decide +kernel
theorem dX6_setFeel_30 : decode cX6_setFeel 30 = .ok (.bipush 9, 2) := by decide +kernel
theorem dX6_setFeel_32 : decode cX6_setFeel 32 = .ok (.invokestatic 66, 3) := by decide +kernel
theorem dX6_setFeel_35 : decode cX6_setFeel 35 = .ok (.ifCond .ne 9, 3) := by decide +kernel
theorem dX6_setFeel_38 : decode cX6_setFeel 38 = .ok (.aload_n 0, 1) := by decide +kernel
theorem dX6_setFeel_39 : decode cX6_setFeel 39 = .ok (.iconst 1, 1) := by decide +kernel
theorem dX6_setFeel_40 : decode cX6_setFeel 40 = .ok (.invokevirtual 70, 3) := by decide +kernel
theorem dX6_setFeel_43 : decode cX6_setFeel 43 = .ok (.ireturn, 1) := by decide +kernel
theorem dX6_setFeel_44 : decode cX6_setFeel 44 = .ok (.aload_n 0, 1) := by decide +kernel
theorem dX6_setFeel_45 : decode cX6_setFeel 45 = .ok (.getfield 16, 3) := by decide +kernel
theorem dX6_setFeel_48 : decode cX6_setFeel 48 = .ok (.iconst 5, 1) := by decide +kernel
theorem dX6_setFeel_49 : decode cX6_setFeel 49 = .ok (.iload_n 1, 1) := by decide +kernel
theorem dX6_setFeel_50 : decode cX6_setFeel 50 = .ok (.imul, 1) := by decide +kernel
theorem dX6_setFeel_51 : decode cX6_setFeel 51 = .ok (.iload_n 2, 1) := by decide +kernel
theorem dX6_setFeel_52 : decode cX6_setFeel 52 = .ok (.iadd, 1) := by decide +kernel
theorem dX6_setFeel_53 : decode cX6_setFeel 53 = .ok (.iaload, 1) := by decide +kernel
theorem dX6_setFeel_54 : decode cX6_setFeel 54 = .ok (.istore 4, 2) := by decide +kernel
theorem dX6_setFeel_56 : decode cX6_setFeel 56 = .ok (.aload_n 0, 1) := by decide +kernel
theorem dX6_setFeel_57 : decode cX6_setFeel 57 = .ok (.getfield 16, 3) := by decide +kernel
theorem dX6_setFeel_60 : decode cX6_setFeel 60 = .ok (.iconst 5, 1) := by decide +kernel
theorem dX6_setFeel_61 : decode cX6_setFeel 61 = .ok (.iload_n 1, 1) := by decide +kernel
theorem dX6_setFeel_62 : decode cX6_setFeel 62 = .ok (.imul, 1) := by decide +kernel
theorem dX6_setFeel_63 : decode cX6_setFeel 63 = .ok (.iload_n 2, 1) := by decide +kernel
theorem dX6_setFeel_64 : decode cX6_setFeel 64 = .ok (.iadd, 1) := by decide +kernel
theorem dX6_setFeel_65 : decode cX6_setFeel 65 = .ok (.iload_n 3, 1) := by decide +kernel
theorem dX6_setFeel_66 : decode cX6_setFeel 66 = .ok (.iastore, 1) := by decide +kernel
theorem dX6_setFeel_67 : decode cX6_setFeel 67 = .ok (.aload_n 0, 1) := by decide +kernel
theorem dX6_setFeel_68 : decode cX6_setFeel 68 = .ok (.getfield 16, 3) := by decide +kernel
theorem dX6_setFeel_71 : decode cX6_setFeel 71 = .ok (.iconst 5, 1) := by decide +kernel
theorem dX6_setFeel_72 : decode cX6_setFeel 72 = .ok (.iload_n 2, 1) := by decide +kernel
theorem dX6_setFeel_73 : decode cX6_setFeel 73 = .ok (.imul, 1) := by decide +kernel
theorem dX6_setFeel_74 : decode cX6_setFeel 74 = .ok (.iload_n 1, 1) := by decide +kernel
theorem dX6_setFeel_75 : decode cX6_setFeel 75 = .ok (.iadd, 1) := by decide +kernel
theorem dX6_setFeel_76 : decode cX6_setFeel 76 = .ok (.iload_n 3, 1) := by decide +kernel
theorem dX6_setFeel_77 : decode cX6_setFeel 77 = .ok (.iastore, 1) := by decide +kernel
theorem dX6_setFeel_78 : decode cX6_setFeel 78 = .ok (.iload 4, 2) := by decide +kernel
theorem dX6_setFeel_80 : decode cX6_setFeel 80 = .ok (.ireturn, 1) := by decide +kernel
theorem dX6_setCosts_0 : decode cX6_setCosts 0 = .ok (.aload_n 0, 1) := by decide +kernel
theorem dX6_setCosts_1 : decode cX6_setCosts 1 = .ok (.iconst 0, 1) := by decide +kernel
theorem dX6_setCosts_2 : decode cX6_setCosts 2 = .ok (.putfield 59, 3) := by decide +kernel
theorem dX6_setCosts_5 : decode cX6_setCosts 5 = .ok (.iload_n 1, 1) := by decide +kernel
theorem dX6_setCosts_6 : decode cX6_setCosts 6 = .ok (.iconst 1, 1) := by decide +kernel
theorem dX6_setCosts_7 : decode cX6_setCosts 7 = .ok (.bipush 9, 2) := by decide +kernel
theorem dX6_setCosts_9 : decode cX6_setCosts 9 = .ok (.invokestatic 66, 3) := by decide +kernel
theorem dX6_setCosts_12 : decode cX6_setCosts 12 = .ok (.ifCond .eq 13, 3) := by decide +kernel
theorem dX6_setCosts_15 : decode cX6_setCosts 15 = .ok (.iload_n 2, 1) := by decide +kernel
theorem dX6_setCosts_16 : decode cX6_setCosts 16 = .ok (.iconst 1, 1) := by decide +kernel
theorem dX6_setCosts_17 : decode cX6_setCosts 17 = .ok (.bipush 9, 2) := by decide +kernel
theorem dX6_setCosts_19 : decode cX6_setCosts 19 = .ok (.invokestatic 66, 3) := by decide +kernel
theorem dX6_setCosts_22 : decode cX6_setCosts 22 = .ok (.ifCond .ne 9, 3) := by decide +kernel
theorem dX6_setCosts_25 : decode cX6_setCosts 25 = .ok (.aload_n 0, 1) := by decide +kernel
theorem dX6_setCosts_26 : decode cX6_setCosts 26 = .ok (.iconst 1, 1) := by decide +kernel
theorem dX6_setCosts_27 : decode cX6_setCosts 27 = .ok (.invokevirtual 70, 3) := by decide +kernel
theorem dX6_setCosts_30 : decode cX6_setCosts 30 = .ok (.ireturn, 1) := by decide +kernel
theorem dX6_setCosts_31 : decode cX6_setCosts 31 = .ok (.bipush 10, 2) := by decide +kernel
theorem dX6_setCosts_33 : decode cX6_setCosts 33 = .ok (.aload_n 0, 1) := by decide +kernel
theorem dX6_setCosts_34 : decode cX6_setCosts 34 = .ok (.getfield 19, 3) := by decide +kernel
theorem dX6_setCosts_37 : decode cX6_setCosts 37 = .ok (.imul, 1) := by decide +kernel
theorem dX6_setCosts_38 : decode cX6_setCosts 38 = .ok (.aload_n 0, 1) := by decide +kernel
theorem dX6_setCosts_39 : decode cX6_setCosts 39 = .ok (.getfield 23, 3) := by decide +kernel
theorem dX6_setCosts_42 : decode cX6_setCosts 42 = .ok (.iadd, 1) := by decide +kernel
theorem dX6_setCosts_43 : decode cX6_setCosts 43 = .ok (.istore_n 3, 1) := by decide +kernel
theorem dX6_setCosts_44 : decode cX6_setCosts 44 = .ok (.aload_n 0, 1) := by decide +kernel
theorem dX6_setCosts_45 : decode cX6_setCosts 45 = .ok (.iload_n 1, 1) := by decide +kernel
theorem dX6_setCosts_46 : decode cX6_setCosts 46 = .ok (.putfield 19, 3) := by decide +kernel
theorem dX6_setCosts_49 : decode cX6_setCosts 49 = .ok (.aload_n 0, 1) := by decide +kernel
theorem dX6_setCosts_50 : decode cX6_setCosts 50 = .ok (.iload_n 2, 1) := by decide +kernel
theorem dX6_setCosts_51 : decode cX6_setCosts 51 = .ok (.putfield 23, 3) := by decide +kernel
theorem dX6_setCosts_54 : decode cX6_setCosts 54 = .ok (.iload_n 3, 1) := by decide +kernel
theorem dX6_setCosts_55 : decode cX6_setCosts 55 = .ok (.ireturn, 1) := by decide +kernel
theorem dX6_feed_0 : decode cX6_feed 0 = .ok (.aload_n 0, 1) := by decide +kernel
theorem dX6_feed_1 : decode cX6_feed 1 = .ok (.iconst 0, 1) := by decide +kernel
theorem dX6_feed_2 : decode cX6_feed 2 = .ok (.putfield 59, 3) := by decide +kernel
theorem dX6_feed_5 : decode cX6_feed 5 = .ok (.aload_n 0, 1) := by decide +kernel
theorem dX6_feed_6 : decode cX6_feed 6 = .ok (.getfield 107, 3) := by decide +kernel
theorem dX6_feed_9 : decode cX6_feed 9 = .ok (.bipush 20, 2) := by decide +kernel
theorem dX6_feed_11 : decode cX6_feed 11 = .ok (.iadd, 1) := by decide +kernel
theorem dX6_feed_12 : decode cX6_feed 12 = .ok (.bipush 80, 2) := by decide +kernel
theorem dX6_feed_14 : decode cX6_feed 14 = .ok (.if_icmp .le 9, 3) := by decide +kernel
theorem dX6_feed_17 : decode cX6_feed 17 = .ok (.aload_n 0, 1) := by decide +kernel
theorem dX6_feed_18 : decode cX6_feed 18 = .ok (.iconst 1, 1) := by decide +kernel
theorem dX6_feed_19 : decode cX6_feed 19 = .ok (.invokevirtual 70, 3) := by decide +kernel
theorem dX6_feed_22 : decode cX6_feed 22 = .ok (.ireturn, 1) := by decide +kernel
theorem dX6_feed_23 : decode cX6_feed 23 = .ok (.iconst 5, 1) := by decide +kernel
theorem dX6_feed_24 : decode cX6_feed 24 = .ok (.newarray .int, 2) := by decide +kernel
theorem dX6_feed_26 : decode cX6_feed 26 = .ok (.dup, 1) := by decide +kernel
theorem dX6_feed_27 : decode cX6_feed 27 = .ok (.iconst 0, 1) := by decide +kernel
theorem dX6_feed_28 : decode cX6_feed 28 = .ok (.iload_n 1, 1) := by decide +kernel
theorem dX6_feed_29 : decode cX6_feed 29 = .ok (.iastore, 1) := by decide +kernel
theorem dX6_feed_30 : decode cX6_feed 30 = .ok (.dup, 1) := by decide +kernel
theorem dX6_feed_31 : decode cX6_feed 31 = .ok (.iconst 1, 1) := by decide +kernel
theorem dX6_feed_32 : decode cX6_feed 32 = .ok (.iload_n 2, 1) := by decide +kernel
theorem dX6_feed_33 : decode cX6_feed 33 = .ok (.iastore, 1) := by decide +kernel
theorem dX6_feed_34 : decode cX6_feed 34 = .ok (.dup, 1) := by decide +kernel
theorem dX6_feed_35 : decode cX6_feed 35 = .ok (.iconst 2, 1) := by decide +kernel
theorem dX6_feed_36 : decode cX6_feed 36 = .ok (.iload_n 3, 1) := by decide +kernel
theorem dX6_feed_37 : decode cX6_feed 37 = .ok (.iastore, 1) := by decide +kernel
theorem dX6_feed_38 : decode cX6_feed 38 = .ok (.dup, 1) := by decide +kernel
theorem dX6_feed_39 : decode cX6_feed 39 = .ok (.iconst 3, 1) := by decide +kernel
theorem dX6_feed_40 : decode cX6_feed 40 = .ok (.iload 4, 2) := by decide +kernel
theorem dX6_feed_42 : decode cX6_feed 42 = .ok (.iastore, 1) := by decide +kernel
theorem dX6_feed_43 : decode cX6_feed 43 = .ok (.dup, 1) := by decide +kernel
theorem dX6_feed_44 : decode cX6_feed 44 = .ok (.iconst 4, 1) := by decide +kernel
theorem dX6_feed_45 : decode cX6_feed 45 = .ok (.iload 5, 2) := by decide +kernel
theorem dX6_feed_47 : decode cX6_feed 47 = .ok (.iastore, 1) := by decide +kernel
theorem dX6_feed_48 : decode cX6_feed 48 = .ok (.astore 6, 2) := by decide +kernel
theorem dX6_feed_50 : decode cX6_feed 50 = .ok (.aload 6, 2) := by decide +kernel
theorem dX6_feed_52 : decode cX6_feed 52 = .ok (.astore 7, 2) := by decide +kernel
theorem dX6_feed_54 : decode cX6_feed 54 = .ok (.aload 7, 2) := by decide +kernel
theorem dX6_feed_56 : decode cX6_feed 56 = .ok (.arraylength, 1) := by decide +kernel
theorem dX6_feed_57 : decode cX6_feed 57 = .ok (.istore 8, 2) := by decide +kernel
theorem dX6_feed_59 : decode cX6_feed 59 = .ok (.iconst 0, 1) := by decide +kernel
theorem dX6_feed_60 : decode cX6_feed 60 = .ok (.istore 9, 2) := by decide +kernel
theorem dX6_feed_62 : decode cX6_feed 62 = .ok (.iload 9, 2) := by decide +kernel
theorem dX6_feed_64 : decode cX6_feed 64 = .ok (.iload 8, 2) := by decide +kernel
theorem dX6_feed_66 : decode cX6_feed 66 = .ok (.if_icmp .ge 61, 3) := by decide +kernel
theorem dX6_feed_69 : decode cX6_feed 69 = .ok (.aload 7, 2) := by decide +kernel
theorem dX6_feed_71 : decode cX6_feed 71 = .ok (.iload 9, 2) := by decide +kernel
theorem dX6_feed_73 : decode cX6_feed 73 = .ok (.iaload, 1) := by decide +kernel
theorem dX6_feed_74 : decode cX6_feed 74 = .ok (.istore 10, 2) := by decide +kernel
theorem dX6_feed_76 : decode cX6_feed 76 = .ok (.iconst 3, 1) := by decide +kernel
theorem dX6_feed_77 : decode cX6_feed 77 = .ok (.istore 11, 2) := by decide +kernel
theorem dX6_feed_79 : decode cX6_feed 79 = .ok (.iload 11, 2) := by decide +kernel
theorem dX6_feed_81 : decode cX6_feed 81 = .ok (.ifCond .lt 40, 3) := by decide +kernel
theorem dX6_feed_84 : decode cX6_feed 84 = .ok (.aload_n 0, 1) := by decide +kernel
theorem dX6_feed_85 : decode cX6_feed 85 = .ok (.getfield 38, 3) := by decide +kernel
theorem dX6_feed_88 : decode cX6_feed 88 = .ok (.aload_n 0, 1) := by decide +kernel
theorem dX6_feed_89 : decode cX6_feed 89 = .ok (.getfield 107, 3) := by decide +kernel
theorem dX6_feed_92 : decode cX6_feed 92 = .ok (.iload 10, 2) := by decide +kernel
theorem dX6_feed_94 : decode cX6_feed 94 = .ok (.bipush 8, 2) := by decide +kernel
theorem dX6_feed_96 : decode cX6_feed 96 = .ok (.iload 11, 2) := by decide +kernel
theorem dX6_feed_98 : decode cX6_feed 98 = .ok (.imul, 1) := by decide +kernel
theorem dX6_feed_99 : decode cX6_feed 99 = .ok (.ishr, 1) := by decide +kernel
theorem dX6_feed_100 : decode cX6_feed 100 = .ok (.sipush 255, 3) := by decide +kernel
theorem dX6_feed_103 : decode cX6_feed 103 = .ok (.iand, 1) := by decide +kernel
theorem dX6_feed_104 : decode cX6_feed 104 = .ok (.iastore, 1) := by decide +kernel
theorem dX6_feed_105 : decode cX6_feed 105 = .ok (.aload_n 0, 1) := by decide +kernel
theorem dX6_feed_106 : decode cX6_feed 106 = .ok (.dup, 1) := by decide +kernel
theorem dX6_feed_107 : decode cX6_feed 107 = .ok (.getfield 107, 3) := by decide +kernel
theorem dX6_feed_110 : decode cX6_feed 110 = .ok (.iconst 1, 1) := by decide +kernel
theorem dX6_feed_111 : decode cX6_feed 111 = .ok (.iadd, 1) := by decide +kernel
theorem dX6_feed_112 : decode cX6_feed 112 = .ok (.putfield 107, 3) := by decide +kernel
theorem dX6_feed_115 : decode cX6_feed 115 = .ok (.iinc 11 (-1), 3) := by decide +kernel
theorem dX6_feed_118 : decode cX6_feed 118 = .ok (.goto (-39), 3) := by decide +kernel
theorem dX6_feed_121 : decode cX6_feed 121 = .ok (.iinc 9 1, 3) := by decide +kernel
theorem dX6_feed_124 : decode cX6_feed 124 = .ok (.goto (-62), 3) := by decide +kernel
theorem dX6_feed_127 : decode cX6_feed 127 = .ok (.aload_n 0, 1) := by decide +kernel
theorem dX6_feed_128 : decode cX6_feed 128 = .ok (.getfield 107, 3) := by decide +kernel
theorem dX6_feed_131 : decode cX6_feed 131 = .ok (.ireturn, 1) := by decide +kernel
theorem dX6_trim_0 : decode cX6_trim 0 = .ok (.aload_n 0, 1) := by decide +kernel
theorem dX6_trim_1 : decode cX6_trim 1 = .ok (.iconst 0, 1) := by decide +kernel
theorem dX6_trim_2 : decode cX6_trim 2 = .ok (.putfield 59, 3) := by decide +kernel
theorem dX6_trim_5 : decode cX6_trim 5 = .ok (.iload_n 1, 1) := by decide +kernel
theorem dX6_trim_6 : decode cX6_trim 6 = .ok (.iconst 0, 1) := by decide +kernel
theorem dX6_trim_7 : decode cX6_trim 7 = .ok (.aload_n 0, 1) := by decide +kernel
theorem dX6_trim_8 : decode cX6_trim 8 = .ok (.getfield 107, 3) := by decide +kernel
theorem dX6_trim_11 : decode cX6_trim 11 = .ok (.invokestatic 66, 3) := by decide +kernel
theorem dX6_trim_14 : decode cX6_trim 14 = .ok (.ifCond .ne 9, 3) := by decide +kernel
theorem dX6_trim_17 : decode cX6_trim 17 = .ok (.aload_n 0, 1) := by decide +kernel
theorem dX6_trim_18 : decode cX6_trim 18 = .ok (.iconst 1, 1) := by decide +kernel
theorem dX6_trim_19 : decode cX6_trim 19 = .ok (.invokevirtual 70, 3) := by decide +kernel
theorem dX6_trim_22 : decode cX6_trim 22 = .ok (.ireturn, 1) := by decide +kernel
theorem dX6_trim_23 : decode cX6_trim 23 = .ok (.aload_n 0, 1) := by decide +kernel
theorem dX6_trim_24 : decode cX6_trim 24 = .ok (.iload_n 1, 1) := by decide +kernel
theorem dX6_trim_25 : decode cX6_trim 25 = .ok (.putfield 107, 3) := by decide +kernel
theorem dX6_trim_28 : decode cX6_trim 28 = .ok (.iload_n 1, 1) := by decide +kernel
theorem dX6_trim_29 : decode cX6_trim 29 = .ok (.ireturn, 1) := by decide +kernel
theorem dX6_isLetter_0 : decode cX6_isLetter 0 = .ok (.iload_n 1, 1) := by decide +kernel
theorem dX6_isLetter_1 : decode cX6_isLetter 1 = .ok (.bipush 97, 2) := by decide +kernel
theorem dX6_isLetter_3 : decode cX6_isLetter 3 = .ok (.isub, 1) := by decide +kernel
theorem dX6_isLetter_4 : decode cX6_isLetter 4 = .ok (.iconst 0, 1) := by decide +kernel
theorem dX6_isLetter_5 : decode cX6_isLetter 5 = .ok (.bipush 11, 2) := by decide +kernel
theorem dX6_isLetter_7 : decode cX6_isLetter 7 = .ok (.invokestatic 66, 3) := by decide +kernel
theorem dX6_isLetter_10 : decode cX6_isLetter 10 = .ok (.ifCond .eq 19, 3) := by decide +kernel
theorem dX6_isLetter_13 : decode cX6_isLetter 13 = .ok (.aload_n 0, 1) := by decide +kernel
theorem dX6_isLetter_14 : decode cX6_isLetter 14 = .ok (.getfield 9, 3) := by decide +kernel
theorem dX6_isLetter_17 : decode cX6_isLetter 17 = .ok (.iload_n 1, 1) := by decide +kernel
theorem dX6_isLetter_18 : decode cX6_isLetter 18 = .ok (.bipush 97, 2) := by decide +kernel
theorem dX6_isLetter_20 : decode cX6_isLetter 20 = .ok (.isub, 1) := by decide +kernel
theorem dX6_isLetter_21 : decode cX6_isLetter 21 = .ok (.iaload, 1) := by decide +kernel
theorem dX6_isLetter_22 : decode cX6_isLetter 22 = .ok (.ifCond .le 7, 3) := by decide +kernel
theorem dX6_isLetter_25 : decode cX6_isLetter 25 = .ok (.iconst 1, 1) := by decide +kernel
theorem dX6_isLetter_26 : decode cX6_isLetter 26 = .ok (.goto 4, 3) := by decide +kernel
theorem dX6_isLetter_29 : decode cX6_isLetter 29 = .ok (.iconst 0, 1) := by decide +kernel
theorem dX6_isLetter_30 : decode cX6_isLetter 30 = .ok (.ireturn, 1) := by decide +kernel
theorem dX6_tie_0 : decode cX6_tie 0 = .ok (.aload_n 0, 1) := by decide +kernel
theorem dX6_tie_1 : decode cX6_tie 1 = .ok (.iconst 0, 1) := by decide +kernel
theorem dX6_tie_2 : decode cX6_tie 2 = .ok (.putfield 59, 3) := by decide +kernel
theorem dX6_tie_5 : decode cX6_tie 5 = .ok (.iconst 0, 1) := by decide +kernel
theorem dX6_tie_6 : decode cX6_tie 6 = .ok (.istore_n 1, 1) := by decide +kernel
theorem dX6_tie_7 : decode cX6_tie 7 = .ok (.iconst 1, 1) := by decide +kernel
theorem dX6_tie_8 : decode cX6_tie 8 = .ok (.istore_n 2, 1) := by decide +kernel
theorem dX6_tie_9 : decode cX6_tie 9 = .ok (.iconst 0, 1) := by decide +kernel
theorem dX6_tie_10 : decode cX6_tie 10 = .ok (.istore_n 3, 1) := by decide +kernel
theorem dX6_tie_11 : decode cX6_tie 11 = .ok (.iload_n 3, 1) := by decide +kernel
theorem dX6_tie_12 : decode cX6_tie 12 = .ok (.aload_n 0, 1) := by decide +kernel
theorem dX6_tie_13 : decode cX6_tie 13 = .ok (.getfield 107, 3) := by decide +kernel
theorem dX6_tie_16 : decode cX6_tie 16 = .ok (.if_icmp .ge 95, 3) := by decide +kernel
theorem dX6_tie_19 : decode cX6_tie 19 = .ok (.iload_n 1, 1) := by decide +kernel
theorem dX6_tie_20 : decode cX6_tie 20 = .ok (.aload_n 0, 1) := by decide +kernel
theorem dX6_tie_21 : decode cX6_tie 21 = .ok (.getfield 38, 3) := by decide +kernel
theorem dX6_tie_24 : decode cX6_tie 24 = .ok (.iload_n 3, 1) := by decide +kernel
theorem dX6_tie_25 : decode cX6_tie 25 = .ok (.iaload, 1) := by decide +kernel
theorem dX6_tie_26 : decode cX6_tie 26 = .ok (.bipush 32, 2) := by decide +kernel
theorem dX6_tie_28 : decode cX6_tie 28 = .ok (.if_icmp .ne 7, 3) := by decide +kernel
theorem dX6_tie_31 : decode cX6_tie 31 = .ok (.iconst 1, 1) := by decide +kernel
theorem dX6_tie_32 : decode cX6_tie 32 = .ok (.goto 37, 3) := by decide +kernel
theorem dX6_tie_35 : decode cX6_tie 35 = .ok (.aload_n 0, 1) := by decide +kernel
theorem dX6_tie_36 : decode cX6_tie 36 = .ok (.aload_n 0, 1) := by decide +kernel
theorem dX6_tie_37 : decode cX6_tie 37 = .ok (.getfield 38, 3) := by decide +kernel
theorem dX6_tie_40 : decode cX6_tie 40 = .ok (.iload_n 3, 1) := by decide +kernel
theorem dX6_tie_41 : decode cX6_tie 41 = .ok (.iaload, 1) := by decide +kernel
theorem dX6_tie_42 : decode cX6_tie 42 = .ok (.invokevirtual 110, 3) := by decide +kernel
theorem dX6_tie_45 : decode cX6_tie 45 = .ok (.ifCond .eq 23, 3) := by decide +kernel
theorem dX6_tie_48 : decode cX6_tie 48 = .ok (.aload_n 0, 1) := by decide +kernel
theorem dX6_tie_49 : decode cX6_tie 49 = .ok (.getfield 9, 3) := by decide +kernel
theorem dX6_tie_52 : decode cX6_tie 52 = .ok (.aload_n 0, 1) := by decide +kernel
theorem dX6_tie_53 : decode cX6_tie 53 = .ok (.getfield 38, 3) := by decide +kernel
theorem dX6_tie_56 : decode cX6_tie 56 = .ok (.iload_n 3, 1) := by decide +kernel
theorem dX6_tie_57 : decode cX6_tie 57 = .ok (.iaload, 1) := by decide +kernel
theorem dX6_tie_58 : decode cX6_tie 58 = .ok (.bipush 97, 2) := by decide +kernel
theorem dX6_tie_60 : decode cX6_tie 60 = .ok (.isub, 1) := by decide +kernel
theorem dX6_tie_61 : decode cX6_tie 61 = .ok (.iaload, 1) := by decide +kernel
theorem dX6_tie_62 : decode cX6_tie 62 = .ok (.invokestatic 62, 3) := by decide +kernel
theorem dX6_tie_65 : decode cX6_tie 65 = .ok (.goto 4, 3) := by decide +kernel
theorem dX6_tie_68 : decode cX6_tie 68 = .ok (.iconst 0, 1) := by decide +kernel
theorem dX6_tie_69 : decode cX6_tie 69 = .ok (.iadd, 1) := by decide +kernel
theorem dX6_tie_70 : decode cX6_tie 70 = .ok (.istore_n 1, 1) := by decide +kernel
theorem dX6_tie_71 : decode cX6_tie 71 = .ok (.iload_n 2, 1) := by decide +kernel
theorem dX6_tie_72 : decode cX6_tie 72 = .ok (.ifCond .eq 31, 3) := by decide +kernel
theorem dX6_tie_75 : decode cX6_tie 75 = .ok (.aload_n 0, 1) := by decide +kernel
theorem dX6_tie_76 : decode cX6_tie 76 = .ok (.getfield 38, 3) := by decide +kernel
theorem dX6_tie_79 : decode cX6_tie 79 = .ok (.iload_n 3, 1) := by decide +kernel
theorem dX6_tie_80 : decode cX6_tie 80 = .ok (.iaload, 1) := by decide +kernel
theorem dX6_tie_81 : decode cX6_tie 81 = .ok (.bipush 32, 2) := by decide +kernel
theorem dX6_tie_83 : decode cX6_tie 83 = .ok (.if_icmp .eq 16, 3) := by decide +kernel
theorem dX6_tie_86 : decode cX6_tie 86 = .ok (.aload_n 0, 1) := by decide +kernel
theorem dX6_tie_87 : decode cX6_tie 87 = .ok (.aload_n 0, 1) := by decide +kernel
theorem dX6_tie_88 : decode cX6_tie 88 = .ok (.getfield 38, 3) := by decide +kernel
theorem dX6_tie_91 : decode cX6_tie 91 = .ok (.iload_n 3, 1) := by decide +kernel
theorem dX6_tie_92 : decode cX6_tie 92 = .ok (.iaload, 1) := by decide +kernel
theorem dX6_tie_93 : decode cX6_tie 93 = .ok (.invokevirtual 110, 3) := by decide +kernel
theorem dX6_tie_96 : decode cX6_tie 96 = .ok (.ifCond .eq 7, 3) := by decide +kernel
theorem dX6_tie_99 : decode cX6_tie 99 = .ok (.iconst 1, 1) := by decide +kernel
theorem dX6_tie_100 : decode cX6_tie 100 = .ok (.goto 4, 3) := by decide +kernel
theorem dX6_tie_103 : decode cX6_tie 103 = .ok (.iconst 0, 1) := by decide +kernel
theorem dX6_tie_104 : decode cX6_tie 104 = .ok (.istore_n 2, 1) := by decide +kernel
theorem dX6_tie_105 : decode cX6_tie 105 = .ok (.iinc 3 1, 3) := by decide +kernel
theorem dX6_tie_108 : decode cX6_tie 108 = .ok (.goto (-97), 3) := by decide +kernel
theorem dX6_tie_111 : decode cX6_tie 111 = .ok (.aload_n 0, 1) := by decide +kernel
theorem dX6_tie_112 : decode cX6_tie 112 = .ok (.getfield 113, 3) := by decide +kernel
theorem dX6_tie_115 : decode cX6_tie 115 = .ok (.bipush 10, 2) := by decide +kernel
theorem dX6_tie_117 : decode cX6_tie 117 = .ok (.if_icmp .eq 9, 3) := by decide +kernel
theorem dX6_tie_120 : decode cX6_tie 120 = .ok (.iload_n 1, 1) := by decide +kernel
theorem dX6_tie_121 : decode cX6_tie 121 = .ok (.bipush 40, 2) := by decide +kernel
theorem dX6_tie_123 : decode cX6_tie 123 = .ok (.if_icmp .le 9, 3) := by decide +kernel
theorem dX6_tie_126 : decode cX6_tie 126 = .ok (.aload_n 0, 1) := by decide +kernel
theorem dX6_tie_127 : decode cX6_tie 127 = .ok (.iconst 1, 1) := by decide +kernel
theorem dX6_tie_128 : decode cX6_tie 128 = .ok (.invokevirtual 70, 3) := by decide +kernel
theorem dX6_tie_131 : decode cX6_tie 131 = .ok (.ireturn, 1) := by decide +kernel
theorem dX6_tie_132 : decode cX6_tie 132 = .ok (.iload_n 2, 1) := by decide +kernel
theorem dX6_tie_133 : decode cX6_tie 133 = .ok (.ifCond .ne 5, 3) := by decide +kernel
theorem dX6_tie_136 : decode cX6_tie 136 = .ok (.iconst (-1), 1) := by decide +kernel
theorem dX6_tie_137 : decode cX6_tie 137 = .ok (.ireturn, 1) := by decide +kernel
theorem dX6_tie_138 : decode cX6_tie 138 = .ok (.aload_n 0, 1) := by decide +kernel
theorem dX6_tie_139 : decode cX6_tie 139 = .ok (.getfield 113, 3) := by decide +kernel
theorem dX6_tie_142 : decode cX6_tie 142 = .ok (.istore_n 3, 1) := by decide +kernel
theorem dX6_tie_143 : decode cX6_tie 143 = .ok (.aload_n 0, 1) := by decide +kernel
theorem dX6_tie_144 : decode cX6_tie 144 = .ok (.dup, 1) := by decide +kernel
theorem dX6_tie_145 : decode cX6_tie 145 = .ok (.getfield 113, 3) := by decide +kernel
theorem dX6_tie_148 : decode cX6_tie 148 = .ok (.iconst 1, 1) := by decide +kernel
theorem dX6_tie_149 : decode cX6_tie 149 = .ok (.iadd, 1) := by decide +kernel
theorem dX6_tie_150 : decode cX6_tie 150 = .ok (.putfield 113, 3) := by decide +kernel
theorem dX6_tie_153 : decode cX6_tie 153 = .ok (.iconst 0, 1) := by decide +kernel
theorem dX6_tie_154 : decode cX6_tie 154 = .ok (.istore 4, 2) := by decide +kernel
theorem dX6_tie_156 : decode cX6_tie 156 = .ok (.iload 4, 2) := by decide +kernel
theorem dX6_tie_158 : decode cX6_tie 158 = .ok (.aload_n 0, 1) := by decide +kernel
theorem dX6_tie_159 : decode cX6_tie 159 = .ok (.getfield 107, 3) := by decide +kernel
theorem dX6_tie_162 : decode cX6_tie 162 = .ok (.if_icmp .ge 45, 3) := by decide +kernel
theorem dX6_tie_165 : decode cX6_tie 165 = .ok (.aload_n 0, 1) := by decide +kernel
theorem dX6_tie_166 : decode cX6_tie 166 = .ok (.getfield 38, 3) := by decide +kernel
theorem dX6_tie_169 : decode cX6_tie 169 = .ok (.iload 4, 2) := by decide +kernel
theorem dX6_tie_171 : decode cX6_tie 171 = .ok (.iaload, 1) := by decide +kernel
theorem dX6_tie_172 : decode cX6_tie 172 = .ok (.bipush 32, 2) := by decide +kernel
theorem dX6_tie_174 : decode cX6_tie 174 = .ok (.if_icmp .ne 12, 3) := by decide +kernel
theorem dX6_tie_177 : decode cX6_tie 177 = .ok (.aload_n 0, 1) := by decide +kernel
theorem dX6_tie_178 : decode cX6_tie 178 = .ok (.iload_n 3, 1) := by decide +kernel
theorem dX6_tie_179 : decode cX6_tie 179 = .ok (.iconst 5, 1) := by decide +kernel
theorem dX6_tie_180 : decode cX6_tie 180 = .ok (.invokevirtual 116, 3) := by decide +kernel
theorem dX6_tie_183 : decode cX6_tie 183 = .ok (.goto 18, 3) := by decide +kernel
theorem dX6_tie_186 : decode cX6_tie 186 = .ok (.aload_n 0, 1) := by decide +kernel
theorem dX6_tie_187 : decode cX6_tie 187 = .ok (.iload_n 3, 1) := by decide +kernel
theorem dX6_tie_188 : decode cX6_tie 188 = .ok (.aload_n 0, 1) := by decide +kernel
theorem dX6_tie_189 : decode cX6_tie 189 = .ok (.getfield 38, 3) := by decide +kernel
theorem dX6_tie_192 : decode cX6_tie 192 = .ok (.iload 4, 2) := by decide +kernel
theorem dX6_tie_194 : decode cX6_tie 194 = .ok (.iaload, 1) := by decide +kernel
theorem dX6_tie_195 : decode cX6_tie 195 = .ok (.bipush 97, 2) := by decide +kernel
theorem dX6_tie_197 : decode cX6_tie 197 = .ok (.isub, 1) := by decide +kernel
theorem dX6_tie_198 : decode cX6_tie 198 = .ok (.invokevirtual 120, 3) := by decide +kernel
theorem dX6_tie_201 : decode cX6_tie 201 = .ok (.iinc 4 1, 3) := by decide +kernel
theorem dX6_tie_204 : decode cX6_tie 204 = .ok (.goto (-48), 3) := by decide +kernel
theorem dX6_tie_207 : decode cX6_tie 207 = .ok (.aload_n 0, 1) := by decide +kernel
theorem dX6_tie_208 : decode cX6_tie 208 = .ok (.iconst 0, 1) := by decide +kernel
theorem dX6_tie_209 : decode cX6_tie 209 = .ok (.putfield 107, 3) := by decide +kernel
theorem dX6_tie_212 : decode cX6_tie 212 = .ok (.iload_n 3, 1) := by decide +kernel
theorem dX6_tie_213 : decode cX6_tie 213 = .ok (.ireturn, 1) := by decide +kernel
theorem dX6_put_0 : decode cX6_put 0 = .ok (.aload_n 0, 1) := by decide +kernel
theorem dX6_put_1 : decode cX6_put 1 = .ok (.getfield 29, 3) := by decide +kernel
theorem dX6_put_4 : decode cX6_put 4 = .ok (.bipush 40, 2) := by decide +kernel
theorem dX6_put_6 : decode cX6_put 6 = .ok (.iload_n 1, 1) := by decide +kernel
theorem dX6_put_7 : decode cX6_put 7 = .ok (.imul, 1) := by decide +kernel
theorem dX6_put_8 : decode cX6_put 8 = .ok (.aload_n 0, 1) := by decide +kernel
theorem dX6_put_9 : decode cX6_put 9 = .ok (.getfield 26, 3) := by decide +kernel
theorem dX6_put_12 : decode cX6_put 12 = .ok (.iload_n 1, 1) := by decide +kernel
theorem dX6_put_13 : decode cX6_put 13 = .ok (.iaload, 1) := by decide +kernel
theorem dX6_put_14 : decode cX6_put 14 = .ok (.iadd, 1) := by decide +kernel
theorem dX6_put_15 : decode cX6_put 15 = .ok (.iload_n 2, 1) := by decide +kernel
theorem dX6_put_16 : decode cX6_put 16 = .ok (.iastore, 1) := by decide +kernel
theorem dX6_put_17 : decode cX6_put 17 = .ok (.aload_n 0, 1) := by decide +kernel
theorem dX6_put_18 : decode cX6_put 18 = .ok (.getfield 26, 3) := by decide +kernel
theorem dX6_put_21 : decode cX6_put 21 = .ok (.iload_n 1, 1) := by decide +kernel
theorem dX6_put_22 : decode cX6_put 22 = .ok (.dup2, 1) := by decide +kernel
theorem dX6_put_23 : decode cX6_put 23 = .ok (.iaload, 1) := by decide +kernel
theorem dX6_put_24 : decode cX6_put 24 = .ok (.iconst 1, 1) := by decide +kernel
theorem dX6_put_25 : decode cX6_put 25 = .ok (.iadd, 1) := by decide +kernel
theorem dX6_put_26 : decode cX6_put 26 = .ok (.iastore, 1) := by decide +kernel
theorem dX6_put_27 : decode cX6_put 27 = .ok (.return_, 1) := by decide +kernel
theorem dX6_tie__0 : decode cX6_tie_ 0 = .ok (.aload_n 0, 1) := by decide +kernel
theorem dX6_tie__1 : decode cX6_tie_ 1 = .ok (.getfield 13, 3) := by decide +kernel
theorem dX6_tie__4 : decode cX6_tie_ 4 = .ok (.iload_n 2, 1) := by decide +kernel
theorem dX6_tie__5 : decode cX6_tie_ 5 = .ok (.dup2, 1) := by decide +kernel
theorem dX6_tie__6 : decode cX6_tie_ 6 = .ok (.iaload, 1) := by decide +kernel
theorem dX6_tie__7 : decode cX6_tie_ 7 = .ok (.iconst 1, 1) := by decide +kernel
theorem dX6_tie__8 : decode cX6_tie_ 8 = .ok (.iadd, 1) := by decide +kernel
theorem dX6_tie__9 : decode cX6_tie_ 9 = .ok (.iastore, 1) := by decide +kernel
theorem dX6_tie__10 : decode cX6_tie_ 10 = .ok (.iconst 0, 1) := by decide +kernel
theorem dX6_tie__11 : decode cX6_tie_ 11 = .ok (.istore_n 3, 1) := by decide +kernel
theorem dX6_tie__12 : decode cX6_tie_ 12 = .ok (.iload_n 3, 1) := by decide +kernel
theorem dX6_tie__13 : decode cX6_tie_ 13 = .ok (.aload_n 0, 1) := by decide +kernel
theorem dX6_tie__14 : decode cX6_tie_ 14 = .ok (.getfield 9, 3) := by decide +kernel
theorem dX6_tie__17 : decode cX6_tie_ 17 = .ok (.iload_n 2, 1) := by decide +kernel
theorem dX6_tie__18 : decode cX6_tie_ 18 = .ok (.iaload, 1) := by decide +kernel
theorem dX6_tie__19 : decode cX6_tie_ 19 = .ok (.invokestatic 62, 3) := by decide +kernel
theorem dX6_tie__22 : decode cX6_tie_ 22 = .ok (.if_icmp .ge 113, 3) := by decide +kernel
theorem dX6_tie__25 : decode cX6_tie_ 25 = .ok (.aload_n 0, 1) := by decide +kernel
theorem dX6_tie__26 : decode cX6_tie_ 26 = .ok (.getfield 9, 3) := by decide +kernel
theorem dX6_tie__29 : decode cX6_tie_ 29 = .ok (.iload_n 2, 1) := by decide +kernel
theorem dX6_tie__30 : decode cX6_tie_ 30 = .ok (.iaload, 1) := by decide +kernel
theorem dX6_tie__31 : decode cX6_tie_ 31 = .ok (.iload_n 3, 1) := by decide +kernel
theorem dX6_tie__32 : decode cX6_tie_ 32 = .ok (.invokestatic 90, 3) := by decide +kernel
theorem dX6_tie__35 : decode cX6_tie_ 35 = .ok (.istore 4, 2) := by decide +kernel
theorem dX6_tie__37 : decode cX6_tie_ 37 = .ok (.aload_n 0, 1) := by decide +kernel
theorem dX6_tie__38 : decode cX6_tie_ 38 = .ok (.dup, 1) := by decide +kernel
theorem dX6_tie__39 : decode cX6_tie_ 39 = .ok (.getfield 123, 3) := by decide +kernel
theorem dX6_tie__42 : decode cX6_tie_ 42 = .ok (.iconst 1, 1) := by decide +kernel
theorem dX6_tie__43 : decode cX6_tie_ 43 = .ok (.iadd, 1) := by decide +kernel
theorem dX6_tie__44 : decode cX6_tie_ 44 = .ok (.putfield 123, 3) := by decide +kernel
theorem dX6_tie__47 : decode cX6_tie_ 47 = .ok (.aload_n 0, 1) := by decide +kernel
theorem dX6_tie__48 : decode cX6_tie_ 48 = .ok (.getfield 104, 3) := by decide +kernel
theorem dX6_tie__51 : decode cX6_tie_ 51 = .ok (.ifCond .le 28, 3) := by decide +kernel
theorem dX6_tie__54 : decode cX6_tie_ 54 = .ok (.aload_n 0, 1) := by decide +kernel
theorem dX6_tie__55 : decode cX6_tie_ 55 = .ok (.getfield 123, 3) := by decide +kernel
theorem dX6_tie__58 : decode cX6_tie_ 58 = .ok (.aload_n 0, 1) := by decide +kernel
theorem dX6_tie__59 : decode cX6_tie_ 59 = .ok (.getfield 104, 3) := by decide +kernel
theorem dX6_tie__62 : decode cX6_tie_ 62 = .ok (.irem, 1) := by decide +kernel
theorem dX6_tie__63 : decode cX6_tie_ 63 = .ok (.ifCond .ne 16, 3) := by decide +kernel
theorem dX6_tie__66 : decode cX6_tie_ 66 = .ok (.aload_n 0, 1) := by decide +kernel
theorem dX6_tie__67 : decode cX6_tie_ 67 = .ok (.getfield 35, 3) := by decide +kernel
theorem dX6_tie__70 : decode cX6_tie_ 70 = .ok (.iload_n 1, 1) := by decide +kernel
theorem dX6_tie__71 : decode cX6_tie_ 71 = .ok (.dup2, 1) := by decide +kernel
theorem dX6_tie__72 : decode cX6_tie_ 72 = .ok (.iaload, 1) := by decide +kernel
theorem dX6_tie__73 : decode cX6_tie_ 73 = .ok (.iconst 1, 1) := by decide +kernel
theorem dX6_tie__74 : decode cX6_tie_ 74 = .ok (.iadd, 1) := by decide +kernel
theorem dX6_tie__75 : decode cX6_tie_ 75 = .ok (.iastore, 1) := by decide +kernel
theorem dX6_tie__76 : decode cX6_tie_ 76 = .ok (.goto 53, 3) := by decide +kernel
theorem dX6_tie__79 : decode cX6_tie_ 79 = .ok (.aload_n 0, 1) := by decide +kernel
theorem dX6_tie__80 : decode cX6_tie_ 80 = .ok (.getfield 101, 3) := by decide +kernel
theorem dX6_tie__83 : decode cX6_tie_ 83 = .ok (.ifCond .le 39, 3) := by decide +kernel
theorem dX6_tie__86 : decode cX6_tie_ 86 = .ok (.aload_n 0, 1) := by decide +kernel
theorem dX6_tie__87 : decode cX6_tie_ 87 = .ok (.getfield 123, 3) := by decide +kernel
theorem dX6_tie__90 : decode cX6_tie_ 90 = .ok (.aload_n 0, 1) := by decide +kernel
theorem dX6_tie__91 : decode cX6_tie_ 91 = .ok (.getfield 101, 3) := by decide +kernel
theorem dX6_tie__94 : decode cX6_tie_ 94 = .ok (.irem, 1) := by decide +kernel
theorem dX6_tie__95 : decode cX6_tie_ 95 = .ok (.ifCond .ne 27, 3) := by decide +kernel
theorem dX6_tie__98 : decode cX6_tie_ 98 = .ok (.aload_n 0, 1) := by decide +kernel
theorem dX6_tie__99 : decode cX6_tie_ 99 = .ok (.getfield 32, 3) := by decide +kernel
theorem dX6_tie__102 : decode cX6_tie_ 102 = .ok (.iload_n 1, 1) := by decide +kernel
theorem dX6_tie__103 : decode cX6_tie_ 103 = .ok (.dup2, 1) := by decide +kernel
theorem dX6_tie__104 : decode cX6_tie_ 104 = .ok (.iaload, 1) := by decide +kernel
theorem dX6_tie__105 : decode cX6_tie_ 105 = .ok (.iconst 1, 1) := by decide +kernel
theorem dX6_tie__106 : decode cX6_tie_ 106 = .ok (.iadd, 1) := by decide +kernel
theorem dX6_tie__107 : decode cX6_tie_ 107 = .ok (.iastore, 1) := by decide +kernel
theorem dX6_tie__108 : decode cX6_tie_ 108 = .ok (.aload_n 0, 1) := by decide +kernel
theorem dX6_tie__109 : decode cX6_tie_ 109 = .ok (.iload_n 1, 1) := by decide +kernel
theorem dX6_tie__110 : decode cX6_tie_ 110 = .ok (.iload 4, 2) := by decide +kernel
theorem dX6_tie__112 : decode cX6_tie_ 112 = .ok (.iconst 4, 1) := by decide +kernel
theorem dX6_tie__113 : decode cX6_tie_ 113 = .ok (.irem, 1) := by decide +kernel
theorem dX6_tie__114 : decode cX6_tie_ 114 = .ok (.iconst 1, 1) := by decide +kernel
theorem dX6_tie__115 : decode cX6_tie_ 115 = .ok (.iadd, 1) := by decide +kernel
theorem dX6_tie__116 : decode cX6_tie_ 116 = .ok (.invokevirtual 116, 3) := by decide +kernel
theorem dX6_tie__119 : decode cX6_tie_ 119 = .ok (.goto 10, 3) := by decide +kernel
theorem dX6_tie__122 : decode cX6_tie_ 122 = .ok (.aload_n 0, 1) := by decide +kernel
theorem dX6_tie__123 : decode cX6_tie_ 123 = .ok (.iload_n 1, 1) := by decide +kernel
theorem dX6_tie__124 : decode cX6_tie_ 124 = .ok (.iload 4, 2) := by decide +kernel
theorem dX6_tie__126 : decode cX6_tie_ 126 = .ok (.invokevirtual 116, 3) := by decide +kernel
theorem dX6_tie__129 : decode cX6_tie_ 129 = .ok (.iinc 3 1, 3) := by decide +kernel
theorem dX6_tie__132 : decode cX6_tie_ 132 = .ok (.goto (-120), 3) := by decide +kernel
theorem dX6_tie__135 : decode cX6_tie_ 135 = .ok (.return_, 1) := by decide +kernel
theorem dX6_isCord_0 : decode cX6_isCord 0 = .ok (.iload_n 1, 1) := by decide +kernel
theorem dX6_isCord_1 : decode cX6_isCord 1 = .ok (.iconst 0, 1) := by decide +kernel
theorem dX6_isCord_2 : decode cX6_isCord 2 = .ok (.aload_n 0, 1) := by decide +kernel
theorem dX6_isCord_3 : decode cX6_isCord 3 = .ok (.getfield 113, 3) := by decide +kernel
theorem dX6_isCord_6 : decode cX6_isCord 6 = .ok (.iconst 1, 1) := by decide +kernel
theorem dX6_isCord_7 : decode cX6_isCord 7 = .ok (.isub, 1) := by decide +kernel
theorem dX6_isCord_8 : decode cX6_isCord 8 = .ok (.invokestatic 66, 3) := by decide +kernel
theorem dX6_isCord_11 : decode cX6_isCord 11 = .ok (.ireturn, 1) := by decide +kernel
theorem dX6_find_0 : decode cX6_find 0 = .ok (.iload_n 2, 1) := by decide +kernel
theorem dX6_find_1 : decode cX6_find 1 = .ok (.iload_n 1, 1) := by decide +kernel
theorem dX6_find_2 : decode cX6_find 2 = .ok (.isub, 1) := by decide +kernel
theorem dX6_find_3 : decode cX6_find 3 = .ok (.istore_n 3, 1) := by decide +kernel
theorem dX6_find_4 : decode cX6_find 4 = .ok (.iload_n 3, 1) := by decide +kernel
theorem dX6_find_5 : decode cX6_find 5 = .ok (.istore 4, 2) := by decide +kernel
theorem dX6_find_7 : decode cX6_find 7 = .ok (.iload 4, 2) := by decide +kernel
theorem dX6_find_9 : decode cX6_find 9 = .ok (.ifCond .lt 136, 3) := by decide +kernel
theorem dX6_find_12 : decode cX6_find 12 = .ok (.aload_n 0, 1) := by decide +kernel
theorem dX6_find_13 : decode cX6_find 13 = .ok (.getfield 44, 3) := by decide +kernel
theorem dX6_find_16 : decode cX6_find 16 = .ok (.iload 4, 2) := by decide +kernel
theorem dX6_find_18 : decode cX6_find 18 = .ok (.iload 4, 2) := by decide +kernel
theorem dX6_find_20 : decode cX6_find 20 = .ok (.iload_n 3, 1) := by decide +kernel
theorem dX6_find_21 : decode cX6_find 21 = .ok (.if_icmp .ne 7, 3) := by decide +kernel
theorem dX6_find_24 : decode cX6_find 24 = .ok (.iconst 0, 1) := by decide +kernel
theorem dX6_find_25 : decode cX6_find 25 = .ok (.goto 5, 3) := by decide +kernel
theorem dX6_find_28 : decode cX6_find 28 = .ok (.ldc 97, 2) := by decide +kernel
theorem dX6_find_30 : decode cX6_find 30 = .ok (.iastore, 1) := by decide +kernel
theorem dX6_find_31 : decode cX6_find 31 = .ok (.aload_n 0, 1) := by decide +kernel
theorem dX6_find_32 : decode cX6_find 32 = .ok (.getfield 47, 3) := by decide +kernel
theorem dX6_find_35 : decode cX6_find 35 = .ok (.iload 4, 2) := by decide +kernel
theorem dX6_find_37 : decode cX6_find 37 = .ok (.iconst 0, 1) := by decide +kernel
theorem dX6_find_38 : decode cX6_find 38 = .ok (.iastore, 1) := by decide +kernel
theorem dX6_find_39 : decode cX6_find 39 = .ok (.iconst 0, 1) := by decide +kernel
theorem dX6_find_40 : decode cX6_find 40 = .ok (.istore 5, 2) := by decide +kernel
theorem dX6_find_42 : decode cX6_find 42 = .ok (.iload 5, 2) := by decide +kernel
theorem dX6_find_44 : decode cX6_find 44 = .ok (.bipush 12, 2) := by decide +kernel
theorem dX6_find_46 : decode cX6_find 46 = .ok (.if_icmp .ge 93, 3) := by decide +kernel
theorem dX6_find_49 : decode cX6_find 49 = .ok (.iload 4, 2) := by decide +kernel
theorem dX6_find_51 : decode cX6_find 51 = .ok (.iload_n 3, 1) := by decide +kernel
theorem dX6_find_52 : decode cX6_find 52 = .ok (.if_icmp .ge 87, 3) := by decide +kernel
theorem dX6_find_55 : decode cX6_find 55 = .ok (.aload_n 0, 1) := by decide +kernel
theorem dX6_find_56 : decode cX6_find 56 = .ok (.getfield 9, 3) := by decide +kernel
theorem dX6_find_59 : decode cX6_find 59 = .ok (.iload 5, 2) := by decide +kernel
theorem dX6_find_61 : decode cX6_find 61 = .ok (.iaload, 1) := by decide +kernel
theorem dX6_find_62 : decode cX6_find 62 = .ok (.ifCond .ne 6, 3) := by decide +kernel
theorem dX6_find_65 : decode cX6_find 65 = .ok (.goto 68, 3) := by decide +kernel
theorem dX6_find_68 : decode cX6_find 68 = .ok (.aload_n 0, 1) := by decide +kernel
theorem dX6_find_69 : decode cX6_find 69 = .ok (.aload_n 0, 1) := by decide +kernel
theorem dX6_find_70 : decode cX6_find 70 = .ok (.getfield 9, 3) := by decide +kernel
theorem dX6_find_73 : decode cX6_find 73 = .ok (.iload 5, 2) := by decide +kernel
theorem dX6_find_75 : decode cX6_find 75 = .ok (.iaload, 1) := by decide +kernel
theorem dX6_find_76 : decode cX6_find 76 = .ok (.iload_n 1, 1) := by decide +kernel
theorem dX6_find_77 : decode cX6_find 77 = .ok (.iload 4, 2) := by decide +kernel
theorem dX6_find_79 : decode cX6_find 79 = .ok (.iadd, 1) := by decide +kernel
theorem dX6_find_80 : decode cX6_find 80 = .ok (.iload_n 2, 1) := by decide +kernel
theorem dX6_find_81 : decode cX6_find 81 = .ok (.invokevirtual 126, 3) := by decide +kernel
theorem dX6_find_84 : decode cX6_find 84 = .ok (.iconst 1, 1) := by decide +kernel
theorem dX6_find_85 : decode cX6_find 85 = .ok (.istore 6, 2) := by decide +kernel
theorem dX6_find_87 : decode cX6_find 87 = .ok (.iload 6, 2) := by decide +kernel
theorem dX6_find_89 : decode cX6_find 89 = .ok (.iload_n 3, 1) := by decide +kernel
theorem dX6_find_90 : decode cX6_find 90 = .ok (.iload 4, 2) := by decide +kernel
theorem dX6_find_92 : decode cX6_find 92 = .ok (.isub, 1) := by decide +kernel
theorem dX6_find_93 : decode cX6_find 93 = .ok (.if_icmp .gt 40, 3) := by decide +kernel
theorem dX6_find_96 : decode cX6_find 96 = .ok (.aload_n 0, 1) := by decide +kernel
theorem dX6_find_97 : decode cX6_find 97 = .ok (.iload 4, 2) := by decide +kernel
theorem dX6_find_99 : decode cX6_find 99 = .ok (.iload 5, 2) := by decide +kernel
theorem dX6_find_101 : decode cX6_find 101 = .ok (.aload_n 0, 1) := by decide +kernel
theorem dX6_find_102 : decode cX6_find 102 = .ok (.getfield 56, 3) := by decide +kernel
theorem dX6_find_105 : decode cX6_find 105 = .ok (.iload 6, 2) := by decide +kernel
theorem dX6_find_107 : decode cX6_find 107 = .ok (.iaload, 1) := by decide +kernel
theorem dX6_find_108 : decode cX6_find 108 = .ok (.aload_n 0, 1) := by decide +kernel
theorem dX6_find_109 : decode cX6_find 109 = .ok (.getfield 44, 3) := by decide +kernel
theorem dX6_find_112 : decode cX6_find 112 = .ok (.iload 4, 2) := by decide +kernel
theorem dX6_find_114 : decode cX6_find 114 = .ok (.iload 6, 2) := by decide +kernel
theorem dX6_find_116 : decode cX6_find 116 = .ok (.iadd, 1) := by decide +kernel
theorem dX6_find_117 : decode cX6_find 117 = .ok (.iaload, 1) := by decide +kernel
theorem dX6_find_118 : decode cX6_find 118 = .ok (.iadd, 1) := by decide +kernel
theorem dX6_find_119 : decode cX6_find 119 = .ok (.iload 4, 2) := by decide +kernel
theorem dX6_find_121 : decode cX6_find 121 = .ok (.iload 6, 2) := by decide +kernel
theorem dX6_find_123 : decode cX6_find 123 = .ok (.iadd, 1) := by decide +kernel
theorem dX6_find_124 : decode cX6_find 124 = .ok (.invokevirtual 130, 3) := by decide +kernel
theorem dX6_find_127 : decode cX6_find 127 = .ok (.iinc 6 1, 3) := by decide +kernel
theorem dX6_find_130 : decode cX6_find 130 = .ok (.goto (-43), 3) := by decide +kernel
theorem dX6_find_133 : decode cX6_find 133 = .ok (.iinc 5 1, 3) := by decide +kernel
theorem dX6_find_136 : decode cX6_find 136 = .ok (.goto (-94), 3) := by decide +kernel
theorem dX6_find_139 : decode cX6_find 139 = .ok (.iinc 4 (-1), 3) := by decide +kernel
theorem dX6_find_142 : decode cX6_find 142 = .ok (.goto (-135), 3) := by decide +kernel
theorem dX6_find_145 : decode cX6_find 145 = .ok (.iload_n 3, 1) := by decide +kernel
theorem dX6_find_146 : decode cX6_find 146 = .ok (.aload_n 0, 1) := by decide +kernel
theorem dX6_find_147 : decode cX6_find 147 = .ok (.getfield 23, 3) := by decide +kernel
theorem dX6_find_150 : decode cX6_find 150 = .ok (.imul, 1) := by decide +kernel
theorem dX6_find_151 : decode cX6_find 151 = .ok (.aload_n 0, 1) := by decide +kernel
theorem dX6_find_152 : decode cX6_find 152 = .ok (.getfield 44, 3) := by decide +kernel
theorem dX6_find_155 : decode cX6_find 155 = .ok (.iconst 0, 1) := by decide +kernel
theorem dX6_find_156 : decode cX6_find 156 = .ok (.iaload, 1) := by decide +kernel
theorem dX6_find_157 : decode cX6_find 157 = .ok (.if_icmp .le 4, 3) := by decide +kernel
theorem dX6_find_160 : decode cX6_find 160 = .ok (.return_, 1) := by decide +kernel
theorem dX6_find_161 : decode cX6_find 161 = .ok (.aload_n 0, 1) := by decide +kernel
theorem dX6_find_162 : decode cX6_find 162 = .ok (.getfield 44, 3) := by decide +kernel
theorem dX6_find_165 : decode cX6_find 165 = .ok (.iconst 0, 1) := by decide +kernel
theorem dX6_find_166 : decode cX6_find 166 = .ok (.iload_n 3, 1) := by decide +kernel
theorem dX6_find_167 : decode cX6_find 167 = .ok (.aload_n 0, 1) := by decide +kernel
theorem dX6_find_168 : decode cX6_find 168 = .ok (.getfield 23, 3) := by decide +kernel
theorem dX6_find_171 : decode cX6_find 171 = .ok (.imul, 1) := by decide +kernel
theorem dX6_find_172 : decode cX6_find 172 = .ok (.iastore, 1) := by decide +kernel
theorem dX6_find_173 : decode cX6_find 173 = .ok (.aload_n 0, 1) := by decide +kernel
theorem dX6_find_174 : decode cX6_find 174 = .ok (.getfield 47, 3) := by decide +kernel
theorem dX6_find_177 : decode cX6_find 177 = .ok (.iconst 0, 1) := by decide +kernel
theorem dX6_find_178 : decode cX6_find 178 = .ok (.iconst 0, 1) := by decide +kernel
theorem dX6_find_179 : decode cX6_find 179 = .ok (.iastore, 1) := by decide +kernel
theorem dX6_find_180 : decode cX6_find 180 = .ok (.return_, 1) := by decide +kernel
theorem dX6_improve_0 : decode cX6_improve 0 = .ok (.iload_n 3, 1) := by decide +kernel
theorem dX6_improve_1 : decode cX6_improve 1 = .ok (.aload_n 0, 1) := by decide +kernel
theorem dX6_improve_2 : decode cX6_improve 2 = .ok (.getfield 44, 3) := by decide +kernel
theorem dX6_improve_5 : decode cX6_improve 5 = .ok (.iload_n 1, 1) := by decide +kernel
theorem dX6_improve_6 : decode cX6_improve 6 = .ok (.iaload, 1) := by decide +kernel
theorem dX6_improve_7 : decode cX6_improve 7 = .ok (.if_icmp .gt 31, 3) := by decide +kernel
theorem dX6_improve_10 : decode cX6_improve 10 = .ok (.iload_n 3, 1) := by decide +kernel
theorem dX6_improve_11 : decode cX6_improve 11 = .ok (.aload_n 0, 1) := by decide +kernel
theorem dX6_improve_12 : decode cX6_improve 12 = .ok (.getfield 44, 3) := by decide +kernel
theorem dX6_improve_15 : decode cX6_improve 15 = .ok (.iload_n 1, 1) := by decide +kernel
theorem dX6_improve_16 : decode cX6_improve 16 = .ok (.iaload, 1) := by decide +kernel
theorem dX6_improve_17 : decode cX6_improve 17 = .ok (.if_icmp .ne 22, 3) := by decide +kernel
theorem dX6_improve_20 : decode cX6_improve 20 = .ok (.aload_n 0, 1) := by decide +kernel
theorem dX6_improve_21 : decode cX6_improve 21 = .ok (.getfield 47, 3) := by decide +kernel
theorem dX6_improve_24 : decode cX6_improve 24 = .ok (.iload 4, 2) := by decide +kernel
theorem dX6_improve_26 : decode cX6_improve 26 = .ok (.iaload, 1) := by decide +kernel
theorem dX6_improve_27 : decode cX6_improve 27 = .ok (.iconst 1, 1) := by decide +kernel
theorem dX6_improve_28 : decode cX6_improve 28 = .ok (.iadd, 1) := by decide +kernel
theorem dX6_improve_29 : decode cX6_improve 29 = .ok (.aload_n 0, 1) := by decide +kernel
theorem dX6_improve_30 : decode cX6_improve 30 = .ok (.getfield 47, 3) := by decide +kernel
theorem dX6_improve_33 : decode cX6_improve 33 = .ok (.iload_n 1, 1) := by decide +kernel
theorem dX6_improve_34 : decode cX6_improve 34 = .ok (.iaload, 1) := by decide +kernel
theorem dX6_improve_35 : decode cX6_improve 35 = .ok (.if_icmp .le 4, 3) := by decide +kernel
theorem dX6_improve_38 : decode cX6_improve 38 = .ok (.return_, 1) := by decide +kernel
theorem dX6_improve_39 : decode cX6_improve 39 = .ok (.iload_n 3, 1) := by decide +kernel
theorem dX6_improve_40 : decode cX6_improve 40 = .ok (.aload_n 0, 1) := by decide +kernel
theorem dX6_improve_41 : decode cX6_improve 41 = .ok (.getfield 44, 3) := by decide +kernel
theorem dX6_improve_44 : decode cX6_improve 44 = .ok (.iload_n 1, 1) := by decide +kernel
theorem dX6_improve_45 : decode cX6_improve 45 = .ok (.iaload, 1) := by decide +kernel
theorem dX6_improve_46 : decode cX6_improve 46 = .ok (.if_icmp .ne 44, 3) := by decide +kernel
theorem dX6_improve_49 : decode cX6_improve 49 = .ok (.aload_n 0, 1) := by decide +kernel
theorem dX6_improve_50 : decode cX6_improve 50 = .ok (.getfield 47, 3) := by decide +kernel
theorem dX6_improve_53 : decode cX6_improve 53 = .ok (.iload 4, 2) := by decide +kernel
theorem dX6_improve_55 : decode cX6_improve 55 = .ok (.iaload, 1) := by decide +kernel
theorem dX6_improve_56 : decode cX6_improve 56 = .ok (.iconst 1, 1) := by decide +kernel
theorem dX6_improve_57 : decode cX6_improve 57 = .ok (.iadd, 1) := by decide +kernel
theorem dX6_improve_58 : decode cX6_improve 58 = .ok (.aload_n 0, 1) := by decide +kernel
theorem dX6_improve_59 : decode cX6_improve 59 = .ok (.getfield 47, 3) := by decide +kernel
theorem dX6_improve_62 : decode cX6_improve 62 = .ok (.iload_n 1, 1) := by decide +kernel
theorem dX6_improve_63 : decode cX6_improve 63 = .ok (.iaload, 1) := by decide +kernel
theorem dX6_improve_64 : decode cX6_improve 64 = .ok (.if_icmp .ne 26, 3) := by decide +kernel
theorem dX6_improve_67 : decode cX6_improve 67 = .ok (.aload_n 0, 1) := by decide +kernel
theorem dX6_improve_68 : decode cX6_improve 68 = .ok (.iload_n 2, 1) := by decide +kernel
theorem dX6_improve_69 : decode cX6_improve 69 = .ok (.iload 4, 2) := by decide +kernel
theorem dX6_improve_71 : decode cX6_improve 71 = .ok (.aload_n 0, 1) := by decide +kernel
theorem dX6_improve_72 : decode cX6_improve 72 = .ok (.getfield 50, 3) := by decide +kernel
theorem dX6_improve_75 : decode cX6_improve 75 = .ok (.iload_n 1, 1) := by decide +kernel
theorem dX6_improve_76 : decode cX6_improve 76 = .ok (.iaload, 1) := by decide +kernel
theorem dX6_improve_77 : decode cX6_improve 77 = .ok (.aload_n 0, 1) := by decide +kernel
theorem dX6_improve_78 : decode cX6_improve 78 = .ok (.getfield 53, 3) := by decide +kernel
theorem dX6_improve_81 : decode cX6_improve 81 = .ok (.iload_n 1, 1) := by decide +kernel
theorem dX6_improve_82 : decode cX6_improve 82 = .ok (.iaload, 1) := by decide +kernel
theorem dX6_improve_83 : decode cX6_improve 83 = .ok (.invokevirtual 134, 3) := by decide +kernel
theorem dX6_improve_86 : decode cX6_improve 86 = .ok (.ifCond .ne 4, 3) := by decide +kernel
theorem dX6_improve_89 : decode cX6_improve 89 = .ok (.return_, 1) := by decide +kernel
theorem dX6_improve_90 : decode cX6_improve 90 = .ok (.aload_n 0, 1) := by decide +kernel
theorem dX6_improve_91 : decode cX6_improve 91 = .ok (.getfield 44, 3) := by decide +kernel
theorem dX6_improve_94 : decode cX6_improve 94 = .ok (.iload_n 1, 1) := by decide +kernel
theorem dX6_improve_95 : decode cX6_improve 95 = .ok (.iload_n 3, 1) := by decide +kernel
theorem dX6_improve_96 : decode cX6_improve 96 = .ok (.iastore, 1) := by decide +kernel
theorem dX6_improve_97 : decode cX6_improve 97 = .ok (.aload_n 0, 1) := by decide +kernel
theorem dX6_improve_98 : decode cX6_improve 98 = .ok (.getfield 47, 3) := by decide +kernel
theorem dX6_improve_101 : decode cX6_improve 101 = .ok (.iload_n 1, 1) := by decide +kernel
theorem dX6_improve_102 : decode cX6_improve 102 = .ok (.aload_n 0, 1) := by decide +kernel
theorem dX6_improve_103 : decode cX6_improve 103 = .ok (.getfield 47, 3) := by decide +kernel
theorem dX6_improve_106 : decode cX6_improve 106 = .ok (.iload 4, 2) := by decide +kernel
theorem dX6_improve_108 : decode cX6_improve 108 = .ok (.iaload, 1) := by decide +kernel
theorem dX6_improve_109 : decode cX6_improve 109 = .ok (.iconst 1, 1) := by decide +kernel
theorem dX6_improve_110 : decode cX6_improve 110 = .ok (.iadd, 1) := by decide +kernel
theorem dX6_improve_111 : decode cX6_improve 111 = .ok (.iastore, 1) := by decide +kernel
theorem dX6_improve_112 : decode cX6_improve 112 = .ok (.aload_n 0, 1) := by decide +kernel
theorem dX6_improve_113 : decode cX6_improve 113 = .ok (.getfield 50, 3) := by decide +kernel
theorem dX6_improve_116 : decode cX6_improve 116 = .ok (.iload_n 1, 1) := by decide +kernel
theorem dX6_improve_117 : decode cX6_improve 117 = .ok (.iload_n 2, 1) := by decide +kernel
theorem dX6_improve_118 : decode cX6_improve 118 = .ok (.iastore, 1) := by decide +kernel
theorem dX6_improve_119 : decode cX6_improve 119 = .ok (.aload_n 0, 1) := by decide +kernel
theorem dX6_improve_120 : decode cX6_improve 120 = .ok (.getfield 53, 3) := by decide +kernel
theorem dX6_improve_123 : decode cX6_improve 123 = .ok (.iload_n 1, 1) := by decide +kernel
theorem dX6_improve_124 : decode cX6_improve 124 = .ok (.iload 4, 2) := by decide +kernel
theorem dX6_improve_126 : decode cX6_improve 126 = .ok (.iastore, 1) := by decide +kernel
theorem dX6_improve_127 : decode cX6_improve 127 = .ok (.return_, 1) := by decide +kernel
theorem dX6_isAhead_0 : decode cX6_isAhead 0 = .ok (.iload_n 1, 1) := by decide +kernel
theorem dX6_isAhead_1 : decode cX6_isAhead 1 = .ok (.iload_n 3, 1) := by decide +kernel
theorem dX6_isAhead_2 : decode cX6_isAhead 2 = .ok (.if_icmp .eq 14, 3) := by decide +kernel
theorem dX6_isAhead_5 : decode cX6_isAhead 5 = .ok (.iload_n 1, 1) := by decide +kernel
theorem dX6_isAhead_6 : decode cX6_isAhead 6 = .ok (.iload_n 3, 1) := by decide +kernel
theorem dX6_isAhead_7 : decode cX6_isAhead 7 = .ok (.if_icmp .ge 7, 3) := by decide +kernel
theorem dX6_isAhead_10 : decode cX6_isAhead 10 = .ok (.iconst 1, 1) := by decide +kernel
theorem dX6_isAhead_11 : decode cX6_isAhead 11 = .ok (.goto 4, 3) := by decide +kernel
theorem dX6_isAhead_14 : decode cX6_isAhead 14 = .ok (.iconst 0, 1) := by decide +kernel
theorem dX6_isAhead_15 : decode cX6_isAhead 15 = .ok (.ireturn, 1) := by decide +kernel
theorem dX6_isAhead_16 : decode cX6_isAhead 16 = .ok (.iload_n 2, 1) := by decide +kernel
theorem dX6_isAhead_17 : decode cX6_isAhead 17 = .ok (.istore 5, 2) := by decide +kernel
theorem dX6_isAhead_19 : decode cX6_isAhead 19 = .ok (.iload 4, 2) := by decide +kernel
theorem dX6_isAhead_21 : decode cX6_isAhead 21 = .ok (.istore 6, 2) := by decide +kernel
theorem dX6_isAhead_23 : decode cX6_isAhead 23 = .ok (.aload_n 0, 1) := by decide +kernel
theorem dX6_isAhead_24 : decode cX6_isAhead 24 = .ok (.getfield 47, 3) := by decide +kernel
theorem dX6_isAhead_27 : decode cX6_isAhead 27 = .ok (.iload 5, 2) := by decide +kernel
theorem dX6_isAhead_29 : decode cX6_isAhead 29 = .ok (.iaload, 1) := by decide +kernel
theorem dX6_isAhead_30 : decode cX6_isAhead 30 = .ok (.ifCond .le 48, 3) := by decide +kernel
theorem dX6_isAhead_33 : decode cX6_isAhead 33 = .ok (.aload_n 0, 1) := by decide +kernel
theorem dX6_isAhead_34 : decode cX6_isAhead 34 = .ok (.getfield 50, 3) := by decide +kernel
theorem dX6_isAhead_37 : decode cX6_isAhead 37 = .ok (.iload 5, 2) := by decide +kernel
theorem dX6_isAhead_39 : decode cX6_isAhead 39 = .ok (.iaload, 1) := by decide +kernel
theorem dX6_isAhead_40 : decode cX6_isAhead 40 = .ok (.aload_n 0, 1) := by decide +kernel
theorem dX6_isAhead_41 : decode cX6_isAhead 41 = .ok (.getfield 50, 3) := by decide +kernel
theorem dX6_isAhead_44 : decode cX6_isAhead 44 = .ok (.iload 6, 2) := by decide +kernel
theorem dX6_isAhead_46 : decode cX6_isAhead 46 = .ok (.iaload, 1) := by decide +kernel
theorem dX6_isAhead_47 : decode cX6_isAhead 47 = .ok (.if_icmp .ne 31, 3) := by decide +kernel
theorem dX6_isAhead_50 : decode cX6_isAhead 50 = .ok (.iload 5, 2) := by decide +kernel
theorem dX6_isAhead_52 : decode cX6_isAhead 52 = .ok (.iload 6, 2) := by decide +kernel
theorem dX6_isAhead_54 : decode cX6_isAhead 54 = .ok (.if_icmp .eq 24, 3) := by decide +kernel
theorem dX6_isAhead_57 : decode cX6_isAhead 57 = .ok (.aload_n 0, 1) := by decide +kernel
theorem dX6_isAhead_58 : decode cX6_isAhead 58 = .ok (.getfield 53, 3) := by decide +kernel
theorem dX6_isAhead_61 : decode cX6_isAhead 61 = .ok (.iload 5, 2) := by decide +kernel
theorem dX6_isAhead_63 : decode cX6_isAhead 63 = .ok (.iaload, 1) := by decide +kernel
theorem dX6_isAhead_64 : decode cX6_isAhead 64 = .ok (.istore 5, 2) := by decide +kernel
theorem dX6_isAhead_66 : decode cX6_isAhead 66 = .ok (.aload_n 0, 1) := by decide +kernel
theorem dX6_isAhead_67 : decode cX6_isAhead 67 = .ok (.getfield 53, 3) := by decide +kernel
theorem dX6_isAhead_70 : decode cX6_isAhead 70 = .ok (.iload 6, 2) := by decide +kernel
theorem dX6_isAhead_72 : decode cX6_isAhead 72 = .ok (.iaload, 1) := by decide +kernel
theorem dX6_isAhead_73 : decode cX6_isAhead 73 = .ok (.istore 6, 2) := by decide +kernel
theorem dX6_isAhead_75 : decode cX6_isAhead 75 = .ok (.goto (-52), 3) := by decide +kernel
theorem dX6_isAhead_78 : decode cX6_isAhead 78 = .ok (.aload_n 0, 1) := by decide +kernel
theorem dX6_isAhead_79 : decode cX6_isAhead 79 = .ok (.getfield 47, 3) := by decide +kernel
theorem dX6_isAhead_82 : decode cX6_isAhead 82 = .ok (.iload 5, 2) := by decide +kernel
theorem dX6_isAhead_84 : decode cX6_isAhead 84 = .ok (.iaload, 1) := by decide +kernel
theorem dX6_isAhead_85 : decode cX6_isAhead 85 = .ok (.ifCond .le 24, 3) := by decide +kernel
theorem dX6_isAhead_88 : decode cX6_isAhead 88 = .ok (.aload_n 0, 1) := by decide +kernel
theorem dX6_isAhead_89 : decode cX6_isAhead 89 = .ok (.getfield 50, 3) := by decide +kernel
theorem dX6_isAhead_92 : decode cX6_isAhead 92 = .ok (.iload 5, 2) := by decide +kernel
theorem dX6_isAhead_94 : decode cX6_isAhead 94 = .ok (.iaload, 1) := by decide +kernel
theorem dX6_isAhead_95 : decode cX6_isAhead 95 = .ok (.aload_n 0, 1) := by decide +kernel
theorem dX6_isAhead_96 : decode cX6_isAhead 96 = .ok (.getfield 50, 3) := by decide +kernel
theorem dX6_isAhead_99 : decode cX6_isAhead 99 = .ok (.iload 6, 2) := by decide +kernel
theorem dX6_isAhead_101 : decode cX6_isAhead 101 = .ok (.iaload, 1) := by decide +kernel
theorem dX6_isAhead_102 : decode cX6_isAhead 102 = .ok (.if_icmp .ge 7, 3) := by decide +kernel
theorem dX6_isAhead_105 : decode cX6_isAhead 105 = .ok (.iconst 1, 1) := by decide +kernel
theorem dX6_isAhead_106 : decode cX6_isAhead 106 = .ok (.goto 4, 3) := by decide +kernel
theorem dX6_isAhead_109 : decode cX6_isAhead 109 = .ok (.iconst 0, 1) := by decide +kernel
theorem dX6_isAhead_110 : decode cX6_isAhead 110 = .ok (.ireturn, 1) := by decide +kernel
theorem dX6_ways_0 : decode cX6_ways 0 = .ok (.iload_n 2, 1) := by decide +kernel
theorem dX6_ways_1 : decode cX6_ways 1 = .ok (.iload_n 1, 1) := by decide +kernel
theorem dX6_ways_2 : decode cX6_ways 2 = .ok (.isub, 1) := by decide +kernel
theorem dX6_ways_3 : decode cX6_ways 3 = .ok (.iconst 1, 1) := by decide +kernel
theorem dX6_ways_4 : decode cX6_ways 4 = .ok (.iadd, 1) := by decide +kernel
theorem dX6_ways_5 : decode cX6_ways 5 = .ok (.newarray .int, 2) := by decide +kernel
theorem dX6_ways_7 : decode cX6_ways 7 = .ok (.astore_n 3, 1) := by decide +kernel
theorem dX6_ways_8 : decode cX6_ways 8 = .ok (.aload_n 3, 1) := by decide +kernel
theorem dX6_ways_9 : decode cX6_ways 9 = .ok (.iload_n 2, 1) := by decide +kernel
theorem dX6_ways_10 : decode cX6_ways 10 = .ok (.iload_n 1, 1) := by decide +kernel
theorem dX6_ways_11 : decode cX6_ways 11 = .ok (.isub, 1) := by decide +kernel
theorem dX6_ways_12 : decode cX6_ways 12 = .ok (.iconst 1, 1) := by decide +kernel
theorem dX6_ways_13 : decode cX6_ways 13 = .ok (.iastore, 1) := by decide +kernel
theorem dX6_ways_14 : decode cX6_ways 14 = .ok (.iload_n 2, 1) := by decide +kernel
theorem dX6_ways_15 : decode cX6_ways 15 = .ok (.iload_n 1, 1) := by decide +kernel
theorem dX6_ways_16 : decode cX6_ways 16 = .ok (.isub, 1) := by decide +kernel
theorem dX6_ways_17 : decode cX6_ways 17 = .ok (.iconst 1, 1) := by decide +kernel
theorem dX6_ways_18 : decode cX6_ways 18 = .ok (.isub, 1) := by decide +kernel
theorem dX6_ways_19 : decode cX6_ways 19 = .ok (.istore 4, 2) := by decide +kernel
theorem dX6_ways_21 : decode cX6_ways 21 = .ok (.iload 4, 2) := by decide +kernel
theorem dX6_ways_23 : decode cX6_ways 23 = .ok (.ifCond .lt 141, 3) := by decide +kernel
theorem dX6_ways_26 : decode cX6_ways 26 = .ok (.iconst 0, 1) := by decide +kernel
theorem dX6_ways_27 : decode cX6_ways 27 = .ok (.istore 5, 2) := by decide +kernel
theorem dX6_ways_29 : decode cX6_ways 29 = .ok (.iload 5, 2) := by decide +kernel
theorem dX6_ways_31 : decode cX6_ways 31 = .ok (.bipush 12, 2) := by decide +kernel
theorem dX6_ways_33 : decode cX6_ways 33 = .ok (.if_icmp .ge 125, 3) := by decide +kernel
theorem dX6_ways_36 : decode cX6_ways 36 = .ok (.aload_n 0, 1) := by decide +kernel
theorem dX6_ways_37 : decode cX6_ways 37 = .ok (.getfield 9, 3) := by decide +kernel
theorem dX6_ways_40 : decode cX6_ways 40 = .ok (.iload 5, 2) := by decide +kernel
theorem dX6_ways_42 : decode cX6_ways 42 = .ok (.iaload, 1) := by decide +kernel
theorem dX6_ways_43 : decode cX6_ways 43 = .ok (.invokestatic 62, 3) := by decide +kernel
theorem dX6_ways_46 : decode cX6_ways 46 = .ok (.istore 6, 2) := by decide +kernel
theorem dX6_ways_48 : decode cX6_ways 48 = .ok (.iload 6, 2) := by decide +kernel
theorem dX6_ways_50 : decode cX6_ways 50 = .ok (.ifCond .le 18, 3) := by decide +kernel
