theorem dX6_ways_53 : decode cX6_ways 53 = .ok (.iload 6, 2) := by decide +kernel
theorem dX6_ways_55 : decode cX6_ways 55 = .ok (.iload_n 2, 1) := by decide +kernel
theorem dX6_ways_56 : decode cX6_ways 56 = .ok (.iload_n 1, 1) := by decide +kernel
theorem dX6_ways_57 : decode cX6_ways 57 = .ok (.isub, 1) := by decide +kernel
theorem dX6_ways_58 : decode cX6_ways 58 = .ok (.iload 4, 2) := by decide +kernel
theorem dX6_ways_60 : decode cX6_ways 60 = .ok (.isub, 1) := by decide +kernel
theorem dX6_ways_61 : decode cX6_ways 61 = .ok (.if_icmp .gt 7, 3) := by decide +kernel
theorem dX6_ways_64 : decode cX6_ways 64 = .ok (.iconst 1, 1) := by decide +kernel
theorem dX6_ways_65 : decode cX6_ways 65 = .ok (.goto 4, 3) := by decide +kernel
theorem dX6_ways_68 : decode cX6_ways 68 = .ok (.iconst 0, 1) := by decide +kernel
theorem dX6_ways_69 : decode cX6_ways 69 = .ok (.istore 7, 2) := by decide +kernel
theorem dX6_ways_71 : decode cX6_ways 71 = .ok (.iconst 0, 1) := by decide +kernel
theorem dX6_ways_72 : decode cX6_ways 72 = .ok (.istore 8, 2) := by decide +kernel
theorem dX6_ways_74 : decode cX6_ways 74 = .ok (.iload 8, 2) := by decide +kernel
theorem dX6_ways_76 : decode cX6_ways 76 = .ok (.iload 6, 2) := by decide +kernel
theorem dX6_ways_78 : decode cX6_ways 78 = .ok (.if_icmp .ge 48, 3) := by decide +kernel
theorem dX6_ways_81 : decode cX6_ways 81 = .ok (.iload 7, 2) := by decide +kernel
theorem dX6_ways_83 : decode cX6_ways 83 = .ok (.ifCond .eq 43, 3) := by decide +kernel
theorem dX6_ways_86 : decode cX6_ways 86 = .ok (.aload_n 0, 1) := by decide +kernel
theorem dX6_ways_87 : decode cX6_ways 87 = .ok (.getfield 9, 3) := by decide +kernel
theorem dX6_ways_90 : decode cX6_ways 90 = .ok (.iload 5, 2) := by decide +kernel
theorem dX6_ways_92 : decode cX6_ways 92 = .ok (.iaload, 1) := by decide +kernel
theorem dX6_ways_93 : decode cX6_ways 93 = .ok (.iload 8, 2) := by decide +kernel
theorem dX6_ways_95 : decode cX6_ways 95 = .ok (.invokestatic 90, 3) := by decide +kernel
theorem dX6_ways_98 : decode cX6_ways 98 = .ok (.aload_n 0, 1) := by decide +kernel
theorem dX6_ways_99 : decode cX6_ways 99 = .ok (.getfield 29, 3) := by decide +kernel
theorem dX6_ways_102 : decode cX6_ways 102 = .ok (.iload_n 1, 1) := by decide +kernel
theorem dX6_ways_103 : decode cX6_ways 103 = .ok (.iload 4, 2) := by decide +kernel
theorem dX6_ways_105 : decode cX6_ways 105 = .ok (.iadd, 1) := by decide +kernel
theorem dX6_ways_106 : decode cX6_ways 106 = .ok (.iload 8, 2) := by decide +kernel
theorem dX6_ways_108 : decode cX6_ways 108 = .ok (.iadd, 1) := by decide +kernel
theorem dX6_ways_109 : decode cX6_ways 109 = .ok (.iaload, 1) := by decide +kernel
theorem dX6_ways_110 : decode cX6_ways 110 = .ok (.if_icmp .ne 7, 3) := by decide +kernel
theorem dX6_ways_113 : decode cX6_ways 113 = .ok (.iconst 1, 1) := by decide +kernel
theorem dX6_ways_114 : decode cX6_ways 114 = .ok (.goto 4, 3) := by decide +kernel
theorem dX6_ways_117 : decode cX6_ways 117 = .ok (.iconst 0, 1) := by decide +kernel
theorem dX6_ways_118 : decode cX6_ways 118 = .ok (.istore 7, 2) := by decide +kernel
theorem dX6_ways_120 : decode cX6_ways 120 = .ok (.iinc 8 1, 3) := by decide +kernel
theorem dX6_ways_123 : decode cX6_ways 123 = .ok (.goto (-49), 3) := by decide +kernel
theorem dX6_ways_126 : decode cX6_ways 126 = .ok (.iload 7, 2) := by decide +kernel
theorem dX6_ways_128 : decode cX6_ways 128 = .ok (.ifCond .eq 24, 3) := by decide +kernel
theorem dX6_ways_131 : decode cX6_ways 131 = .ok (.aload_n 3, 1) := by decide +kernel
theorem dX6_ways_132 : decode cX6_ways 132 = .ok (.iload 4, 2) := by decide +kernel
theorem dX6_ways_134 : decode cX6_ways 134 = .ok (.ldc 138, 2) := by decide +kernel
theorem dX6_ways_136 : decode cX6_ways 136 = .ok (.aload_n 3, 1) := by decide +kernel
theorem dX6_ways_137 : decode cX6_ways 137 = .ok (.iload 4, 2) := by decide +kernel
theorem dX6_ways_139 : decode cX6_ways 139 = .ok (.iaload, 1) := by decide +kernel
theorem dX6_ways_140 : decode cX6_ways 140 = .ok (.aload_n 3, 1) := by decide +kernel
theorem dX6_ways_141 : decode cX6_ways 141 = .ok (.iload 4, 2) := by decide +kernel
theorem dX6_ways_143 : decode cX6_ways 143 = .ok (.iload 6, 2) := by decide +kernel
theorem dX6_ways_145 : decode cX6_ways 145 = .ok (.iadd, 1) := by decide +kernel
theorem dX6_ways_146 : decode cX6_ways 146 = .ok (.iaload, 1) := by decide +kernel
theorem dX6_ways_147 : decode cX6_ways 147 = .ok (.iadd, 1) := by decide +kernel
theorem dX6_ways_148 : decode cX6_ways 148 = .ok (.invokestatic 85, 3) := by decide +kernel
theorem dX6_ways_151 : decode cX6_ways 151 = .ok (.iastore, 1) := by decide +kernel
theorem dX6_ways_152 : decode cX6_ways 152 = .ok (.iinc 5 1, 3) := by decide +kernel
theorem dX6_ways_155 : decode cX6_ways 155 = .ok (.goto (-126), 3) := by decide +kernel
theorem dX6_ways_158 : decode cX6_ways 158 = .ok (.iinc 4 (-1), 3) := by decide +kernel
theorem dX6_ways_161 : decode cX6_ways 161 = .ok (.goto (-140), 3) := by decide +kernel
theorem dX6_ways_164 : decode cX6_ways 164 = .ok (.aload_n 3, 1) := by decide +kernel
theorem dX6_ways_165 : decode cX6_ways 165 = .ok (.iconst 0, 1) := by decide +kernel
theorem dX6_ways_166 : decode cX6_ways 166 = .ok (.iaload, 1) := by decide +kernel
theorem dX6_ways_167 : decode cX6_ways 167 = .ok (.ireturn, 1) := by decide +kernel
theorem dX6_over__0 : decode cX6_over_ 0 = .ok (.iload_n 2, 1) := by decide +kernel
theorem dX6_over__1 : decode cX6_over_ 1 = .ok (.bipush 6, 2) := by decide +kernel
theorem dX6_over__3 : decode cX6_over_ 3 = .ok (.if_icmp .ne 7, 3) := by decide +kernel
theorem dX6_over__6 : decode cX6_over_ 6 = .ok (.lconst 1, 1) := by decide +kernel
theorem dX6_over__7 : decode cX6_over_ 7 = .ok (.goto 4, 3) := by decide +kernel
theorem dX6_over__10 : decode cX6_over_ 10 = .ok (.lconst 0, 1) := by decide +kernel
theorem dX6_over__11 : decode cX6_over_ 11 = .ok (.lstore 4, 2) := by decide +kernel
theorem dX6_over__13 : decode cX6_over_ 13 = .ok (.bipush 40, 2) := by decide +kernel
theorem dX6_over__15 : decode cX6_over_ 15 = .ok (.iload_n 1, 1) := by decide +kernel
theorem dX6_over__16 : decode cX6_over_ 16 = .ok (.imul, 1) := by decide +kernel
theorem dX6_over__17 : decode cX6_over_ 17 = .ok (.istore 6, 2) := by decide +kernel
theorem dX6_over__19 : decode cX6_over_ 19 = .ok (.iload 6, 2) := by decide +kernel
theorem dX6_over__21 : decode cX6_over_ 21 = .ok (.aload_n 0, 1) := by decide +kernel
theorem dX6_over__22 : decode cX6_over_ 22 = .ok (.getfield 26, 3) := by decide +kernel
theorem dX6_over__25 : decode cX6_over_ 25 = .ok (.iload_n 1, 1) := by decide +kernel
theorem dX6_over__26 : decode cX6_over_ 26 = .ok (.iaload, 1) := by decide +kernel
theorem dX6_over__27 : decode cX6_over_ 27 = .ok (.iadd, 1) := by decide +kernel
theorem dX6_over__28 : decode cX6_over_ 28 = .ok (.istore 7, 2) := by decide +kernel
theorem dX6_over__30 : decode cX6_over_ 30 = .ok (.iload 6, 2) := by decide +kernel
theorem dX6_over__32 : decode cX6_over_ 32 = .ok (.iload 7, 2) := by decide +kernel
theorem dX6_over__34 : decode cX6_over_ 34 = .ok (.if_icmp .gt 124, 3) := by decide +kernel
theorem dX6_over__37 : decode cX6_over_ 37 = .ok (.iload 6, 2) := by decide +kernel
theorem dX6_over__39 : decode cX6_over_ 39 = .ok (.istore 8, 2) := by decide +kernel
theorem dX6_over__41 : decode cX6_over_ 41 = .ok (.iload 8, 2) := by decide +kernel
theorem dX6_over__43 : decode cX6_over_ 43 = .ok (.iload 7, 2) := by decide +kernel
theorem dX6_over__45 : decode cX6_over_ 45 = .ok (.if_icmp .ge 20, 3) := by decide +kernel
theorem dX6_over__48 : decode cX6_over_ 48 = .ok (.aload_n 0, 1) := by decide +kernel
theorem dX6_over__49 : decode cX6_over_ 49 = .ok (.getfield 29, 3) := by decide +kernel
theorem dX6_over__52 : decode cX6_over_ 52 = .ok (.iload 8, 2) := by decide +kernel
theorem dX6_over__54 : decode cX6_over_ 54 = .ok (.iaload, 1) := by decide +kernel
theorem dX6_over__55 : decode cX6_over_ 55 = .ok (.iconst 5, 1) := by decide +kernel
theorem dX6_over__56 : decode cX6_over_ 56 = .ok (.if_icmp .eq 9, 3) := by decide +kernel
theorem dX6_over__59 : decode cX6_over_ 59 = .ok (.iinc 8 1, 3) := by decide +kernel
theorem dX6_over__62 : decode cX6_over_ 62 = .ok (.goto (-21), 3) := by decide +kernel
theorem dX6_over__65 : decode cX6_over_ 65 = .ok (.iload_n 2, 1) := by decide +kernel
theorem dX6_over__66 : decode cX6_over_ 66 = .ok (.bipush 6, 2) := by decide +kernel
theorem dX6_over__68 : decode cX6_over_ 68 = .ok (.if_icmp .ne 26, 3) := by decide +kernel
theorem dX6_over__71 : decode cX6_over_ 71 = .ok (.ldc2_w 139, 3) := by decide +kernel
theorem dX6_over__74 : decode cX6_over_ 74 = .ok (.lload 4, 2) := by decide +kernel
theorem dX6_over__76 : decode cX6_over_ 76 = .ok (.aload_n 0, 1) := by decide +kernel
theorem dX6_over__77 : decode cX6_over_ 77 = .ok (.iload 6, 2) := by decide +kernel
theorem dX6_over__79 : decode cX6_over_ 79 = .ok (.iload 8, 2) := by decide +kernel
theorem dX6_over__81 : decode cX6_over_ 81 = .ok (.invokevirtual 141, 3) := by decide +kernel
theorem dX6_over__84 : decode cX6_over_ 84 = .ok (.i2l, 1) := by decide +kernel
theorem dX6_over__85 : decode cX6_over_ 85 = .ok (.lmul, 1) := by decide +kernel
theorem dX6_over__86 : decode cX6_over_ 86 = .ok (.invokestatic 144, 3) := by decide +kernel
theorem dX6_over__89 : decode cX6_over_ 89 = .ok (.lstore 4, 2) := by decide +kernel
theorem dX6_over__91 : decode cX6_over_ 91 = .ok (.goto 58, 3) := by decide +kernel
theorem dX6_over__94 : decode cX6_over_ 94 = .ok (.aload_n 0, 1) := by decide +kernel
theorem dX6_over__95 : decode cX6_over_ 95 = .ok (.iload 6, 2) := by decide +kernel
theorem dX6_over__97 : decode cX6_over_ 97 = .ok (.iload 8, 2) := by decide +kernel
theorem dX6_over__99 : decode cX6_over_ 99 = .ok (.invokevirtual 147, 3) := by decide +kernel
theorem dX6_over__102 : decode cX6_over_ 102 = .ok (.lload 4, 2) := by decide +kernel
theorem dX6_over__104 : decode cX6_over_ 104 = .ok (.iload_n 2, 1) := by decide +kernel
theorem dX6_over__105 : decode cX6_over_ 105 = .ok (.iconst 4, 1) := by decide +kernel
theorem dX6_over__106 : decode cX6_over_ 106 = .ok (.if_icmp .ne 13, 3) := by decide +kernel
theorem dX6_over__109 : decode cX6_over_ 109 = .ok (.aload_n 0, 1) := by decide +kernel
theorem dX6_over__110 : decode cX6_over_ 110 = .ok (.getfield 44, 3) := by decide +kernel
theorem dX6_over__113 : decode cX6_over_ 113 = .ok (.iconst 0, 1) := by decide +kernel
theorem dX6_over__114 : decode cX6_over_ 114 = .ok (.iaload, 1) := by decide +kernel
theorem dX6_over__115 : decode cX6_over_ 115 = .ok (.i2l, 1) := by decide +kernel
theorem dX6_over__116 : decode cX6_over_ 116 = .ok (.goto 10, 3) := by decide +kernel
theorem dX6_over__119 : decode cX6_over_ 119 = .ok (.aload_n 0, 1) := by decide +kernel
theorem dX6_over__120 : decode cX6_over_ 120 = .ok (.getfield 47, 3) := by decide +kernel
theorem dX6_over__123 : decode cX6_over_ 123 = .ok (.iconst 0, 1) := by decide +kernel
theorem dX6_over__124 : decode cX6_over_ 124 = .ok (.iaload, 1) := by decide +kernel
theorem dX6_over__125 : decode cX6_over_ 125 = .ok (.i2l, 1) := by decide +kernel
theorem dX6_over__126 : decode cX6_over_ 126 = .ok (.ladd, 1) := by decide +kernel
theorem dX6_over__127 : decode cX6_over_ 127 = .ok (.lstore 4, 2) := by decide +kernel
theorem dX6_over__129 : decode cX6_over_ 129 = .ok (.iload_n 3, 1) := by decide +kernel
theorem dX6_over__130 : decode cX6_over_ 130 = .ok (.ifCond .eq 19, 3) := by decide +kernel
theorem dX6_over__133 : decode cX6_over_ 133 = .ok (.aload_n 0, 1) := by decide +kernel
theorem dX6_over__134 : decode cX6_over_ 134 = .ok (.iload 8, 2) := by decide +kernel
theorem dX6_over__136 : decode cX6_over_ 136 = .ok (.iload 7, 2) := by decide +kernel
theorem dX6_over__138 : decode cX6_over_ 138 = .ok (.if_icmp .ge 7, 3) := by decide +kernel
theorem dX6_over__141 : decode cX6_over_ 141 = .ok (.iconst 1, 1) := by decide +kernel
theorem dX6_over__142 : decode cX6_over_ 142 = .ok (.goto 4, 3) := by decide +kernel
theorem dX6_over__145 : decode cX6_over_ 145 = .ok (.iconst 0, 1) := by decide +kernel
theorem dX6_over__146 : decode cX6_over_ 146 = .ok (.invokevirtual 150, 3) := by decide +kernel
theorem dX6_over__149 : decode cX6_over_ 149 = .ok (.iload 8, 2) := by decide +kernel
theorem dX6_over__151 : decode cX6_over_ 151 = .ok (.iconst 1, 1) := by decide +kernel
theorem dX6_over__152 : decode cX6_over_ 152 = .ok (.iadd, 1) := by decide +kernel
theorem dX6_over__153 : decode cX6_over_ 153 = .ok (.istore 6, 2) := by decide +kernel
theorem dX6_over__155 : decode cX6_over_ 155 = .ok (.goto (-125), 3) := by decide +kernel
theorem dX6_over__158 : decode cX6_over_ 158 = .ok (.lload 4, 2) := by decide +kernel
theorem dX6_over__160 : decode cX6_over_ 160 = .ok (.l2i, 1) := by decide +kernel
theorem dX6_over__161 : decode cX6_over_ 161 = .ok (.ireturn, 1) := by decide +kernel
theorem dX6_write_0 : decode cX6_write 0 = .ok (.iconst 0, 1) := by decide +kernel
theorem dX6_write_1 : decode cX6_write 1 = .ok (.istore_n 2, 1) := by decide +kernel
theorem dX6_write_2 : decode cX6_write 2 = .ok (.aload_n 0, 1) := by decide +kernel
theorem dX6_write_3 : decode cX6_write 3 = .ok (.getfield 47, 3) := by decide +kernel
theorem dX6_write_6 : decode cX6_write 6 = .ok (.iconst 0, 1) := by decide +kernel
theorem dX6_write_7 : decode cX6_write 7 = .ok (.iaload, 1) := by decide +kernel
theorem dX6_write_8 : decode cX6_write 8 = .ok (.istore_n 3, 1) := by decide +kernel
theorem dX6_write_9 : decode cX6_write 9 = .ok (.iload_n 3, 1) := by decide +kernel
theorem dX6_write_10 : decode cX6_write 10 = .ok (.ifCond .le 44, 3) := by decide +kernel
theorem dX6_write_13 : decode cX6_write 13 = .ok (.aload_n 0, 1) := by decide +kernel
theorem dX6_write_14 : decode cX6_write 14 = .ok (.getfield 41, 3) := by decide +kernel
theorem dX6_write_17 : decode cX6_write 17 = .ok (.aload_n 0, 1) := by decide +kernel
theorem dX6_write_18 : decode cX6_write 18 = .ok (.getfield 154, 3) := by decide +kernel
theorem dX6_write_21 : decode cX6_write 21 = .ok (.bipush 97, 2) := by decide +kernel
theorem dX6_write_23 : decode cX6_write 23 = .ok (.aload_n 0, 1) := by decide +kernel
theorem dX6_write_24 : decode cX6_write 24 = .ok (.getfield 50, 3) := by decide +kernel
theorem dX6_write_27 : decode cX6_write 27 = .ok (.iload_n 2, 1) := by decide +kernel
theorem dX6_write_28 : decode cX6_write 28 = .ok (.iaload, 1) := by decide +kernel
theorem dX6_write_29 : decode cX6_write 29 = .ok (.iadd, 1) := by decide +kernel
theorem dX6_write_30 : decode cX6_write 30 = .ok (.iastore, 1) := by decide +kernel
theorem dX6_write_31 : decode cX6_write 31 = .ok (.aload_n 0, 1) := by decide +kernel
theorem dX6_write_32 : decode cX6_write 32 = .ok (.dup, 1) := by decide +kernel
theorem dX6_write_33 : decode cX6_write 33 = .ok (.getfield 154, 3) := by decide +kernel
theorem dX6_write_36 : decode cX6_write 36 = .ok (.iconst 1, 1) := by decide +kernel
theorem dX6_write_37 : decode cX6_write 37 = .ok (.iadd, 1) := by decide +kernel
theorem dX6_write_38 : decode cX6_write 38 = .ok (.putfield 154, 3) := by decide +kernel
theorem dX6_write_41 : decode cX6_write 41 = .ok (.aload_n 0, 1) := by decide +kernel
theorem dX6_write_42 : decode cX6_write 42 = .ok (.getfield 53, 3) := by decide +kernel
theorem dX6_write_45 : decode cX6_write 45 = .ok (.iload_n 2, 1) := by decide +kernel
theorem dX6_write_46 : decode cX6_write 46 = .ok (.iaload, 1) := by decide +kernel
theorem dX6_write_47 : decode cX6_write 47 = .ok (.istore_n 2, 1) := by decide +kernel
theorem dX6_write_48 : decode cX6_write 48 = .ok (.iinc 3 (-1), 3) := by decide +kernel
theorem dX6_write_51 : decode cX6_write 51 = .ok (.goto (-42), 3) := by decide +kernel
theorem dX6_write_54 : decode cX6_write 54 = .ok (.iload_n 1, 1) := by decide +kernel
theorem dX6_write_55 : decode cX6_write 55 = .ok (.ifCond .ne 4, 3) := by decide +kernel
theorem dX6_write_58 : decode cX6_write 58 = .ok (.return_, 1) := by decide +kernel
theorem dX6_write_59 : decode cX6_write 59 = .ok (.aload_n 0, 1) := by decide +kernel
theorem dX6_write_60 : decode cX6_write 60 = .ok (.getfield 41, 3) := by decide +kernel
theorem dX6_write_63 : decode cX6_write 63 = .ok (.aload_n 0, 1) := by decide +kernel
theorem dX6_write_64 : decode cX6_write 64 = .ok (.getfield 154, 3) := by decide +kernel
theorem dX6_write_67 : decode cX6_write 67 = .ok (.bipush 32, 2) := by decide +kernel
theorem dX6_write_69 : decode cX6_write 69 = .ok (.iastore, 1) := by decide +kernel
theorem dX6_write_70 : decode cX6_write 70 = .ok (.aload_n 0, 1) := by decide +kernel
theorem dX6_write_71 : decode cX6_write 71 = .ok (.dup, 1) := by decide +kernel
theorem dX6_write_72 : decode cX6_write 72 = .ok (.getfield 154, 3) := by decide +kernel
theorem dX6_write_75 : decode cX6_write 75 = .ok (.iconst 1, 1) := by decide +kernel
theorem dX6_write_76 : decode cX6_write 76 = .ok (.iadd, 1) := by decide +kernel
theorem dX6_write_77 : decode cX6_write 77 = .ok (.putfield 154, 3) := by decide +kernel
theorem dX6_write_80 : decode cX6_write 80 = .ok (.return_, 1) := by decide +kernel
theorem dX6_cordTold_0 : decode cX6_cordTold 0 = .ok (.iload_n 2, 1) := by decide +kernel
theorem dX6_cordTold_1 : decode cX6_cordTold 1 = .ok (.iconst 3, 1) := by decide +kernel
theorem dX6_cordTold_2 : decode cX6_cordTold 2 = .ok (.if_icmp .le 11, 3) := by decide +kernel
theorem dX6_cordTold_5 : decode cX6_cordTold 5 = .ok (.aload_n 0, 1) := by decide +kernel
theorem dX6_cordTold_6 : decode cX6_cordTold 6 = .ok (.iload_n 1, 1) := by decide +kernel
theorem dX6_cordTold_7 : decode cX6_cordTold 7 = .ok (.iload_n 2, 1) := by decide +kernel
theorem dX6_cordTold_8 : decode cX6_cordTold 8 = .ok (.iconst 0, 1) := by decide +kernel
theorem dX6_cordTold_9 : decode cX6_cordTold 9 = .ok (.invokevirtual 157, 3) := by decide +kernel
theorem dX6_cordTold_12 : decode cX6_cordTold 12 = .ok (.ireturn, 1) := by decide +kernel
theorem dX6_cordTold_13 : decode cX6_cordTold 13 = .ok (.iconst 0, 1) := by decide +kernel
theorem dX6_cordTold_14 : decode cX6_cordTold 14 = .ok (.istore_n 3, 1) := by decide +kernel
theorem dX6_cordTold_15 : decode cX6_cordTold 15 = .ok (.iconst 0, 1) := by decide +kernel
theorem dX6_cordTold_16 : decode cX6_cordTold 16 = .ok (.istore 4, 2) := by decide +kernel
theorem dX6_cordTold_18 : decode cX6_cordTold 18 = .ok (.iload 4, 2) := by decide +kernel
theorem dX6_cordTold_20 : decode cX6_cordTold 20 = .ok (.aload_n 0, 1) := by decide +kernel
theorem dX6_cordTold_21 : decode cX6_cordTold 21 = .ok (.getfield 26, 3) := by decide +kernel
theorem dX6_cordTold_24 : decode cX6_cordTold 24 = .ok (.iload_n 1, 1) := by decide +kernel
theorem dX6_cordTold_25 : decode cX6_cordTold 25 = .ok (.iaload, 1) := by decide +kernel
theorem dX6_cordTold_26 : decode cX6_cordTold 26 = .ok (.if_icmp .ge 33, 3) := by decide +kernel
theorem dX6_cordTold_29 : decode cX6_cordTold 29 = .ok (.iload_n 3, 1) := by decide +kernel
theorem dX6_cordTold_30 : decode cX6_cordTold 30 = .ok (.aload_n 0, 1) := by decide +kernel
theorem dX6_cordTold_31 : decode cX6_cordTold 31 = .ok (.getfield 29, 3) := by decide +kernel
theorem dX6_cordTold_34 : decode cX6_cordTold 34 = .ok (.bipush 40, 2) := by decide +kernel
theorem dX6_cordTold_36 : decode cX6_cordTold 36 = .ok (.iload_n 1, 1) := by decide +kernel
theorem dX6_cordTold_37 : decode cX6_cordTold 37 = .ok (.imul, 1) := by decide +kernel
theorem dX6_cordTold_38 : decode cX6_cordTold 38 = .ok (.iload 4, 2) := by decide +kernel
theorem dX6_cordTold_40 : decode cX6_cordTold 40 = .ok (.iadd, 1) := by decide +kernel
theorem dX6_cordTold_41 : decode cX6_cordTold 41 = .ok (.iaload, 1) := by decide +kernel
theorem dX6_cordTold_42 : decode cX6_cordTold 42 = .ok (.iconst 5, 1) := by decide +kernel
theorem dX6_cordTold_43 : decode cX6_cordTold 43 = .ok (.if_icmp .ne 7, 3) := by decide +kernel
theorem dX6_cordTold_46 : decode cX6_cordTold 46 = .ok (.iconst 1, 1) := by decide +kernel
theorem dX6_cordTold_47 : decode cX6_cordTold 47 = .ok (.goto 4, 3) := by decide +kernel
theorem dX6_cordTold_50 : decode cX6_cordTold 50 = .ok (.iconst 0, 1) := by decide +kernel
theorem dX6_cordTold_51 : decode cX6_cordTold 51 = .ok (.iadd, 1) := by decide +kernel
theorem dX6_cordTold_52 : decode cX6_cordTold 52 = .ok (.istore_n 3, 1) := by decide +kernel
theorem dX6_cordTold_53 : decode cX6_cordTold 53 = .ok (.iinc 4 1, 3) := by decide +kernel
theorem dX6_cordTold_56 : decode cX6_cordTold 56 = .ok (.goto (-38), 3) := by decide +kernel
theorem dX6_cordTold_59 : decode cX6_cordTold 59 = .ok (.iload_n 2, 1) := by decide +kernel
theorem dX6_cordTold_60 : decode cX6_cordTold 60 = .ok (.ifCond .ne 12, 3) := by decide +kernel
theorem dX6_cordTold_63 : decode cX6_cordTold 63 = .ok (.aload_n 0, 1) := by decide +kernel
theorem dX6_cordTold_64 : decode cX6_cordTold 64 = .ok (.getfield 26, 3) := by decide +kernel
theorem dX6_cordTold_67 : decode cX6_cordTold 67 = .ok (.iload_n 1, 1) := by decide +kernel
theorem dX6_cordTold_68 : decode cX6_cordTold 68 = .ok (.iaload, 1) := by decide +kernel
theorem dX6_cordTold_69 : decode cX6_cordTold 69 = .ok (.goto 32, 3) := by decide +kernel
theorem dX6_cordTold_72 : decode cX6_cordTold 72 = .ok (.iload_n 2, 1) := by decide +kernel
theorem dX6_cordTold_73 : decode cX6_cordTold 73 = .ok (.iconst 1, 1) := by decide +kernel
theorem dX6_cordTold_74 : decode cX6_cordTold 74 = .ok (.if_icmp .ne 7, 3) := by decide +kernel
theorem dX6_cordTold_77 : decode cX6_cordTold 77 = .ok (.iload_n 3, 1) := by decide +kernel
theorem dX6_cordTold_78 : decode cX6_cordTold 78 = .ok (.goto 23, 3) := by decide +kernel
theorem dX6_cordTold_81 : decode cX6_cordTold 81 = .ok (.iload_n 2, 1) := by decide +kernel
theorem dX6_cordTold_82 : decode cX6_cordTold 82 = .ok (.iconst 2, 1) := by decide +kernel
theorem dX6_cordTold_83 : decode cX6_cordTold 83 = .ok (.if_icmp .ne 12, 3) := by decide +kernel
theorem dX6_cordTold_86 : decode cX6_cordTold 86 = .ok (.aload_n 0, 1) := by decide +kernel
theorem dX6_cordTold_87 : decode cX6_cordTold 87 = .ok (.getfield 32, 3) := by decide +kernel
theorem dX6_cordTold_90 : decode cX6_cordTold 90 = .ok (.iload_n 1, 1) := by decide +kernel
theorem dX6_cordTold_91 : decode cX6_cordTold 91 = .ok (.iaload, 1) := by decide +kernel
theorem dX6_cordTold_92 : decode cX6_cordTold 92 = .ok (.goto 9, 3) := by decide +kernel
theorem dX6_cordTold_95 : decode cX6_cordTold 95 = .ok (.aload_n 0, 1) := by decide +kernel
theorem dX6_cordTold_96 : decode cX6_cordTold 96 = .ok (.getfield 35, 3) := by decide +kernel
theorem dX6_cordTold_99 : decode cX6_cordTold 99 = .ok (.iload_n 1, 1) := by decide +kernel
theorem dX6_cordTold_100 : decode cX6_cordTold 100 = .ok (.iaload, 1) := by decide +kernel
theorem dX6_cordTold_101 : decode cX6_cordTold 101 = .ok (.ireturn, 1) := by decide +kernel
theorem dX6_cord_0 : decode cX6_cord 0 = .ok (.aload_n 0, 1) := by decide +kernel
theorem dX6_cord_1 : decode cX6_cord 1 = .ok (.iconst 0, 1) := by decide +kernel
theorem dX6_cord_2 : decode cX6_cord 2 = .ok (.putfield 59, 3) := by decide +kernel
theorem dX6_cord_5 : decode cX6_cord 5 = .ok (.aload_n 0, 1) := by decide +kernel
theorem dX6_cord_6 : decode cX6_cord 6 = .ok (.iload_n 1, 1) := by decide +kernel
theorem dX6_cord_7 : decode cX6_cord 7 = .ok (.invokevirtual 160, 3) := by decide +kernel
theorem dX6_cord_10 : decode cX6_cord 10 = .ok (.ifCond .eq 22, 3) := by decide +kernel
theorem dX6_cord_13 : decode cX6_cord 13 = .ok (.iload_n 2, 1) := by decide +kernel
theorem dX6_cord_14 : decode cX6_cord 14 = .ok (.iconst 0, 1) := by decide +kernel
theorem dX6_cord_15 : decode cX6_cord 15 = .ok (.bipush 6, 2) := by decide +kernel
theorem dX6_cord_17 : decode cX6_cord 17 = .ok (.invokestatic 66, 3) := by decide +kernel
theorem dX6_cord_20 : decode cX6_cord 20 = .ok (.ifCond .eq 12, 3) := by decide +kernel
theorem dX6_cord_23 : decode cX6_cord 23 = .ok (.aload_n 0, 1) := by decide +kernel
theorem dX6_cord_24 : decode cX6_cord 24 = .ok (.iload_n 1, 1) := by decide +kernel
theorem dX6_cord_25 : decode cX6_cord 25 = .ok (.iload_n 2, 1) := by decide +kernel
theorem dX6_cord_26 : decode cX6_cord 26 = .ok (.invokevirtual 163, 3) := by decide +kernel
theorem dX6_cord_29 : decode cX6_cord 29 = .ok (.goto 8, 3) := by decide +kernel
theorem dX6_cord_32 : decode cX6_cord 32 = .ok (.aload_n 0, 1) := by decide +kernel
theorem dX6_cord_33 : decode cX6_cord 33 = .ok (.iconst 1, 1) := by decide +kernel
theorem dX6_cord_34 : decode cX6_cord 34 = .ok (.invokevirtual 70, 3) := by decide +kernel
theorem dX6_cord_37 : decode cX6_cord 37 = .ok (.ireturn, 1) := by decide +kernel
theorem dX6_knot_0 : decode cX6_knot 0 = .ok (.aload_n 0, 1) := by decide +kernel
theorem dX6_knot_1 : decode cX6_knot 1 = .ok (.iconst 0, 1) := by decide +kernel
theorem dX6_knot_2 : decode cX6_knot 2 = .ok (.putfield 59, 3) := by decide +kernel
theorem dX6_knot_5 : decode cX6_knot 5 = .ok (.aload_n 0, 1) := by decide +kernel
theorem dX6_knot_6 : decode cX6_knot 6 = .ok (.iload_n 1, 1) := by decide +kernel
theorem dX6_knot_7 : decode cX6_knot 7 = .ok (.invokevirtual 160, 3) := by decide +kernel
theorem dX6_knot_10 : decode cX6_knot 10 = .ok (.ifCond .eq 33, 3) := by decide +kernel
theorem dX6_knot_13 : decode cX6_knot 13 = .ok (.iload_n 2, 1) := by decide +kernel
theorem dX6_knot_14 : decode cX6_knot 14 = .ok (.iconst 0, 1) := by decide +kernel
theorem dX6_knot_15 : decode cX6_knot 15 = .ok (.aload_n 0, 1) := by decide +kernel
theorem dX6_knot_16 : decode cX6_knot 16 = .ok (.getfield 26, 3) := by decide +kernel
theorem dX6_knot_19 : decode cX6_knot 19 = .ok (.iload_n 1, 1) := by decide +kernel
theorem dX6_knot_20 : decode cX6_knot 20 = .ok (.iaload, 1) := by decide +kernel
theorem dX6_knot_21 : decode cX6_knot 21 = .ok (.iconst 1, 1) := by decide +kernel
theorem dX6_knot_22 : decode cX6_knot 22 = .ok (.isub, 1) := by decide +kernel
theorem dX6_knot_23 : decode cX6_knot 23 = .ok (.invokestatic 66, 3) := by decide +kernel
theorem dX6_knot_26 : decode cX6_knot 26 = .ok (.ifCond .eq 17, 3) := by decide +kernel
theorem dX6_knot_29 : decode cX6_knot 29 = .ok (.aload_n 0, 1) := by decide +kernel
theorem dX6_knot_30 : decode cX6_knot 30 = .ok (.getfield 29, 3) := by decide +kernel
theorem dX6_knot_33 : decode cX6_knot 33 = .ok (.bipush 40, 2) := by decide +kernel
theorem dX6_knot_35 : decode cX6_knot 35 = .ok (.iload_n 1, 1) := by decide +kernel
theorem dX6_knot_36 : decode cX6_knot 36 = .ok (.imul, 1) := by decide +kernel
theorem dX6_knot_37 : decode cX6_knot 37 = .ok (.iload_n 2, 1) := by decide +kernel
theorem dX6_knot_38 : decode cX6_knot 38 = .ok (.iadd, 1) := by decide +kernel
theorem dX6_knot_39 : decode cX6_knot 39 = .ok (.iaload, 1) := by decide +kernel
theorem dX6_knot_40 : decode cX6_knot 40 = .ok (.goto 8, 3) := by decide +kernel
theorem dX6_knot_43 : decode cX6_knot 43 = .ok (.aload_n 0, 1) := by decide +kernel
theorem dX6_knot_44 : decode cX6_knot 44 = .ok (.iconst 1, 1) := by decide +kernel
theorem dX6_knot_45 : decode cX6_knot 45 = .ok (.invokevirtual 70, 3) := by decide +kernel
theorem dX6_knot_48 : decode cX6_knot 48 = .ok (.ireturn, 1) := by decide +kernel
theorem dX6_retie_0 : decode cX6_retie 0 = .ok (.aload_n 0, 1) := by decide +kernel
theorem dX6_retie_1 : decode cX6_retie 1 = .ok (.iconst 0, 1) := by decide +kernel
theorem dX6_retie_2 : decode cX6_retie 2 = .ok (.putfield 59, 3) := by decide +kernel
theorem dX6_retie_5 : decode cX6_retie 5 = .ok (.aload_n 0, 1) := by decide +kernel
theorem dX6_retie_6 : decode cX6_retie 6 = .ok (.iload_n 1, 1) := by decide +kernel
theorem dX6_retie_7 : decode cX6_retie 7 = .ok (.invokevirtual 160, 3) := by decide +kernel
theorem dX6_retie_10 : decode cX6_retie 10 = .ok (.ifCond .eq 19, 3) := by decide +kernel
theorem dX6_retie_13 : decode cX6_retie 13 = .ok (.iload_n 2, 1) := by decide +kernel
theorem dX6_retie_14 : decode cX6_retie 14 = .ok (.iconst 0, 1) := by decide +kernel
theorem dX6_retie_15 : decode cX6_retie 15 = .ok (.aload_n 0, 1) := by decide +kernel
theorem dX6_retie_16 : decode cX6_retie 16 = .ok (.getfield 26, 3) := by decide +kernel
theorem dX6_retie_19 : decode cX6_retie 19 = .ok (.iload_n 1, 1) := by decide +kernel
theorem dX6_retie_20 : decode cX6_retie 20 = .ok (.iaload, 1) := by decide +kernel
theorem dX6_retie_21 : decode cX6_retie 21 = .ok (.iconst 1, 1) := by decide +kernel
theorem dX6_retie_22 : decode cX6_retie 22 = .ok (.isub, 1) := by decide +kernel
theorem dX6_retie_23 : decode cX6_retie 23 = .ok (.invokestatic 66, 3) := by decide +kernel
theorem dX6_retie_26 : decode cX6_retie 26 = .ok (.ifCond .ne 9, 3) := by decide +kernel
theorem dX6_retie_29 : decode cX6_retie 29 = .ok (.aload_n 0, 1) := by decide +kernel
theorem dX6_retie_30 : decode cX6_retie 30 = .ok (.iconst 1, 1) := by decide +kernel
theorem dX6_retie_31 : decode cX6_retie 31 = .ok (.invokevirtual 70, 3) := by decide +kernel
theorem dX6_retie_34 : decode cX6_retie 34 = .ok (.ireturn, 1) := by decide +kernel
theorem dX6_retie_35 : decode cX6_retie 35 = .ok (.iload_n 3, 1) := by decide +kernel
theorem dX6_retie_36 : decode cX6_retie 36 = .ok (.iconst 1, 1) := by decide +kernel
theorem dX6_retie_37 : decode cX6_retie 37 = .ok (.iconst 4, 1) := by decide +kernel
theorem dX6_retie_38 : decode cX6_retie 38 = .ok (.invokestatic 66, 3) := by decide +kernel
theorem dX6_retie_41 : decode cX6_retie 41 = .ok (.ifCond .ne 9, 3) := by decide +kernel
theorem dX6_retie_44 : decode cX6_retie 44 = .ok (.aload_n 0, 1) := by decide +kernel
theorem dX6_retie_45 : decode cX6_retie 45 = .ok (.iconst 2, 1) := by decide +kernel
theorem dX6_retie_46 : decode cX6_retie 46 = .ok (.invokevirtual 70, 3) := by decide +kernel
theorem dX6_retie_49 : decode cX6_retie 49 = .ok (.ireturn, 1) := by decide +kernel
theorem dX6_retie_50 : decode cX6_retie 50 = .ok (.aload_n 0, 1) := by decide +kernel
theorem dX6_retie_51 : decode cX6_retie 51 = .ok (.getfield 29, 3) := by decide +kernel
theorem dX6_retie_54 : decode cX6_retie 54 = .ok (.bipush 40, 2) := by decide +kernel
theorem dX6_retie_56 : decode cX6_retie 56 = .ok (.iload_n 1, 1) := by decide +kernel
theorem dX6_retie_57 : decode cX6_retie 57 = .ok (.imul, 1) := by decide +kernel
theorem dX6_retie_58 : decode cX6_retie 58 = .ok (.iload_n 2, 1) := by decide +kernel
theorem dX6_retie_59 : decode cX6_retie 59 = .ok (.iadd, 1) := by decide +kernel
theorem dX6_retie_60 : decode cX6_retie 60 = .ok (.iaload, 1) := by decide +kernel
theorem dX6_retie_61 : decode cX6_retie 61 = .ok (.istore 4, 2) := by decide +kernel
theorem dX6_retie_63 : decode cX6_retie 63 = .ok (.iload 4, 2) := by decide +kernel
theorem dX6_retie_65 : decode cX6_retie 65 = .ok (.iconst 5, 1) := by decide +kernel
theorem dX6_retie_66 : decode cX6_retie 66 = .ok (.if_icmp .ne 9, 3) := by decide +kernel
theorem dX6_retie_69 : decode cX6_retie 69 = .ok (.aload_n 0, 1) := by decide +kernel
theorem dX6_retie_70 : decode cX6_retie 70 = .ok (.iconst 3, 1) := by decide +kernel
theorem dX6_retie_71 : decode cX6_retie 71 = .ok (.invokevirtual 70, 3) := by decide +kernel
theorem dX6_retie_74 : decode cX6_retie 74 = .ok (.ireturn, 1) := by decide +kernel
theorem dX6_retie_75 : decode cX6_retie 75 = .ok (.aload_n 0, 1) := by decide +kernel
theorem dX6_retie_76 : decode cX6_retie 76 = .ok (.getfield 29, 3) := by decide +kernel
theorem dX6_retie_79 : decode cX6_retie 79 = .ok (.bipush 40, 2) := by decide +kernel
theorem dX6_retie_81 : decode cX6_retie 81 = .ok (.iload_n 1, 1) := by decide +kernel
theorem dX6_retie_82 : decode cX6_retie 82 = .ok (.imul, 1) := by decide +kernel
theorem dX6_retie_83 : decode cX6_retie 83 = .ok (.iload_n 2, 1) := by decide +kernel
theorem dX6_retie_84 : decode cX6_retie 84 = .ok (.iadd, 1) := by decide +kernel
theorem dX6_retie_85 : decode cX6_retie 85 = .ok (.iload_n 3, 1) := by decide +kernel
theorem dX6_retie_86 : decode cX6_retie 86 = .ok (.iastore, 1) := by decide +kernel
theorem dX6_retie_87 : decode cX6_retie 87 = .ok (.iload 4, 2) := by decide +kernel
theorem dX6_retie_89 : decode cX6_retie 89 = .ok (.ireturn, 1) := by decide +kernel
theorem dX6_between_0 : decode cX6_between 0 = .ok (.aload_n 0, 1) := by decide +kernel
theorem dX6_between_1 : decode cX6_between 1 = .ok (.getfield 26, 3) := by decide +kernel
theorem dX6_between_4 : decode cX6_between 4 = .ok (.iload_n 2, 1) := by decide +kernel
theorem dX6_between_5 : decode cX6_between 5 = .ok (.iaload, 1) := by decide +kernel
theorem dX6_between_6 : decode cX6_between 6 = .ok (.iconst 1, 1) := by decide +kernel
theorem dX6_between_7 : decode cX6_between 7 = .ok (.iadd, 1) := by decide +kernel
theorem dX6_between_8 : decode cX6_between 8 = .ok (.istore_n 3, 1) := by decide +kernel
theorem dX6_between_9 : decode cX6_between 9 = .ok (.aload_n 0, 1) := by decide +kernel
theorem dX6_between_10 : decode cX6_between 10 = .ok (.getfield 26, 3) := by decide +kernel
theorem dX6_between_13 : decode cX6_between 13 = .ok (.iload_n 1, 1) := by decide +kernel
theorem dX6_between_14 : decode cX6_between 14 = .ok (.iaload, 1) := by decide +kernel
theorem dX6_between_15 : decode cX6_between 15 = .ok (.iconst 1, 1) := by decide +kernel
theorem dX6_between_16 : decode cX6_between 16 = .ok (.iadd, 1) := by decide +kernel
theorem dX6_between_17 : decode cX6_between 17 = .ok (.iload_n 3, 1) := by decide +kernel
theorem dX6_between_18 : decode cX6_between 18 = .ok (.imul, 1) := by decide +kernel
theorem dX6_between_19 : decode cX6_between 19 = .ok (.newarray .int, 2) := by decide +kernel
theorem dX6_between_21 : decode cX6_between 21 = .ok (.astore 4, 2) := by decide +kernel
theorem dX6_between_23 : decode cX6_between 23 = .ok (.iconst 0, 1) := by decide +kernel
theorem dX6_between_24 : decode cX6_between 24 = .ok (.istore 5, 2) := by decide +kernel
theorem dX6_between_26 : decode cX6_between 26 = .ok (.iload 5, 2) := by decide +kernel
theorem dX6_between_28 : decode cX6_between 28 = .ok (.aload_n 0, 1) := by decide +kernel
theorem dX6_between_29 : decode cX6_between 29 = .ok (.getfield 26, 3) := by decide +kernel
theorem dX6_between_32 : decode cX6_between 32 = .ok (.iload_n 1, 1) := by decide +kernel
theorem dX6_between_33 : decode cX6_between 33 = .ok (.iaload, 1) := by decide +kernel
theorem dX6_between_34 : decode cX6_between 34 = .ok (.if_icmp .gt 263, 3) := by decide +kernel
theorem dX6_between_37 : decode cX6_between 37 = .ok (.iconst 0, 1) := by decide +kernel
theorem dX6_between_38 : decode cX6_between 38 = .ok (.istore 6, 2) := by decide +kernel
theorem dX6_between_40 : decode cX6_between 40 = .ok (.iload 6, 2) := by decide +kernel
theorem dX6_between_42 : decode cX6_between 42 = .ok (.iload_n 3, 1) := by decide +kernel
theorem dX6_between_43 : decode cX6_between 43 = .ok (.if_icmp .ge 248, 3) := by decide +kernel
theorem dX6_between_46 : decode cX6_between 46 = .ok (.iload 5, 2) := by decide +kernel
theorem dX6_between_48 : decode cX6_between 48 = .ok (.ifCond .ne 7, 3) := by decide +kernel
theorem dX6_between_51 : decode cX6_between 51 = .ok (.iconst 0, 1) := by decide +kernel
theorem dX6_between_52 : decode cX6_between 52 = .ok (.goto 17, 3) := by decide +kernel
theorem dX6_between_55 : decode cX6_between 55 = .ok (.aload_n 0, 1) := by decide +kernel
theorem dX6_between_56 : decode cX6_between 56 = .ok (.getfield 29, 3) := by decide +kernel
theorem dX6_between_59 : decode cX6_between 59 = .ok (.bipush 40, 2) := by decide +kernel
theorem dX6_between_61 : decode cX6_between 61 = .ok (.iload_n 1, 1) := by decide +kernel
theorem dX6_between_62 : decode cX6_between 62 = .ok (.imul, 1) := by decide +kernel
theorem dX6_between_63 : decode cX6_between 63 = .ok (.iload 5, 2) := by decide +kernel
theorem dX6_between_65 : decode cX6_between 65 = .ok (.iadd, 1) := by decide +kernel
theorem dX6_between_66 : decode cX6_between 66 = .ok (.iconst 1, 1) := by decide +kernel
theorem dX6_between_67 : decode cX6_between 67 = .ok (.isub, 1) := by decide +kernel
theorem dX6_between_68 : decode cX6_between 68 = .ok (.iaload, 1) := by decide +kernel
theorem dX6_between_69 : decode cX6_between 69 = .ok (.istore 7, 2) := by decide +kernel
theorem dX6_between_71 : decode cX6_between 71 = .ok (.iload 6, 2) := by decide +kernel
theorem dX6_between_73 : decode cX6_between 73 = .ok (.ifCond .ne 7, 3) := by decide +kernel
theorem dX6_between_76 : decode cX6_between 76 = .ok (.iconst 0, 1) := by decide +kernel
theorem dX6_between_77 : decode cX6_between 77 = .ok (.goto 17, 3) := by decide +kernel
theorem dX6_between_80 : decode cX6_between 80 = .ok (.aload_n 0, 1) := by decide +kernel
theorem dX6_between_81 : decode cX6_between 81 = .ok (.getfield 29, 3) := by decide +kernel
theorem dX6_between_84 : decode cX6_between 84 = .ok (.bipush 40, 2) := by decide +kernel
theorem dX6_between_86 : decode cX6_between 86 = .ok (.iload_n 2, 1) := by decide +kernel
theorem dX6_between_87 : decode cX6_between 87 = .ok (.imul, 1) := by decide +kernel
theorem dX6_between_88 : decode cX6_between 88 = .ok (.iload 6, 2) := by decide +kernel
theorem dX6_between_90 : decode cX6_between 90 = .ok (.iadd, 1) := by decide +kernel
theorem dX6_between_91 : decode cX6_between 91 = .ok (.iconst 1, 1) := by decide +kernel
theorem dX6_between_92 : decode cX6_between 92 = .ok (.isub, 1) := by decide +kernel
theorem dX6_between_93 : decode cX6_between 93 = .ok (.iaload, 1) := by decide +kernel
theorem dX6_between_94 : decode cX6_between 94 = .ok (.istore 8, 2) := by decide +kernel
theorem dX6_between_96 : decode cX6_between 96 = .ok (.iload 5, 2) := by decide +kernel
theorem dX6_between_98 : decode cX6_between 98 = .ok (.ifCond .ne 12, 3) := by decide +kernel
theorem dX6_between_101 : decode cX6_between 101 = .ok (.iload 6, 2) := by decide +kernel
theorem dX6_between_103 : decode cX6_between 103 = .ok (.ifCond .ne 7, 3) := by decide +kernel
theorem dX6_between_106 : decode cX6_between 106 = .ok (.iconst 0, 1) := by decide +kernel
theorem dX6_between_107 : decode cX6_between 107 = .ok (.goto 5, 3) := by decide +kernel
theorem dX6_between_110 : decode cX6_between 110 = .ok (.ldc 97, 2) := by decide +kernel
theorem dX6_between_112 : decode cX6_between 112 = .ok (.istore 9, 2) := by decide +kernel
theorem dX6_between_114 : decode cX6_between 114 = .ok (.iload 5, 2) := by decide +kernel
theorem dX6_between_116 : decode cX6_between 116 = .ok (.ifCond .le 38, 3) := by decide +kernel
theorem dX6_between_119 : decode cX6_between 119 = .ok (.iload 9, 2) := by decide +kernel
theorem dX6_between_121 : decode cX6_between 121 = .ok (.aload 4, 2) := by decide +kernel
theorem dX6_between_123 : decode cX6_between 123 = .ok (.iload 5, 2) := by decide +kernel
theorem dX6_between_125 : decode cX6_between 125 = .ok (.iconst 1, 1) := by decide +kernel
theorem dX6_between_126 : decode cX6_between 126 = .ok (.isub, 1) := by decide +kernel
theorem dX6_between_127 : decode cX6_between 127 = .ok (.iload_n 3, 1) := by decide +kernel
theorem dX6_between_128 : decode cX6_between 128 = .ok (.imul, 1) := by decide +kernel
theorem dX6_between_129 : decode cX6_between 129 = .ok (.iload 6, 2) := by decide +kernel
theorem dX6_between_131 : decode cX6_between 131 = .ok (.iadd, 1) := by decide +kernel
theorem dX6_between_132 : decode cX6_between 132 = .ok (.iaload, 1) := by decide +kernel
theorem dX6_between_133 : decode cX6_between 133 = .ok (.iload 7, 2) := by decide +kernel
theorem dX6_between_135 : decode cX6_between 135 = .ok (.iconst 5, 1) := by decide +kernel
theorem dX6_between_136 : decode cX6_between 136 = .ok (.if_icmp .ne 8, 3) := by decide +kernel
theorem dX6_between_139 : decode cX6_between 139 = .ok (.bipush 9, 2) := by decide +kernel
theorem dX6_between_141 : decode cX6_between 141 = .ok (.goto 7, 3) := by decide +kernel
theorem dX6_between_144 : decode cX6_between 144 = .ok (.aload_n 0, 1) := by decide +kernel
theorem dX6_between_145 : decode cX6_between 145 = .ok (.getfield 19, 3) := by decide +kernel
theorem dX6_between_148 : decode cX6_between 148 = .ok (.iadd, 1) := by decide +kernel
theorem dX6_between_149 : decode cX6_between 149 = .ok (.invokestatic 85, 3) := by decide +kernel
theorem dX6_between_152 : decode cX6_between 152 = .ok (.istore 9, 2) := by decide +kernel
theorem dX6_between_154 : decode cX6_between 154 = .ok (.iload 6, 2) := by decide +kernel
theorem dX6_between_156 : decode cX6_between 156 = .ok (.ifCond .le 38, 3) := by decide +kernel
theorem dX6_between_159 : decode cX6_between 159 = .ok (.iload 9, 2) := by decide +kernel
theorem dX6_between_161 : decode cX6_between 161 = .ok (.aload 4, 2) := by decide +kernel
theorem dX6_between_163 : decode cX6_between 163 = .ok (.iload 5, 2) := by decide +kernel
theorem dX6_between_165 : decode cX6_between 165 = .ok (.iload_n 3, 1) := by decide +kernel
theorem dX6_between_166 : decode cX6_between 166 = .ok (.imul, 1) := by decide +kernel
theorem dX6_between_167 : decode cX6_between 167 = .ok (.iload 6, 2) := by decide +kernel
theorem dX6_between_169 : decode cX6_between 169 = .ok (.iadd, 1) := by decide +kernel
theorem dX6_between_170 : decode cX6_between 170 = .ok (.iconst 1, 1) := by decide +kernel
theorem dX6_between_171 : decode cX6_between 171 = .ok (.isub, 1) := by decide +kernel
theorem dX6_between_172 : decode cX6_between 172 = .ok (.iaload, 1) := by decide +kernel
theorem dX6_between_173 : decode cX6_between 173 = .ok (.iload 8, 2) := by decide +kernel
theorem dX6_between_175 : decode cX6_between 175 = .ok (.iconst 5, 1) := by decide +kernel
theorem dX6_between_176 : decode cX6_between 176 = .ok (.if_icmp .ne 8, 3) := by decide +kernel
theorem dX6_between_179 : decode cX6_between 179 = .ok (.bipush 9, 2) := by decide +kernel
theorem dX6_between_181 : decode cX6_between 181 = .ok (.goto 7, 3) := by decide +kernel
theorem dX6_between_184 : decode cX6_between 184 = .ok (.aload_n 0, 1) := by decide +kernel
theorem dX6_between_185 : decode cX6_between 185 = .ok (.getfield 23, 3) := by decide +kernel
theorem dX6_between_188 : decode cX6_between 188 = .ok (.iadd, 1) := by decide +kernel
theorem dX6_between_189 : decode cX6_between 189 = .ok (.invokestatic 85, 3) := by decide +kernel
theorem dX6_between_192 : decode cX6_between 192 = .ok (.istore 9, 2) := by decide +kernel
theorem dX6_between_194 : decode cX6_between 194 = .ok (.iload 5, 2) := by decide +kernel
theorem dX6_between_196 : decode cX6_between 196 = .ok (.ifCond .le 77, 3) := by decide +kernel
theorem dX6_between_199 : decode cX6_between 199 = .ok (.iload 6, 2) := by decide +kernel
theorem dX6_between_201 : decode cX6_between 201 = .ok (.ifCond .le 72, 3) := by decide +kernel
theorem dX6_between_204 : decode cX6_between 204 = .ok (.iload 7, 2) := by decide +kernel
theorem dX6_between_206 : decode cX6_between 206 = .ok (.iconst 5, 1) := by decide +kernel
theorem dX6_between_207 : decode cX6_between 207 = .ok (.if_icmp .ne 7, 3) := by decide +kernel
theorem dX6_between_210 : decode cX6_between 210 = .ok (.iconst 1, 1) := by decide +kernel
theorem dX6_between_211 : decode cX6_between 211 = .ok (.goto 4, 3) := by decide +kernel
theorem dX6_between_214 : decode cX6_between 214 = .ok (.iconst 0, 1) := by decide +kernel
theorem dX6_between_215 : decode cX6_between 215 = .ok (.iload 8, 2) := by decide +kernel
theorem dX6_between_217 : decode cX6_between 217 = .ok (.iconst 5, 1) := by decide +kernel
theorem dX6_between_218 : decode cX6_between 218 = .ok (.if_icmp .ne 7, 3) := by decide +kernel
theorem dX6_between_221 : decode cX6_between 221 = .ok (.iconst 1, 1) := by decide +kernel
theorem dX6_between_222 : decode cX6_between 222 = .ok (.goto 4, 3) := by decide +kernel
theorem dX6_between_225 : decode cX6_between 225 = .ok (.iconst 0, 1) := by decide +kernel
theorem dX6_between_226 : decode cX6_between 226 = .ok (.if_icmp .ne 47, 3) := by decide +kernel
theorem dX6_between_229 : decode cX6_between 229 = .ok (.iload 9, 2) := by decide +kernel
theorem dX6_between_231 : decode cX6_between 231 = .ok (.aload 4, 2) := by decide +kernel
theorem dX6_between_233 : decode cX6_between 233 = .ok (.iload 5, 2) := by decide +kernel
theorem dX6_between_235 : decode cX6_between 235 = .ok (.iconst 1, 1) := by decide +kernel
theorem dX6_between_236 : decode cX6_between 236 = .ok (.isub, 1) := by decide +kernel
theorem dX6_between_237 : decode cX6_between 237 = .ok (.iload_n 3, 1) := by decide +kernel
theorem dX6_between_238 : decode cX6_between 238 = .ok (.imul, 1) := by decide +kernel
theorem dX6_between_239 : decode cX6_between 239 = .ok (.iload 6, 2) := by decide +kernel
theorem dX6_between_241 : decode cX6_between 241 = .ok (.iadd, 1) := by decide +kernel
theorem dX6_between_242 : decode cX6_between 242 = .ok (.iconst 1, 1) := by decide +kernel
theorem dX6_between_243 : decode cX6_between 243 = .ok (.isub, 1) := by decide +kernel
theorem dX6_between_244 : decode cX6_between 244 = .ok (.iaload, 1) := by decide +kernel
theorem dX6_between_245 : decode cX6_between 245 = .ok (.iload 7, 2) := by decide +kernel
theorem dX6_between_247 : decode cX6_between 247 = .ok (.iconst 5, 1) := by decide +kernel
theorem dX6_between_248 : decode cX6_between 248 = .ok (.if_icmp .ne 7, 3) := by decide +kernel
theorem dX6_between_251 : decode cX6_between 251 = .ok (.iconst 0, 1) := by decide +kernel
theorem dX6_between_252 : decode cX6_between 252 = .ok (.goto 15, 3) := by decide +kernel
theorem dX6_between_255 : decode cX6_between 255 = .ok (.aload_n 0, 1) := by decide +kernel
theorem dX6_between_256 : decode cX6_between 256 = .ok (.getfield 16, 3) := by decide +kernel
theorem dX6_between_259 : decode cX6_between 259 = .ok (.iconst 5, 1) := by decide +kernel
theorem dX6_between_260 : decode cX6_between 260 = .ok (.iload 7, 2) := by decide +kernel
theorem dX6_between_262 : decode cX6_between 262 = .ok (.imul, 1) := by decide +kernel
theorem dX6_between_263 : decode cX6_between 263 = .ok (.iload 8, 2) := by decide +kernel
theorem dX6_between_265 : decode cX6_between 265 = .ok (.iadd, 1) := by decide +kernel
theorem dX6_between_266 : decode cX6_between 266 = .ok (.iaload, 1) := by decide +kernel
theorem dX6_between_267 : decode cX6_between 267 = .ok (.iadd, 1) := by decide +kernel
theorem dX6_between_268 : decode cX6_between 268 = .ok (.invokestatic 85, 3) := by decide +kernel
theorem dX6_between_271 : decode cX6_between 271 = .ok (.istore 9, 2) := by decide +kernel
theorem dX6_between_273 : decode cX6_between 273 = .ok (.aload 4, 2) := by decide +kernel
theorem dX6_between_275 : decode cX6_between 275 = .ok (.iload 5, 2) := by decide +kernel
theorem dX6_between_277 : decode cX6_between 277 = .ok (.iload_n 3, 1) := by decide +kernel
theorem dX6_between_278 : decode cX6_between 278 = .ok (.imul, 1) := by decide +kernel
theorem dX6_between_279 : decode cX6_between 279 = .ok (.iload 6, 2) := by decide +kernel
theorem dX6_between_281 : decode cX6_between 281 = .ok (.iadd, 1) := by decide +kernel
theorem dX6_between_282 : decode cX6_between 282 = .ok (.iload 9, 2) := by decide +kernel
theorem dX6_between_284 : decode cX6_between 284 = .ok (.iastore, 1) := by decide +kernel
theorem dX6_between_285 : decode cX6_between 285 = .ok (.iinc 6 1, 3) := by decide +kernel
theorem dX6_between_288 : decode cX6_between 288 = .ok (.goto (-248), 3) := by decide +kernel
theorem dX6_between_291 : decode cX6_between 291 = .ok (.iinc 5 1, 3) := by decide +kernel
theorem dX6_between_294 : decode cX6_between 294 = .ok (.goto (-268), 3) := by decide +kernel
theorem dX6_between_297 : decode cX6_between 297 = .ok (.aload 4, 2) := by decide +kernel
theorem dX6_between_299 : decode cX6_between 299 = .ok (.aload_n 0, 1) := by decide +kernel
theorem dX6_between_300 : decode cX6_between 300 = .ok (.getfield 26, 3) := by decide +kernel
theorem dX6_between_303 : decode cX6_between 303 = .ok (.iload_n 1, 1) := by decide +kernel
theorem dX6_between_304 : decode cX6_between 304 = .ok (.iaload, 1) := by decide +kernel
theorem dX6_between_305 : decode cX6_between 305 = .ok (.iload_n 3, 1) := by decide +kernel
theorem dX6_between_306 : decode cX6_between 306 = .ok (.imul, 1) := by decide +kernel
theorem dX6_between_307 : decode cX6_between 307 = .ok (.iload_n 3, 1) := by decide +kernel
theorem dX6_between_308 : decode cX6_between 308 = .ok (.iadd, 1) := by decide +kernel
theorem dX6_between_309 : decode cX6_between 309 = .ok (.iconst 1, 1) := by decide +kernel
theorem dX6_between_310 : decode cX6_between 310 = .ok (.isub, 1) := by decide +kernel
theorem dX6_between_311 : decode cX6_between 311 = .ok (.iaload, 1) := by decide +kernel
theorem dX6_between_312 : decode cX6_between 312 = .ok (.ireturn, 1) := by decide +kernel
theorem dX6_distance_0 : decode cX6_distance 0 = .ok (.aload_n 0, 1) := by decide +kernel
theorem dX6_distance_1 : decode cX6_distance 1 = .ok (.iconst 0, 1) := by decide +kernel
theorem dX6_distance_2 : decode cX6_distance 2 = .ok (.putfield 59, 3) := by decide +kernel
theorem dX6_distance_5 : decode cX6_distance 5 = .ok (.aload_n 0, 1) := by decide +kernel
theorem dX6_distance_6 : decode cX6_distance 6 = .ok (.iload_n 1, 1) := by decide +kernel
theorem dX6_distance_7 : decode cX6_distance 7 = .ok (.invokevirtual 160, 3) := by decide +kernel
theorem dX6_distance_10 : decode cX6_distance 10 = .ok (.ifCond .eq 20, 3) := by decide +kernel
theorem dX6_distance_13 : decode cX6_distance 13 = .ok (.aload_n 0, 1) := by decide +kernel
theorem dX6_distance_14 : decode cX6_distance 14 = .ok (.iload_n 2, 1) := by decide +kernel
theorem dX6_distance_15 : decode cX6_distance 15 = .ok (.invokevirtual 160, 3) := by decide +kernel
theorem dX6_distance_18 : decode cX6_distance 18 = .ok (.ifCond .eq 12, 3) := by decide +kernel
theorem dX6_distance_21 : decode cX6_distance 21 = .ok (.aload_n 0, 1) := by decide +kernel
theorem dX6_distance_22 : decode cX6_distance 22 = .ok (.iload_n 1, 1) := by decide +kernel
theorem dX6_distance_23 : decode cX6_distance 23 = .ok (.iload_n 2, 1) := by decide +kernel
theorem dX6_distance_24 : decode cX6_distance 24 = .ok (.invokevirtual 166, 3) := by decide +kernel
theorem dX6_distance_27 : decode cX6_distance 27 = .ok (.goto 8, 3) := by decide +kernel
theorem dX6_distance_30 : decode cX6_distance 30 = .ok (.aload_n 0, 1) := by decide +kernel
theorem dX6_distance_31 : decode cX6_distance 31 = .ok (.iconst 1, 1) := by decide +kernel
theorem dX6_distance_32 : decode cX6_distance 32 = .ok (.invokevirtual 70, 3) := by decide +kernel
theorem dX6_distance_35 : decode cX6_distance 35 = .ok (.ireturn, 1) := by decide +kernel
theorem dX6_nearest_0 : decode cX6_nearest 0 = .ok (.aload_n 0, 1) := by decide +kernel
theorem dX6_nearest_1 : decode cX6_nearest 1 = .ok (.iconst 0, 1) := by decide +kernel
theorem dX6_nearest_2 : decode cX6_nearest 2 = .ok (.putfield 59, 3) := by decide +kernel
theorem dX6_nearest_5 : decode cX6_nearest 5 = .ok (.aload_n 0, 1) := by decide +kernel
theorem dX6_nearest_6 : decode cX6_nearest 6 = .ok (.iload_n 1, 1) := by decide +kernel
theorem dX6_nearest_7 : decode cX6_nearest 7 = .ok (.invokevirtual 160, 3) := by decide +kernel
theorem dX6_nearest_10 : decode cX6_nearest 10 = .ok (.ifCond .ne 9, 3) := by decide +kernel
theorem dX6_nearest_13 : decode cX6_nearest 13 = .ok (.aload_n 0, 1) := by decide +kernel
theorem dX6_nearest_14 : decode cX6_nearest 14 = .ok (.iconst 1, 1) := by decide +kernel
theorem dX6_nearest_15 : decode cX6_nearest 15 = .ok (.invokevirtual 70, 3) := by decide +kernel
theorem dX6_nearest_18 : decode cX6_nearest 18 = .ok (.ireturn, 1) := by decide +kernel
theorem dX6_nearest_19 : decode cX6_nearest 19 = .ok (.iconst (-1), 1) := by decide +kernel
theorem dX6_nearest_20 : decode cX6_nearest 20 = .ok (.istore_n 2, 1) := by decide +kernel
theorem dX6_nearest_21 : decode cX6_nearest 21 = .ok (.iconst 0, 1) := by decide +kernel
theorem dX6_nearest_22 : decode cX6_nearest 22 = .ok (.istore_n 3, 1) := by decide +kernel
theorem dX6_nearest_23 : decode cX6_nearest 23 = .ok (.iconst 0, 1) := by decide +kernel
theorem dX6_nearest_24 : decode cX6_nearest 24 = .ok (.istore 4, 2) := by decide +kernel
theorem dX6_nearest_26 : decode cX6_nearest 26 = .ok (.iload 4, 2) := by decide +kernel
theorem dX6_nearest_28 : decode cX6_nearest 28 = .ok (.aload_n 0, 1) := by decide +kernel
theorem dX6_nearest_29 : decode cX6_nearest 29 = .ok (.getfield 113, 3) := by decide +kernel
theorem dX6_nearest_32 : decode cX6_nearest 32 = .ok (.if_icmp .ge 47, 3) := by decide +kernel
theorem dX6_nearest_35 : decode cX6_nearest 35 = .ok (.iload 4, 2) := by decide +kernel
theorem dX6_nearest_37 : decode cX6_nearest 37 = .ok (.iload_n 1, 1) := by decide +kernel
theorem dX6_nearest_38 : decode cX6_nearest 38 = .ok (.if_icmp .ne 6, 3) := by decide +kernel
theorem dX6_nearest_41 : decode cX6_nearest 41 = .ok (.goto 32, 3) := by decide +kernel
theorem dX6_nearest_44 : decode cX6_nearest 44 = .ok (.aload_n 0, 1) := by decide +kernel
theorem dX6_nearest_45 : decode cX6_nearest 45 = .ok (.iload_n 1, 1) := by decide +kernel
theorem dX6_nearest_46 : decode cX6_nearest 46 = .ok (.iload 4, 2) := by decide +kernel
theorem dX6_nearest_48 : decode cX6_nearest 48 = .ok (.invokevirtual 166, 3) := by decide +kernel
theorem dX6_nearest_51 : decode cX6_nearest 51 = .ok (.istore 5, 2) := by decide +kernel
theorem dX6_nearest_53 : decode cX6_nearest 53 = .ok (.iload_n 2, 1) := by decide +kernel
theorem dX6_nearest_54 : decode cX6_nearest 54 = .ok (.iconst (-1), 1) := by decide +kernel
theorem dX6_nearest_55 : decode cX6_nearest 55 = .ok (.if_icmp .eq 12, 3) := by decide +kernel
theorem dX6_nearest_58 : decode cX6_nearest 58 = .ok (.iload 5, 2) := by decide +kernel
theorem dX6_nearest_60 : decode cX6_nearest 60 = .ok (.iload_n 3, 1) := by decide +kernel
theorem dX6_nearest_61 : decode cX6_nearest 61 = .ok (.if_icmp .lt 6, 3) := by decide +kernel
theorem dX6_nearest_64 : decode cX6_nearest 64 = .ok (.goto 9, 3) := by decide +kernel
theorem dX6_nearest_67 : decode cX6_nearest 67 = .ok (.iload 4, 2) := by decide +kernel
theorem dX6_nearest_69 : decode cX6_nearest 69 = .ok (.istore_n 2, 1) := by decide +kernel
theorem dX6_nearest_70 : decode cX6_nearest 70 = .ok (.iload 5, 2) := by decide +kernel
theorem dX6_nearest_72 : decode cX6_nearest 72 = .ok (.istore_n 3, 1) := by decide +kernel
theorem dX6_nearest_73 : decode cX6_nearest 73 = .ok (.iinc 4 1, 3) := by decide +kernel
theorem dX6_nearest_76 : decode cX6_nearest 76 = .ok (.goto (-50), 3) := by decide +kernel
theorem dX6_nearest_79 : decode cX6_nearest 79 = .ok (.iload_n 2, 1) := by decide +kernel
theorem dX6_nearest_80 : decode cX6_nearest 80 = .ok (.ireturn, 1) := by decide +kernel
theorem dX6_read_0 : decode cX6_read 0 = .ok (.aload_n 0, 1) := by decide +kernel
theorem dX6_read_1 : decode cX6_read 1 = .ok (.iconst 0, 1) := by decide +kernel
theorem dX6_read_2 : decode cX6_read 2 = .ok (.putfield 59, 3) := by decide +kernel
theorem dX6_read_5 : decode cX6_read 5 = .ok (.aload_n 0, 1) := by decide +kernel
theorem dX6_read_6 : decode cX6_read 6 = .ok (.iload_n 1, 1) := by decide +kernel
theorem dX6_read_7 : decode cX6_read 7 = .ok (.invokevirtual 160, 3) := by decide +kernel
theorem dX6_read_10 : decode cX6_read 10 = .ok (.ifCond .ne 9, 3) := by decide +kernel
theorem dX6_read_13 : decode cX6_read 13 = .ok (.aload_n 0, 1) := by decide +kernel
theorem dX6_read_14 : decode cX6_read 14 = .ok (.iconst 1, 1) := by decide +kernel
theorem dX6_read_15 : decode cX6_read 15 = .ok (.invokevirtual 70, 3) := by decide +kernel
theorem dX6_read_18 : decode cX6_read 18 = .ok (.ireturn, 1) := by decide +kernel
theorem dX6_read_19 : decode cX6_read 19 = .ok (.aload_n 0, 1) := by decide +kernel
theorem dX6_read_20 : decode cX6_read 20 = .ok (.iconst 0, 1) := by decide +kernel
theorem dX6_read_21 : decode cX6_read 21 = .ok (.putfield 154, 3) := by decide +kernel
theorem dX6_read_24 : decode cX6_read 24 = .ok (.aload_n 0, 1) := by decide +kernel
theorem dX6_read_25 : decode cX6_read 25 = .ok (.iload_n 1, 1) := by decide +kernel
theorem dX6_read_26 : decode cX6_read 26 = .ok (.iconst 5, 1) := by decide +kernel
theorem dX6_read_27 : decode cX6_read 27 = .ok (.iconst 1, 1) := by decide +kernel
theorem dX6_read_28 : decode cX6_read 28 = .ok (.invokevirtual 157, 3) := by decide +kernel
theorem dX6_read_31 : decode cX6_read 31 = .ok (.pop, 1) := by decide +kernel
theorem dX6_read_32 : decode cX6_read 32 = .ok (.aload_n 0, 1) := by decide +kernel
theorem dX6_read_33 : decode cX6_read 33 = .ok (.getfield 154, 3) := by decide +kernel
theorem dX6_read_36 : decode cX6_read 36 = .ok (.ireturn, 1) := by decide +kernel
theorem dX6_byteAt_0 : decode cX6_byteAt 0 = .ok (.aload_n 0, 1) := by decide +kernel
theorem dX6_byteAt_1 : decode cX6_byteAt 1 = .ok (.iconst 0, 1) := by decide +kernel
theorem dX6_byteAt_2 : decode cX6_byteAt 2 = .ok (.putfield 59, 3) := by decide +kernel
theorem dX6_byteAt_5 : decode cX6_byteAt 5 = .ok (.iload_n 1, 1) := by decide +kernel
theorem dX6_byteAt_6 : decode cX6_byteAt 6 = .ok (.iconst 0, 1) := by decide +kernel
theorem dX6_byteAt_7 : decode cX6_byteAt 7 = .ok (.aload_n 0, 1) := by decide +kernel
theorem dX6_byteAt_8 : decode cX6_byteAt 8 = .ok (.getfield 154, 3) := by decide +kernel
theorem dX6_byteAt_11 : decode cX6_byteAt 11 = .ok (.iconst 1, 1) := by decide +kernel
theorem dX6_byteAt_12 : decode cX6_byteAt 12 = .ok (.isub, 1) := by decide +kernel
theorem dX6_byteAt_13 : decode cX6_byteAt 13 = .ok (.invokestatic 66, 3) := by decide +kernel
theorem dX6_byteAt_16 : decode cX6_byteAt 16 = .ok (.ifCond .eq 12, 3) := by decide +kernel
theorem dX6_byteAt_19 : decode cX6_byteAt 19 = .ok (.aload_n 0, 1) := by decide +kernel
theorem dX6_byteAt_20 : decode cX6_byteAt 20 = .ok (.getfield 41, 3) := by decide +kernel
theorem dX6_byteAt_23 : decode cX6_byteAt 23 = .ok (.iload_n 1, 1) := by decide +kernel
theorem dX6_byteAt_24 : decode cX6_byteAt 24 = .ok (.iaload, 1) := by decide +kernel
theorem dX6_byteAt_25 : decode cX6_byteAt 25 = .ok (.goto 8, 3) := by decide +kernel
theorem dX6_byteAt_28 : decode cX6_byteAt 28 = .ok (.aload_n 0, 1) := by decide +kernel
theorem dX6_byteAt_29 : decode cX6_byteAt 29 = .ok (.iconst 1, 1) := by decide +kernel
theorem dX6_byteAt_30 : decode cX6_byteAt 30 = .ok (.invokevirtual 70, 3) := by decide +kernel
theorem dX6_byteAt_33 : decode cX6_byteAt 33 = .ok (.ireturn, 1) := by decide +kernel
theorem dX6_sum_0 : decode cX6_sum 0 = .ok (.iconst 0, 1) := by decide +kernel
theorem dX6_sum_1 : decode cX6_sum 1 = .ok (.istore_n 2, 1) := by decide +kernel
theorem dX6_sum_2 : decode cX6_sum 2 = .ok (.iconst 0, 1) := by decide +kernel
theorem dX6_sum_3 : decode cX6_sum 3 = .ok (.istore_n 3, 1) := by decide +kernel
theorem dX6_sum_4 : decode cX6_sum 4 = .ok (.iconst 0, 1) := by decide +kernel
theorem dX6_sum_5 : decode cX6_sum 5 = .ok (.istore 4, 2) := by decide +kernel
theorem dX6_sum_7 : decode cX6_sum 7 = .ok (.iconst 0, 1) := by decide +kernel
theorem dX6_sum_8 : decode cX6_sum 8 = .ok (.istore 5, 2) := by decide +kernel
theorem dX6_sum_10 : decode cX6_sum 10 = .ok (.iload 5, 2) := by decide +kernel
theorem dX6_sum_12 : decode cX6_sum 12 = .ok (.bipush 12, 2) := by decide +kernel
theorem dX6_sum_14 : decode cX6_sum 14 = .ok (.if_icmp .ge 27, 3) := by decide +kernel
theorem dX6_sum_17 : decode cX6_sum 17 = .ok (.iload_n 2, 1) := by decide +kernel
theorem dX6_sum_18 : decode cX6_sum 18 = .ok (.aload_n 0, 1) := by decide +kernel
theorem dX6_sum_19 : decode cX6_sum 19 = .ok (.getfield 9, 3) := by decide +kernel
theorem dX6_sum_22 : decode cX6_sum 22 = .ok (.iload 5, 2) := by decide +kernel
theorem dX6_sum_24 : decode cX6_sum 24 = .ok (.iaload, 1) := by decide +kernel
theorem dX6_sum_25 : decode cX6_sum 25 = .ok (.ifCond .le 7, 3) := by decide +kernel
theorem dX6_sum_28 : decode cX6_sum 28 = .ok (.iconst 1, 1) := by decide +kernel
theorem dX6_sum_29 : decode cX6_sum 29 = .ok (.goto 4, 3) := by decide +kernel
theorem dX6_sum_32 : decode cX6_sum 32 = .ok (.iconst 0, 1) := by decide +kernel
theorem dX6_sum_33 : decode cX6_sum 33 = .ok (.iadd, 1) := by decide +kernel
theorem dX6_sum_34 : decode cX6_sum 34 = .ok (.istore_n 2, 1) := by decide +kernel
theorem dX6_sum_35 : decode cX6_sum 35 = .ok (.iinc 5 1, 3) := by decide +kernel
theorem dX6_sum_38 : decode cX6_sum 38 = .ok (.goto (-28), 3) := by decide +kernel
theorem dX6_sum_41 : decode cX6_sum 41 = .ok (.iconst 0, 1) := by decide +kernel
theorem dX6_sum_42 : decode cX6_sum 42 = .ok (.istore 5, 2) := by decide +kernel
theorem dX6_sum_44 : decode cX6_sum 44 = .ok (.iload 5, 2) := by decide +kernel
theorem dX6_sum_46 : decode cX6_sum 46 = .ok (.aload_n 0, 1) := by decide +kernel
theorem dX6_sum_47 : decode cX6_sum 47 = .ok (.getfield 113, 3) := by decide +kernel
theorem dX6_sum_50 : decode cX6_sum 50 = .ok (.if_icmp .ge 31, 3) := by decide +kernel
theorem dX6_sum_53 : decode cX6_sum 53 = .ok (.iload_n 3, 1) := by decide +kernel
theorem dX6_sum_54 : decode cX6_sum 54 = .ok (.aload_n 0, 1) := by decide +kernel
theorem dX6_sum_55 : decode cX6_sum 55 = .ok (.getfield 32, 3) := by decide +kernel
theorem dX6_sum_58 : decode cX6_sum 58 = .ok (.iload 5, 2) := by decide +kernel
theorem dX6_sum_60 : decode cX6_sum 60 = .ok (.iaload, 1) := by decide +kernel
theorem dX6_sum_61 : decode cX6_sum 61 = .ok (.iadd, 1) := by decide +kernel
theorem dX6_sum_62 : decode cX6_sum 62 = .ok (.istore_n 3, 1) := by decide +kernel
theorem dX6_sum_63 : decode cX6_sum 63 = .ok (.iload 4, 2) := by decide +kernel
theorem dX6_sum_65 : decode cX6_sum 65 = .ok (.aload_n 0, 1) := by decide +kernel
theorem dX6_sum_66 : decode cX6_sum 66 = .ok (.getfield 35, 3) := by decide +kernel
theorem dX6_sum_69 : decode cX6_sum 69 = .ok (.iload 5, 2) := by decide +kernel
theorem dX6_sum_71 : decode cX6_sum 71 = .ok (.iaload, 1) := by decide +kernel
theorem dX6_sum_72 : decode cX6_sum 72 = .ok (.iadd, 1) := by decide +kernel
theorem dX6_sum_73 : decode cX6_sum 73 = .ok (.istore 4, 2) := by decide +kernel
theorem dX6_sum_75 : decode cX6_sum 75 = .ok (.iinc 5 1, 3) := by decide +kernel
theorem dX6_sum_78 : decode cX6_sum 78 = .ok (.goto (-34), 3) := by decide +kernel
theorem dX6_sum_81 : decode cX6_sum 81 = .ok (.bipush 7, 2) := by decide +kernel
theorem dX6_sum_83 : decode cX6_sum 83 = .ok (.newarray .int, 2) := by decide +kernel
theorem dX6_sum_85 : decode cX6_sum 85 = .ok (.dup, 1) := by decide +kernel
theorem dX6_sum_86 : decode cX6_sum 86 = .ok (.iconst 0, 1) := by decide +kernel
theorem dX6_sum_87 : decode cX6_sum 87 = .ok (.iload_n 2, 1) := by decide +kernel
theorem dX6_sum_88 : decode cX6_sum 88 = .ok (.iastore, 1) := by decide +kernel
theorem dX6_sum_89 : decode cX6_sum 89 = .ok (.dup, 1) := by decide +kernel
theorem dX6_sum_90 : decode cX6_sum 90 = .ok (.iconst 1, 1) := by decide +kernel
theorem dX6_sum_91 : decode cX6_sum 91 = .ok (.aload_n 0, 1) := by decide +kernel
theorem dX6_sum_92 : decode cX6_sum 92 = .ok (.getfield 113, 3) := by decide +kernel
theorem dX6_sum_95 : decode cX6_sum 95 = .ok (.iastore, 1) := by decide +kernel
theorem dX6_sum_96 : decode cX6_sum 96 = .ok (.dup, 1) := by decide +kernel
theorem dX6_sum_97 : decode cX6_sum 97 = .ok (.iconst 2, 1) := by decide +kernel
theorem dX6_sum_98 : decode cX6_sum 98 = .ok (.aload_n 0, 1) := by decide +kernel
theorem dX6_sum_99 : decode cX6_sum 99 = .ok (.getfield 123, 3) := by decide +kernel
theorem dX6_sum_102 : decode cX6_sum 102 = .ok (.iastore, 1) := by decide +kernel
theorem dX6_sum_103 : decode cX6_sum 103 = .ok (.dup, 1) := by decide +kernel
theorem dX6_sum_104 : decode cX6_sum 104 = .ok (.iconst 3, 1) := by decide +kernel
theorem dX6_sum_105 : decode cX6_sum 105 = .ok (.iload_n 3, 1) := by decide +kernel
theorem dX6_sum_106 : decode cX6_sum 106 = .ok (.iastore, 1) := by decide +kernel
theorem dX6_sum_107 : decode cX6_sum 107 = .ok (.dup, 1) := by decide +kernel
theorem dX6_sum_108 : decode cX6_sum 108 = .ok (.iconst 4, 1) := by decide +kernel
theorem dX6_sum_109 : decode cX6_sum 109 = .ok (.iload 4, 2) := by decide +kernel
theorem dX6_sum_111 : decode cX6_sum 111 = .ok (.iastore, 1) := by decide +kernel
theorem dX6_sum_112 : decode cX6_sum 112 = .ok (.dup, 1) := by decide +kernel
theorem dX6_sum_113 : decode cX6_sum 113 = .ok (.iconst 5, 1) := by decide +kernel
theorem dX6_sum_114 : decode cX6_sum 114 = .ok (.aload_n 0, 1) := by decide +kernel
theorem dX6_sum_115 : decode cX6_sum 115 = .ok (.getfield 107, 3) := by decide +kernel
theorem dX6_sum_118 : decode cX6_sum 118 = .ok (.iastore, 1) := by decide +kernel
theorem dX6_sum_119 : decode cX6_sum 119 = .ok (.dup, 1) := by decide +kernel
theorem dX6_sum_120 : decode cX6_sum 120 = .ok (.bipush 6, 2) := by decide +kernel
theorem dX6_sum_122 : decode cX6_sum 122 = .ok (.aload_n 0, 1) := by decide +kernel
theorem dX6_sum_123 : decode cX6_sum 123 = .ok (.getfield 154, 3) := by decide +kernel
theorem dX6_sum_126 : decode cX6_sum 126 = .ok (.iastore, 1) := by decide +kernel
theorem dX6_sum_127 : decode cX6_sum 127 = .ok (.astore 5, 2) := by decide +kernel
theorem dX6_sum_129 : decode cX6_sum 129 = .ok (.aload 5, 2) := by decide +kernel
theorem dX6_sum_131 : decode cX6_sum 131 = .ok (.iload_n 1, 1) := by decide +kernel
theorem dX6_sum_132 : decode cX6_sum 132 = .ok (.iaload, 1) := by decide +kernel
theorem dX6_sum_133 : decode cX6_sum 133 = .ok (.ireturn, 1) := by decide +kernel
theorem dX6_count_0 : decode cX6_count 0 = .ok (.aload_n 0, 1) := by decide +kernel
theorem dX6_count_1 : decode cX6_count 1 = .ok (.iconst 0, 1) := by decide +kernel
theorem dX6_count_2 : decode cX6_count 2 = .ok (.putfield 59, 3) := by decide +kernel
theorem dX6_count_5 : decode cX6_count 5 = .ok (.iload_n 1, 1) := by decide +kernel
theorem dX6_count_6 : decode cX6_count 6 = .ok (.iconst 0, 1) := by decide +kernel
theorem dX6_count_7 : decode cX6_count 7 = .ok (.bipush 6, 2) := by decide +kernel
theorem dX6_count_9 : decode cX6_count 9 = .ok (.invokestatic 66, 3) := by decide +kernel
theorem dX6_count_12 : decode cX6_count 12 = .ok (.ifCond .eq 11, 3) := by decide +kernel
theorem dX6_count_15 : decode cX6_count 15 = .ok (.aload_n 0, 1) := by decide +kernel
theorem dX6_count_16 : decode cX6_count 16 = .ok (.iload_n 1, 1) := by decide +kernel
theorem dX6_count_17 : decode cX6_count 17 = .ok (.invokevirtual 169, 3) := by decide +kernel
theorem dX6_count_20 : decode cX6_count 20 = .ok (.goto 8, 3) := by decide +kernel
theorem dX6_count_23 : decode cX6_count 23 = .ok (.aload_n 0, 1) := by decide +kernel
theorem dX6_count_24 : decode cX6_count 24 = .ok (.iconst 1, 1) := by decide +kernel
theorem dX6_count_25 : decode cX6_count 25 = .ok (.invokevirtual 70, 3) := by decide +kernel
theorem dX6_count_28 : decode cX6_count 28 = .ok (.ireturn, 1) := by decide +kernel
theorem dX6_mean_0 : decode cX6_mean 0 = .ok (.aload_n 0, 1) := by decide +kernel
theorem dX6_mean_1 : decode cX6_mean 1 = .ok (.iconst 0, 1) := by decide +kernel
theorem dX6_mean_2 : decode cX6_mean 2 = .ok (.putfield 59, 3) := by decide +kernel
theorem dX6_mean_5 : decode cX6_mean 5 = .ok (.iconst 0, 1) := by decide +kernel
theorem dX6_mean_6 : decode cX6_mean 6 = .ok (.istore_n 1, 1) := by decide +kernel
theorem dX6_mean_7 : decode cX6_mean 7 = .ok (.iconst 0, 1) := by decide +kernel
theorem dX6_mean_8 : decode cX6_mean 8 = .ok (.istore_n 2, 1) := by decide +kernel
theorem dX6_mean_9 : decode cX6_mean 9 = .ok (.iload_n 2, 1) := by decide +kernel
theorem dX6_mean_10 : decode cX6_mean 10 = .ok (.bipush 12, 2) := by decide +kernel
theorem dX6_mean_12 : decode cX6_mean 12 = .ok (.if_icmp .ge 21, 3) := by decide +kernel
theorem dX6_mean_15 : decode cX6_mean 15 = .ok (.iload_n 1, 1) := by decide +kernel
theorem dX6_mean_16 : decode cX6_mean 16 = .ok (.aload_n 0, 1) := by decide +kernel
theorem dX6_mean_17 : decode cX6_mean 17 = .ok (.getfield 9, 3) := by decide +kernel
theorem dX6_mean_20 : decode cX6_mean 20 = .ok (.iload_n 2, 1) := by decide +kernel
theorem dX6_mean_21 : decode cX6_mean 21 = .ok (.iaload, 1) := by decide +kernel
theorem dX6_mean_22 : decode cX6_mean 22 = .ok (.invokestatic 62, 3) := by decide +kernel
theorem dX6_mean_25 : decode cX6_mean 25 = .ok (.iadd, 1) := by decide +kernel
theorem dX6_mean_26 : decode cX6_mean 26 = .ok (.istore_n 1, 1) := by decide +kernel
theorem dX6_mean_27 : decode cX6_mean 27 = .ok (.iinc 2 1, 3) := by decide +kernel
theorem dX6_mean_30 : decode cX6_mean 30 = .ok (.goto (-21), 3) := by decide +kernel
theorem dX6_mean_33 : decode cX6_mean 33 = .ok (.aload_n 0, 1) := by decide +kernel
theorem dX6_mean_34 : decode cX6_mean 34 = .ok (.iconst 0, 1) := by decide +kernel
theorem dX6_mean_35 : decode cX6_mean 35 = .ok (.invokevirtual 169, 3) := by decide +kernel
theorem dX6_mean_38 : decode cX6_mean 38 = .ok (.ifCond .ne 7, 3) := by decide +kernel
theorem dX6_mean_41 : decode cX6_mean 41 = .ok (.dconst 0, 1) := by decide +kernel
theorem dX6_mean_42 : decode cX6_mean 42 = .ok (.goto 12, 3) := by decide +kernel
theorem dX6_mean_45 : decode cX6_mean 45 = .ok (.iload_n 1, 1) := by decide +kernel
theorem dX6_mean_46 : decode cX6_mean 46 = .ok (.i2d, 1) := by decide +kernel
theorem dX6_mean_47 : decode cX6_mean 47 = .ok (.aload_n 0, 1) := by decide +kernel
theorem dX6_mean_48 : decode cX6_mean 48 = .ok (.iconst 0, 1) := by decide +kernel
theorem dX6_mean_49 : decode cX6_mean 49 = .ok (.invokevirtual 169, 3) := by decide +kernel
theorem dX6_mean_52 : decode cX6_mean 52 = .ok (.i2d, 1) := by decide +kernel
theorem dX6_mean_53 : decode cX6_mean 53 = .ok (.ddiv, 1) := by decide +kernel
theorem dX6_mean_54 : decode cX6_mean 54 = .ok (.dreturn, 1) := by decide +kernel
theorem dX6_digest_0 : decode cX6_digest 0 = .ok (.aload_n 0, 1) := by decide +kernel
theorem dX6_digest_1 : decode cX6_digest 1 = .ok (.iconst 0, 1) := by decide +kernel
theorem dX6_digest_2 : decode cX6_digest 2 = .ok (.putfield 59, 3) := by decide +kernel
theorem dX6_digest_5 : decode cX6_digest 5 = .ok (.ldc2_w 172, 3) := by decide +kernel
theorem dX6_digest_8 : decode cX6_digest 8 = .ok (.lstore_n 1, 1) := by decide +kernel
theorem dX6_digest_9 : decode cX6_digest 9 = .ok (.iconst 0, 1) := by decide +kernel
theorem dX6_digest_10 : decode cX6_digest 10 = .ok (.istore_n 3, 1) := by decide +kernel
theorem dX6_digest_11 : decode cX6_digest 11 = .ok (.iload_n 3, 1) := by decide +kernel
theorem dX6_digest_12 : decode cX6_digest 12 = .ok (.bipush 7, 2) := by decide +kernel
theorem dX6_digest_14 : decode cX6_digest 14 = .ok (.if_icmp .ge 22, 3) := by decide +kernel
theorem dX6_digest_17 : decode cX6_digest 17 = .ok (.lload_n 1, 1) := by decide +kernel
theorem dX6_digest_18 : decode cX6_digest 18 = .ok (.ldc2_w 174, 3) := by decide +kernel
theorem dX6_digest_21 : decode cX6_digest 21 = .ok (.lmul, 1) := by decide +kernel
theorem dX6_digest_22 : decode cX6_digest 22 = .ok (.aload_n 0, 1) := by decide +kernel
theorem dX6_digest_23 : decode cX6_digest 23 = .ok (.iload_n 3, 1) := by decide +kernel
theorem dX6_digest_24 : decode cX6_digest 24 = .ok (.invokevirtual 169, 3) := by decide +kernel
theorem dX6_digest_27 : decode cX6_digest 27 = .ok (.i2l, 1) := by decide +kernel
theorem dX6_digest_28 : decode cX6_digest 28 = .ok (.ladd, 1) := by decide +kernel
theorem dX6_digest_29 : decode cX6_digest 29 = .ok (.lstore_n 1, 1) := by decide +kernel
theorem dX6_digest_30 : decode cX6_digest 30 = .ok (.iinc 3 1, 3) := by decide +kernel
theorem dX6_digest_33 : decode cX6_digest 33 = .ok (.goto (-22), 3) := by decide +kernel
theorem dX6_digest_36 : decode cX6_digest 36 = .ok (.iconst 0, 1) := by decide +kernel
theorem dX6_digest_37 : decode cX6_digest 37 = .ok (.istore_n 3, 1) := by decide +kernel
theorem dX6_digest_38 : decode cX6_digest 38 = .ok (.iload_n 3, 1) := by decide +kernel
theorem dX6_digest_39 : decode cX6_digest 39 = .ok (.bipush 12, 2) := by decide +kernel
theorem dX6_digest_41 : decode cX6_digest 41 = .ok (.if_icmp .ge 39, 3) := by decide +kernel
theorem dX6_digest_44 : decode cX6_digest 44 = .ok (.iconst 0, 1) := by decide +kernel
theorem dX6_digest_45 : decode cX6_digest 45 = .ok (.istore 4, 2) := by decide +kernel
theorem dX6_digest_47 : decode cX6_digest 47 = .ok (.iload 4, 2) := by decide +kernel
theorem dX6_digest_49 : decode cX6_digest 49 = .ok (.iconst 3, 1) := by decide +kernel
theorem dX6_digest_50 : decode cX6_digest 50 = .ok (.if_icmp .ge 24, 3) := by decide +kernel
theorem dX6_digest_53 : decode cX6_digest 53 = .ok (.lload_n 1, 1) := by decide +kernel
theorem dX6_digest_54 : decode cX6_digest 54 = .ok (.ldc2_w 174, 3) := by decide +kernel
theorem dX6_digest_57 : decode cX6_digest 57 = .ok (.lmul, 1) := by decide +kernel
theorem dX6_digest_58 : decode cX6_digest 58 = .ok (.aload_n 0, 1) := by decide +kernel
theorem dX6_digest_59 : decode cX6_digest 59 = .ok (.iload_n 3, 1) := by decide +kernel
theorem dX6_digest_60 : decode cX6_digest 60 = .ok (.iload 4, 2) := by decide +kernel
theorem dX6_digest_62 : decode cX6_digest 62 = .ok (.invokevirtual 77, 3) := by decide +kernel
theorem dX6_digest_65 : decode cX6_digest 65 = .ok (.i2l, 1) := by decide +kernel
theorem dX6_digest_66 : decode cX6_digest 66 = .ok (.ladd, 1) := by decide +kernel
theorem dX6_digest_67 : decode cX6_digest 67 = .ok (.lstore_n 1, 1) := by decide +kernel
theorem dX6_digest_68 : decode cX6_digest 68 = .ok (.iinc 4 1, 3) := by decide +kernel
theorem dX6_digest_71 : decode cX6_digest 71 = .ok (.goto (-24), 3) := by decide +kernel
theorem dX6_digest_74 : decode cX6_digest 74 = .ok (.iinc 3 1, 3) := by decide +kernel
theorem dX6_digest_77 : decode cX6_digest 77 = .ok (.goto (-39), 3) := by decide +kernel
theorem dX6_digest_80 : decode cX6_digest 80 = .ok (.iconst 0, 1) := by decide +kernel
theorem dX6_digest_81 : decode cX6_digest 81 = .ok (.istore_n 3, 1) := by decide +kernel
theorem dX6_digest_82 : decode cX6_digest 82 = .ok (.iload_n 3, 1) := by decide +kernel
theorem dX6_digest_83 : decode cX6_digest 83 = .ok (.aload_n 0, 1) := by decide +kernel
theorem dX6_digest_84 : decode cX6_digest 84 = .ok (.getfield 113, 3) := by decide +kernel
theorem dX6_digest_87 : decode cX6_digest 87 = .ok (.if_icmp .ge 80, 3) := by decide +kernel
theorem dX6_digest_90 : decode cX6_digest 90 = .ok (.iconst 0, 1) := by decide +kernel
theorem dX6_digest_91 : decode cX6_digest 91 = .ok (.istore 4, 2) := by decide +kernel
theorem dX6_digest_93 : decode cX6_digest 93 = .ok (.iload 4, 2) := by decide +kernel
theorem dX6_digest_95 : decode cX6_digest 95 = .ok (.bipush 7, 2) := by decide +kernel
theorem dX6_digest_97 : decode cX6_digest 97 = .ok (.if_icmp .ge 24, 3) := by decide +kernel
theorem dX6_digest_100 : decode cX6_digest 100 = .ok (.lload_n 1, 1) := by decide +kernel
theorem dX6_digest_101 : decode cX6_digest 101 = .ok (.ldc2_w 174, 3) := by decide +kernel
theorem dX6_digest_104 : decode cX6_digest 104 = .ok (.lmul, 1) := by decide +kernel
theorem dX6_digest_105 : decode cX6_digest 105 = .ok (.aload_n 0, 1) := by decide +kernel
theorem dX6_digest_106 : decode cX6_digest 106 = .ok (.iload_n 3, 1) := by decide +kernel
theorem dX6_digest_107 : decode cX6_digest 107 = .ok (.iload 4, 2) := by decide +kernel
theorem dX6_digest_109 : decode cX6_digest 109 = .ok (.invokevirtual 163, 3) := by decide +kernel
theorem dX6_digest_112 : decode cX6_digest 112 = .ok (.i2l, 1) := by decide +kernel
theorem dX6_digest_113 : decode cX6_digest 113 = .ok (.ladd, 1) := by decide +kernel
theorem dX6_digest_114 : decode cX6_digest 114 = .ok (.lstore_n 1, 1) := by decide +kernel
theorem dX6_digest_115 : decode cX6_digest 115 = .ok (.iinc 4 1, 3) := by decide +kernel
theorem dX6_digest_118 : decode cX6_digest 118 = .ok (.goto (-25), 3) := by decide +kernel
theorem dX6_digest_121 : decode cX6_digest 121 = .ok (.iconst 0, 1) := by decide +kernel
theorem dX6_digest_122 : decode cX6_digest 122 = .ok (.istore 4, 2) := by decide +kernel
theorem dX6_digest_124 : decode cX6_digest 124 = .ok (.iload 4, 2) := by decide +kernel
theorem dX6_digest_126 : decode cX6_digest 126 = .ok (.aload_n 0, 1) := by decide +kernel
theorem dX6_digest_127 : decode cX6_digest 127 = .ok (.getfield 26, 3) := by decide +kernel
theorem dX6_digest_130 : decode cX6_digest 130 = .ok (.iload_n 3, 1) := by decide +kernel
theorem dX6_digest_131 : decode cX6_digest 131 = .ok (.iaload, 1) := by decide +kernel
theorem dX6_digest_132 : decode cX6_digest 132 = .ok (.if_icmp .ge 29, 3) := by decide +kernel
theorem dX6_digest_135 : decode cX6_digest 135 = .ok (.lload_n 1, 1) := by decide +kernel
theorem dX6_digest_136 : decode cX6_digest 136 = .ok (.ldc2_w 174, 3) := by decide +kernel
theorem dX6_digest_139 : decode cX6_digest 139 = .ok (.lmul, 1) := by decide +kernel
theorem dX6_digest_140 : decode cX6_digest 140 = .ok (.aload_n 0, 1) := by decide +kernel
theorem dX6_digest_141 : decode cX6_digest 141 = .ok (.getfield 29, 3) := by decide +kernel
theorem dX6_digest_144 : decode cX6_digest 144 = .ok (.bipush 40, 2) := by decide +kernel
theorem dX6_digest_146 : decode cX6_digest 146 = .ok (.iload_n 3, 1) := by decide +kernel
theorem dX6_digest_147 : decode cX6_digest 147 = .ok (.imul, 1) := by decide +kernel
theorem dX6_digest_148 : decode cX6_digest 148 = .ok (.iload 4, 2) := by decide +kernel
theorem dX6_digest_150 : decode cX6_digest 150 = .ok (.iadd, 1) := by decide +kernel
theorem dX6_digest_151 : decode cX6_digest 151 = .ok (.iaload, 1) := by decide +kernel
theorem dX6_digest_152 : decode cX6_digest 152 = .ok (.i2l, 1) := by decide +kernel
theorem dX6_digest_153 : decode cX6_digest 153 = .ok (.ladd, 1) := by decide +kernel
theorem dX6_digest_154 : decode cX6_digest 154 = .ok (.lstore_n 1, 1) := by decide +kernel
theorem dX6_digest_155 : decode cX6_digest 155 = .ok (.iinc 4 1, 3) := by decide +kernel
theorem dX6_digest_158 : decode cX6_digest 158 = .ok (.goto (-34), 3) := by decide +kernel
theorem dX6_digest_161 : decode cX6_digest 161 = .ok (.iinc 3 1, 3) := by decide +kernel
theorem dX6_digest_164 : decode cX6_digest 164 = .ok (.goto (-82), 3) := by decide +kernel
theorem dX6_digest_167 : decode cX6_digest 167 = .ok (.iconst 0, 1) := by decide +kernel
theorem dX6_digest_168 : decode cX6_digest 168 = .ok (.istore_n 3, 1) := by decide +kernel
theorem dX6_digest_169 : decode cX6_digest 169 = .ok (.iload_n 3, 1) := by decide +kernel
theorem dX6_digest_170 : decode cX6_digest 170 = .ok (.aload_n 0, 1) := by decide +kernel
theorem dX6_digest_171 : decode cX6_digest 171 = .ok (.getfield 154, 3) := by decide +kernel
theorem dX6_digest_174 : decode cX6_digest 174 = .ok (.if_icmp .ge 23, 3) := by decide +kernel
theorem dX6_digest_177 : decode cX6_digest 177 = .ok (.lload_n 1, 1) := by decide +kernel
theorem dX6_digest_178 : decode cX6_digest 178 = .ok (.ldc2_w 174, 3) := by decide +kernel
theorem dX6_digest_181 : decode cX6_digest 181 = .ok (.lmul, 1) := by decide +kernel
theorem dX6_digest_182 : decode cX6_digest 182 = .ok (.aload_n 0, 1) := by decide +kernel
theorem dX6_digest_183 : decode cX6_digest 183 = .ok (.getfield 41, 3) := by decide +kernel
theorem dX6_digest_186 : decode cX6_digest 186 = .ok (.iload_n 3, 1) := by decide +kernel
theorem dX6_digest_187 : decode cX6_digest 187 = .ok (.iaload, 1) := by decide +kernel
theorem dX6_digest_188 : decode cX6_digest 188 = .ok (.i2l, 1) := by decide +kernel
theorem dX6_digest_189 : decode cX6_digest 189 = .ok (.ladd, 1) := by decide +kernel
theorem dX6_digest_190 : decode cX6_digest 190 = .ok (.lstore_n 1, 1) := by decide +kernel
theorem dX6_digest_191 : decode cX6_digest 191 = .ok (.iinc 3 1, 3) := by decide +kernel
theorem dX6_digest_194 : decode cX6_digest 194 = .ok (.goto (-25), 3) := by decide +kernel
theorem dX6_digest_197 : decode cX6_digest 197 = .ok (.lload_n 1, 1) := by decide +kernel
theorem dX6_digest_198 : decode cX6_digest 198 = .ok (.lreturn, 1) := by decide +kernel
theorem dJ9_max_7cf53_0 : decode cJ9_max_7cf53 0 = .ok (.iload_n 0, 1) := by decide +kernel
theorem dJ9_max_7cf53_1 : decode cJ9_max_7cf53 1 = .ok (.iload_n 1, 1) := by decide +kernel
theorem dJ9_max_7cf53_2 : decode cJ9_max_7cf53 2 = .ok (.if_icmp .lt 7, 3) := by decide +kernel
theorem dJ9_max_7cf53_5 : decode cJ9_max_7cf53 5 = .ok (.iload_n 0, 1) := by decide +kernel
theorem dJ9_max_7cf53_6 : decode cJ9_max_7cf53 6 = .ok (.goto 4, 3) := by decide +kernel
theorem dJ9_max_7cf53_9 : decode cJ9_max_7cf53 9 = .ok (.iload_n 1, 1) := by decide +kernel
theorem dJ9_max_7cf53_10 : decode cJ9_max_7cf53 10 = .ok (.ireturn, 1) := by decide +kernel
theorem dJ9_min_7cf53_0 : decode cJ9_min_7cf53 0 = .ok (.iload_n 0, 1) := by decide +kernel
theorem dJ9_min_7cf53_1 : decode cJ9_min_7cf53 1 = .ok (.iload_n 1, 1) := by decide +kernel
theorem dJ9_min_7cf53_2 : decode cJ9_min_7cf53 2 = .ok (.if_icmp .gt 7, 3) := by decide +kernel
theorem dJ9_min_7cf53_5 : decode cJ9_min_7cf53 5 = .ok (.iload_n 0, 1) := by decide +kernel
theorem dJ9_min_7cf53_6 : decode cJ9_min_7cf53 6 = .ok (.goto 4, 3) := by decide +kernel
theorem dJ9_min_7cf53_9 : decode cJ9_min_7cf53 9 = .ok (.iload_n 1, 1) := by decide +kernel
theorem dJ9_min_7cf53_10 : decode cJ9_min_7cf53 10 = .ok (.ireturn, 1) := by decide +kernel
theorem dJ9_min_f86c9_0 : decode cJ9_min_f86c9 0 = .ok (.lload_n 0, 1) := by decide +kernel
theorem dJ9_min_f86c9_1 : decode cJ9_min_f86c9 1 = .ok (.lload_n 2, 1) := by decide +kernel
theorem dJ9_min_f86c9_2 : decode cJ9_min_f86c9 2 = .ok (.lcmp, 1) := by decide +kernel
theorem dJ9_min_f86c9_3 : decode cJ9_min_f86c9 3 = .ok (.ifCond .gt 7, 3) := by decide +kernel
theorem dJ9_min_f86c9_6 : decode cJ9_min_f86c9 6 = .ok (.lload_n 0, 1) := by decide +kernel
theorem dJ9_min_f86c9_7 : decode cJ9_min_f86c9 7 = .ok (.goto 4, 3) := by decide +kernel
theorem dJ9_min_f86c9_10 : decode cJ9_min_f86c9 10 = .ok (.lload_n 2, 1) := by decide +kernel
theorem dJ9_min_f86c9_11 : decode cJ9_min_f86c9 11 = .ok (.lreturn, 1) := by decide +kernel
theorem dJ7_fill_53178_0 : decode cJ7_fill_53178 0 = .ok (.iconst 0, 1) := by decide +kernel
theorem dJ7_fill_53178_1 : decode cJ7_fill_53178 1 = .ok (.istore_n 2, 1) := by decide +kernel
theorem dJ7_fill_53178_2 : decode cJ7_fill_53178 2 = .ok (.aload_n 0, 1) := by decide +kernel
theorem dJ7_fill_53178_3 : decode cJ7_fill_53178 3 = .ok (.arraylength, 1) := by decide +kernel
theorem dJ7_fill_53178_4 : decode cJ7_fill_53178 4 = .ok (.istore_n 3, 1) := by decide +kernel
theorem dJ7_fill_53178_5 : decode cJ7_fill_53178 5 = .ok (.iload_n 2, 1) := by decide +kernel
theorem dJ7_fill_53178_6 : decode cJ7_fill_53178 6 = .ok (.iload_n 3, 1) := by decide +kernel
theorem dJ7_fill_53178_7 : decode cJ7_fill_53178 7 = .ok (.if_icmp .ge 13, 3) := by decide +kernel
theorem dJ7_fill_53178_10 : decode cJ7_fill_53178 10 = .ok (.aload_n 0, 1) := by decide +kernel
theorem dJ7_fill_53178_11 : decode cJ7_fill_53178 11 = .ok (.iload_n 2, 1) := by decide +kernel
theorem dJ7_fill_53178_12 : decode cJ7_fill_53178 12 = .ok (.iload_n 1, 1) := by decide +kernel
theorem dJ7_fill_53178_13 : decode cJ7_fill_53178 13 = .ok (.iastore, 1) := by decide +kernel
theorem dJ7_fill_53178_14 : decode cJ7_fill_53178 14 = .ok (.iinc 2 1, 3) := by decide +kernel
theorem dJ7_fill_53178_17 : decode cJ7_fill_53178 17 = .ok (.goto (-12), 3) := by decide +kernel
theorem dJ7_fill_53178_20 : decode cJ7_fill_53178 20 = .ok (.return_, 1) := by decide +kernel
theorem dL_setLetter_0 : decode cL_setLetter 0 = .ok (.aload_n 3, 1) := by decide +kernel
theorem dL_setLetter_1 : decode cL_setLetter 1 = .ok (.iconst 0, 1) := by decide +kernel
theorem dL_setLetter_2 : decode cL_setLetter 2 = .ok (.aload_n 0, 1) := by decide +kernel
theorem dL_setLetter_3 : decode cL_setLetter 3 = .ok (.iload_n 1, 1) := by decide +kernel
theorem dL_setLetter_4 : decode cL_setLetter 4 = .ok (.iload_n 2, 1) := by decide +kernel
theorem dL_setLetter_5 : decode cL_setLetter 5 = .ok (.invokevirtual 7, 3) := by decide +kernel
theorem dL_setLetter_8 : decode cL_setLetter 8 = .ok (.i2l, 1) := by decide +kernel
theorem dL_setLetter_9 : decode cL_setLetter 9 = .ok (.lastore, 1) := by decide +kernel
theorem dL_setLetter_10 : decode cL_setLetter 10 = .ok (.goto 11, 3) := by decide +kernel
theorem dL_setLetter_13 : decode cL_setLetter 13 = .ok (.astore 4, 2) := by decide +kernel
theorem dL_setLetter_15 : decode cL_setLetter 15 = .ok (.iconst 1, 1) := by decide +kernel
theorem dL_setLetter_16 : decode cL_setLetter 16 = .ok (.ireturn, 1) := by decide +kernel
theorem dL_setLetter_17 : decode cL_setLetter 17 = .ok (.astore 4, 2) := by decide +kernel
theorem dL_setLetter_19 : decode cL_setLetter 19 = .ok (.iconst 2, 1) := by decide +kernel
theorem dL_setLetter_20 : decode cL_setLetter 20 = .ok (.ireturn, 1) := by decide +kernel
theorem dL_setLetter_21 : decode cL_setLetter 21 = .ok (.iconst 0, 1) := by decide +kernel
theorem dL_setLetter_22 : decode cL_setLetter 22 = .ok (.ireturn, 1) := by decide +kernel
theorem dL_letter_0 : decode cL_letter 0 = .ok (.aload_n 3, 1) := by decide +kernel
theorem dL_letter_1 : decode cL_letter 1 = .ok (.iconst 0, 1) := by decide +kernel
theorem dL_letter_2 : decode cL_letter 2 = .ok (.aload_n 0, 1) := by decide +kernel
theorem dL_letter_3 : decode cL_letter 3 = .ok (.iload_n 1, 1) := by decide +kernel
theorem dL_letter_4 : decode cL_letter 4 = .ok (.iload_n 2, 1) := by decide +kernel
theorem dL_letter_5 : decode cL_letter 5 = .ok (.invokevirtual 17, 3) := by decide +kernel
theorem dL_letter_8 : decode cL_letter 8 = .ok (.i2l, 1) := by decide +kernel
theorem dL_letter_9 : decode cL_letter 9 = .ok (.lastore, 1) := by decide +kernel
theorem dL_letter_10 : decode cL_letter 10 = .ok (.goto 7, 3) := by decide +kernel
theorem dL_letter_13 : decode cL_letter 13 = .ok (.astore 4, 2) := by decide +kernel
theorem dL_letter_15 : decode cL_letter 15 = .ok (.iconst 1, 1) := by decide +kernel
theorem dL_letter_16 : decode cL_letter 16 = .ok (.ireturn, 1) := by decide +kernel
theorem dL_letter_17 : decode cL_letter 17 = .ok (.iconst 0, 1) := by decide +kernel
theorem dL_letter_18 : decode cL_letter 18 = .ok (.ireturn, 1) := by decide +kernel
theorem dL_alike_0 : decode cL_alike 0 = .ok (.aload_n 3, 1) := by decide +kernel
theorem dL_alike_1 : decode cL_alike 1 = .ok (.iconst 0, 1) := by decide +kernel
theorem dL_alike_2 : decode cL_alike 2 = .ok (.aload_n 0, 1) := by decide +kernel
theorem dL_alike_3 : decode cL_alike 3 = .ok (.iload_n 1, 1) := by decide +kernel
theorem dL_alike_4 : decode cL_alike 4 = .ok (.iload_n 2, 1) := by decide +kernel
theorem dL_alike_5 : decode cL_alike 5 = .ok (.invokevirtual 20, 3) := by decide +kernel
theorem dL_alike_8 : decode cL_alike 8 = .ok (.i2l, 1) := by decide +kernel
theorem dL_alike_9 : decode cL_alike 9 = .ok (.lastore, 1) := by decide +kernel
theorem dL_alike_10 : decode cL_alike 10 = .ok (.goto 7, 3) := by decide +kernel
theorem dL_alike_13 : decode cL_alike 13 = .ok (.astore 4, 2) := by decide +kernel
theorem dL_alike_15 : decode cL_alike 15 = .ok (.iconst 1, 1) := by decide +kernel
theorem dL_alike_16 : decode cL_alike 16 = .ok (.ireturn, 1) := by decide +kernel
theorem dL_alike_17 : decode cL_alike 17 = .ok (.iconst 0, 1) := by decide +kernel
theorem dL_alike_18 : decode cL_alike 18 = .ok (.ireturn, 1) := by decide +kernel
theorem dL_setKnotter_0 : decode cL_setKnotter 0 = .ok (.aload_n 3, 1) := by decide +kernel
theorem dL_setKnotter_1 : decode cL_setKnotter 1 = .ok (.iconst 0, 1) := by decide +kernel
theorem dL_setKnotter_2 : decode cL_setKnotter 2 = .ok (.aload_n 0, 1) := by decide +kernel
theorem dL_setKnotter_3 : decode cL_setKnotter 3 = .ok (.iload_n 1, 1) := by decide +kernel
theorem dL_setKnotter_4 : decode cL_setKnotter 4 = .ok (.iload_n 2, 1) := by decide +kernel
theorem dL_setKnotter_5 : decode cL_setKnotter 5 = .ok (.invokevirtual 23, 3) := by decide +kernel
theorem dL_setKnotter_8 : decode cL_setKnotter 8 = .ok (.i2l, 1) := by decide +kernel
theorem dL_setKnotter_9 : decode cL_setKnotter 9 = .ok (.lastore, 1) := by decide +kernel
theorem dL_setKnotter_10 : decode cL_setKnotter 10 = .ok (.goto 7, 3) := by decide +kernel
theorem dL_setKnotter_13 : decode cL_setKnotter 13 = .ok (.astore 4, 2) := by decide +kernel
theorem dL_setKnotter_15 : decode cL_setKnotter 15 = .ok (.iconst 1, 1) := by decide +kernel
theorem dL_setKnotter_16 : decode cL_setKnotter 16 = .ok (.ireturn, 1) := by decide +kernel
theorem dL_setKnotter_17 : decode cL_setKnotter 17 = .ok (.iconst 0, 1) := by decide +kernel
theorem dL_setKnotter_18 : decode cL_setKnotter 18 = .ok (.ireturn, 1) := by decide +kernel
theorem dL_setFeel_0 : decode cL_setFeel 0 = .ok (.aload 4, 2) := by decide +kernel
theorem dL_setFeel_2 : decode cL_setFeel 2 = .ok (.iconst 0, 1) := by decide +kernel
theorem dL_setFeel_3 : decode cL_setFeel 3 = .ok (.aload_n 0, 1) := by decide +kernel
theorem dL_setFeel_4 : decode cL_setFeel 4 = .ok (.iload_n 1, 1) := by decide +kernel
theorem dL_setFeel_5 : decode cL_setFeel 5 = .ok (.iload_n 2, 1) := by decide +kernel
theorem dL_setFeel_6 : decode cL_setFeel 6 = .ok (.iload_n 3, 1) := by decide +kernel
theorem dL_setFeel_7 : decode cL_setFeel 7 = .ok (.invokevirtual 26, 3) := by decide +kernel
theorem dL_setFeel_10 : decode cL_setFeel 10 = .ok (.i2l, 1) := by decide +kernel
theorem dL_setFeel_11 : decode cL_setFeel 11 = .ok (.lastore, 1) := by decide +kernel
