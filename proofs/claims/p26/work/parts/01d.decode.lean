theorem dX5_cord_138 : decode cX5_cord 138 = .ok (.invokestatic 188, 3) := by decide +kernel
theorem dX5_cord_141 : decode cX5_cord 141 = .ok (.ireturn, 1) := by decide +kernel
theorem dX5_cord_142 : decode cX5_cord 142 = .ok (.aload_n 0, 1) := by decide +kernel
theorem dX5_cord_143 : decode cX5_cord 143 = .ok (.getfield 35, 3) := by decide +kernel
theorem dX5_cord_146 : decode cX5_cord 146 = .ok (.aload_n 0, 1) := by decide +kernel
theorem dX5_cord_147 : decode cX5_cord 147 = .ok (.getfield 41, 3) := by decide +kernel
theorem dX5_cord_150 : decode cX5_cord 150 = .ok (.iload_n 1, 1) := by decide +kernel
theorem dX5_cord_151 : decode cX5_cord 151 = .ok (.aaload, 1) := by decide +kernel
theorem dX5_cord_152 : decode cX5_cord 152 = .ok (.invokevirtual 191, 3) := by decide +kernel
theorem dX5_cord_155 : decode cX5_cord 155 = .ok (.ireturn, 1) := by decide +kernel
theorem dX5_distance_0 : decode cX5_distance 0 = .ok (.aload_n 0, 1) := by decide +kernel
theorem dX5_distance_1 : decode cX5_distance 1 = .ok (.iload_n 1, 1) := by decide +kernel
theorem dX5_distance_2 : decode cX5_distance 2 = .ok (.invokevirtual 164, 3) := by decide +kernel
theorem dX5_distance_5 : decode cX5_distance 5 = .ok (.ifCond .ne 11, 3) := by decide +kernel
theorem dX5_distance_8 : decode cX5_distance 8 = .ok (.aload_n 0, 1) := by decide +kernel
theorem dX5_distance_9 : decode cX5_distance 9 = .ok (.iload_n 2, 1) := by decide +kernel
theorem dX5_distance_10 : decode cX5_distance 10 = .ok (.invokevirtual 164, 3) := by decide +kernel
theorem dX5_distance_13 : decode cX5_distance 13 = .ok (.ifCond .eq 13, 3) := by decide +kernel
theorem dX5_distance_16 : decode cX5_distance 16 = .ok (.new 57, 3) := by decide +kernel
theorem dX5_distance_19 : decode cX5_distance 19 = .ok (.dup, 1) := by decide +kernel
theorem dX5_distance_20 : decode cX5_distance 20 = .ok (.ldc 206, 2) := by decide +kernel
theorem dX5_distance_22 : decode cX5_distance 22 = .ok (.invokespecial 61, 3) := by decide +kernel
theorem dX5_distance_25 : decode cX5_distance 25 = .ok (.athrow, 1) := by decide +kernel
theorem dX5_distance_26 : decode cX5_distance 26 = .ok (.aload_n 0, 1) := by decide +kernel
theorem dX5_distance_27 : decode cX5_distance 27 = .ok (.iload_n 1, 1) := by decide +kernel
theorem dX5_distance_28 : decode cX5_distance 28 = .ok (.iload_n 2, 1) := by decide +kernel
theorem dX5_distance_29 : decode cX5_distance 29 = .ok (.invokevirtual 208, 3) := by decide +kernel
theorem dX5_distance_32 : decode cX5_distance 32 = .ok (.ireturn, 1) := by decide +kernel
theorem dX5_nearest_0 : decode cX5_nearest 0 = .ok (.aload_n 0, 1) := by decide +kernel
theorem dX5_nearest_1 : decode cX5_nearest 1 = .ok (.iload_n 1, 1) := by decide +kernel
theorem dX5_nearest_2 : decode cX5_nearest 2 = .ok (.invokevirtual 164, 3) := by decide +kernel
theorem dX5_nearest_5 : decode cX5_nearest 5 = .ok (.ifCond .eq 13, 3) := by decide +kernel
theorem dX5_nearest_8 : decode cX5_nearest 8 = .ok (.new 57, 3) := by decide +kernel
theorem dX5_nearest_11 : decode cX5_nearest 11 = .ok (.dup, 1) := by decide +kernel
theorem dX5_nearest_12 : decode cX5_nearest 12 = .ok (.ldc 206, 2) := by decide +kernel
theorem dX5_nearest_14 : decode cX5_nearest 14 = .ok (.invokespecial 61, 3) := by decide +kernel
theorem dX5_nearest_17 : decode cX5_nearest 17 = .ok (.athrow, 1) := by decide +kernel
theorem dX5_nearest_18 : decode cX5_nearest 18 = .ok (.iconst (-1), 1) := by decide +kernel
theorem dX5_nearest_19 : decode cX5_nearest 19 = .ok (.istore_n 2, 1) := by decide +kernel
theorem dX5_nearest_20 : decode cX5_nearest 20 = .ok (.iconst 0, 1) := by decide +kernel
theorem dX5_nearest_21 : decode cX5_nearest 21 = .ok (.istore_n 3, 1) := by decide +kernel
theorem dX5_nearest_22 : decode cX5_nearest 22 = .ok (.iconst 0, 1) := by decide +kernel
theorem dX5_nearest_23 : decode cX5_nearest 23 = .ok (.istore 4, 2) := by decide +kernel
theorem dX5_nearest_25 : decode cX5_nearest 25 = .ok (.iload 4, 2) := by decide +kernel
theorem dX5_nearest_27 : decode cX5_nearest 27 = .ok (.aload_n 0, 1) := by decide +kernel
theorem dX5_nearest_28 : decode cX5_nearest 28 = .ok (.getfield 148, 3) := by decide +kernel
theorem dX5_nearest_31 : decode cX5_nearest 31 = .ok (.if_icmp .ge 41, 3) := by decide +kernel
theorem dX5_nearest_34 : decode cX5_nearest 34 = .ok (.iload 4, 2) := by decide +kernel
theorem dX5_nearest_36 : decode cX5_nearest 36 = .ok (.iload_n 1, 1) := by decide +kernel
theorem dX5_nearest_37 : decode cX5_nearest 37 = .ok (.if_icmp .eq 29, 3) := by decide +kernel
theorem dX5_nearest_40 : decode cX5_nearest 40 = .ok (.aload_n 0, 1) := by decide +kernel
theorem dX5_nearest_41 : decode cX5_nearest 41 = .ok (.iload_n 1, 1) := by decide +kernel
theorem dX5_nearest_42 : decode cX5_nearest 42 = .ok (.iload 4, 2) := by decide +kernel
theorem dX5_nearest_44 : decode cX5_nearest 44 = .ok (.invokevirtual 208, 3) := by decide +kernel
theorem dX5_nearest_47 : decode cX5_nearest 47 = .ok (.istore 5, 2) := by decide +kernel
theorem dX5_nearest_49 : decode cX5_nearest 49 = .ok (.iload_n 2, 1) := by decide +kernel
theorem dX5_nearest_50 : decode cX5_nearest 50 = .ok (.iconst (-1), 1) := by decide +kernel
theorem dX5_nearest_51 : decode cX5_nearest 51 = .ok (.if_icmp .eq 9, 3) := by decide +kernel
theorem dX5_nearest_54 : decode cX5_nearest 54 = .ok (.iload 5, 2) := by decide +kernel
theorem dX5_nearest_56 : decode cX5_nearest 56 = .ok (.iload_n 3, 1) := by decide +kernel
theorem dX5_nearest_57 : decode cX5_nearest 57 = .ok (.if_icmp .ge 9, 3) := by decide +kernel
theorem dX5_nearest_60 : decode cX5_nearest 60 = .ok (.iload 4, 2) := by decide +kernel
theorem dX5_nearest_62 : decode cX5_nearest 62 = .ok (.istore_n 2, 1) := by decide +kernel
theorem dX5_nearest_63 : decode cX5_nearest 63 = .ok (.iload 5, 2) := by decide +kernel
theorem dX5_nearest_65 : decode cX5_nearest 65 = .ok (.istore_n 3, 1) := by decide +kernel
theorem dX5_nearest_66 : decode cX5_nearest 66 = .ok (.iinc 4 1, 3) := by decide +kernel
theorem dX5_nearest_69 : decode cX5_nearest 69 = .ok (.goto (-44), 3) := by decide +kernel
theorem dX5_nearest_72 : decode cX5_nearest 72 = .ok (.iload_n 2, 1) := by decide +kernel
theorem dX5_nearest_73 : decode cX5_nearest 73 = .ok (.ireturn, 1) := by decide +kernel
theorem dX5_read_0 : decode cX5_read 0 = .ok (.aload_n 0, 1) := by decide +kernel
theorem dX5_read_1 : decode cX5_read 1 = .ok (.iload_n 1, 1) := by decide +kernel
theorem dX5_read_2 : decode cX5_read 2 = .ok (.invokevirtual 164, 3) := by decide +kernel
theorem dX5_read_5 : decode cX5_read 5 = .ok (.ifCond .eq 13, 3) := by decide +kernel
theorem dX5_read_8 : decode cX5_read 8 = .ok (.new 57, 3) := by decide +kernel
theorem dX5_read_11 : decode cX5_read 11 = .ok (.dup, 1) := by decide +kernel
theorem dX5_read_12 : decode cX5_read 12 = .ok (.ldc 206, 2) := by decide +kernel
theorem dX5_read_14 : decode cX5_read 14 = .ok (.invokespecial 61, 3) := by decide +kernel
theorem dX5_read_17 : decode cX5_read 17 = .ok (.athrow, 1) := by decide +kernel
theorem dX5_read_18 : decode cX5_read 18 = .ok (.aload_n 0, 1) := by decide +kernel
theorem dX5_read_19 : decode cX5_read 19 = .ok (.aload_n 0, 1) := by decide +kernel
theorem dX5_read_20 : decode cX5_read 20 = .ok (.getfield 35, 3) := by decide +kernel
theorem dX5_read_23 : decode cX5_read 23 = .ok (.aload_n 0, 1) := by decide +kernel
theorem dX5_read_24 : decode cX5_read 24 = .ok (.getfield 41, 3) := by decide +kernel
theorem dX5_read_27 : decode cX5_read 27 = .ok (.iload_n 1, 1) := by decide +kernel
theorem dX5_read_28 : decode cX5_read 28 = .ok (.aaload, 1) := by decide +kernel
theorem dX5_read_29 : decode cX5_read 29 = .ok (.aload_n 0, 1) := by decide +kernel
theorem dX5_read_30 : decode cX5_read 30 = .ok (.getfield 50, 3) := by decide +kernel
theorem dX5_read_33 : decode cX5_read 33 = .ok (.invokevirtual 211, 3) := by decide +kernel
theorem dX5_read_36 : decode cX5_read 36 = .ok (.putfield 215, 3) := by decide +kernel
theorem dX5_read_39 : decode cX5_read 39 = .ok (.aload_n 0, 1) := by decide +kernel
theorem dX5_read_40 : decode cX5_read 40 = .ok (.getfield 215, 3) := by decide +kernel
theorem dX5_read_43 : decode cX5_read 43 = .ok (.ireturn, 1) := by decide +kernel
theorem dX5_byteAt_0 : decode cX5_byteAt 0 = .ok (.iload_n 1, 1) := by decide +kernel
theorem dX5_byteAt_1 : decode cX5_byteAt 1 = .ok (.ifCond .lt 11, 3) := by decide +kernel
theorem dX5_byteAt_4 : decode cX5_byteAt 4 = .ok (.iload_n 1, 1) := by decide +kernel
theorem dX5_byteAt_5 : decode cX5_byteAt 5 = .ok (.aload_n 0, 1) := by decide +kernel
theorem dX5_byteAt_6 : decode cX5_byteAt 6 = .ok (.getfield 215, 3) := by decide +kernel
theorem dX5_byteAt_9 : decode cX5_byteAt 9 = .ok (.if_icmp .lt 13, 3) := by decide +kernel
theorem dX5_byteAt_12 : decode cX5_byteAt 12 = .ok (.new 57, 3) := by decide +kernel
theorem dX5_byteAt_15 : decode cX5_byteAt 15 = .ok (.dup, 1) := by decide +kernel
theorem dX5_byteAt_16 : decode cX5_byteAt 16 = .ok (.ldc 218, 2) := by decide +kernel
theorem dX5_byteAt_18 : decode cX5_byteAt 18 = .ok (.invokespecial 61, 3) := by decide +kernel
theorem dX5_byteAt_21 : decode cX5_byteAt 21 = .ok (.athrow, 1) := by decide +kernel
theorem dX5_byteAt_22 : decode cX5_byteAt 22 = .ok (.aload_n 0, 1) := by decide +kernel
theorem dX5_byteAt_23 : decode cX5_byteAt 23 = .ok (.getfield 50, 3) := by decide +kernel
theorem dX5_byteAt_26 : decode cX5_byteAt 26 = .ok (.iload_n 1, 1) := by decide +kernel
theorem dX5_byteAt_27 : decode cX5_byteAt 27 = .ok (.iaload, 1) := by decide +kernel
theorem dX5_byteAt_28 : decode cX5_byteAt 28 = .ok (.ireturn, 1) := by decide +kernel
theorem dX5_count_0 : decode cX5_count 0 = .ok (.iload_n 1, 1) := by decide +kernel
theorem dX5_count_1 : decode cX5_count 1 = .ok (.ifCond .lt 9, 3) := by decide +kernel
theorem dX5_count_4 : decode cX5_count 4 = .ok (.iload_n 1, 1) := by decide +kernel
theorem dX5_count_5 : decode cX5_count 5 = .ok (.bipush 7, 2) := by decide +kernel
theorem dX5_count_7 : decode cX5_count 7 = .ok (.if_icmp .lt 13, 3) := by decide +kernel
theorem dX5_count_10 : decode cX5_count 10 = .ok (.new 57, 3) := by decide +kernel
theorem dX5_count_13 : decode cX5_count 13 = .ok (.dup, 1) := by decide +kernel
theorem dX5_count_14 : decode cX5_count 14 = .ok (.ldc 220, 2) := by decide +kernel
theorem dX5_count_16 : decode cX5_count 16 = .ok (.invokespecial 61, 3) := by decide +kernel
theorem dX5_count_19 : decode cX5_count 19 = .ok (.athrow, 1) := by decide +kernel
theorem dX5_count_20 : decode cX5_count 20 = .ok (.iload_n 1, 1) := by decide +kernel
theorem dX5_count_21 : decode cX5_count 21 = .ok (.tableswitch 81 0 5 #[39, 47, 52, 60, 68, 76], 39) := by decide +kernel
theorem dX5_count_60 : decode cX5_count 60 = .ok (.aload_n 0, 1) := by decide +kernel
theorem dX5_count_61 : decode cX5_count 61 = .ok (.getfield 10, 3) := by decide +kernel
theorem dX5_count_64 : decode cX5_count 64 = .ok (.invokevirtual 222, 3) := by decide +kernel
theorem dX5_count_67 : decode cX5_count 67 = .ok (.ireturn, 1) := by decide +kernel
theorem dX5_count_68 : decode cX5_count 68 = .ok (.aload_n 0, 1) := by decide +kernel
theorem dX5_count_69 : decode cX5_count 69 = .ok (.getfield 148, 3) := by decide +kernel
theorem dX5_count_72 : decode cX5_count 72 = .ok (.ireturn, 1) := by decide +kernel
theorem dX5_count_73 : decode cX5_count 73 = .ok (.aload_n 0, 1) := by decide +kernel
theorem dX5_count_74 : decode cX5_count 74 = .ok (.getfield 19, 3) := by decide +kernel
theorem dX5_count_77 : decode cX5_count 77 = .ok (.getfield 225, 3) := by decide +kernel
theorem dX5_count_80 : decode cX5_count 80 = .ok (.ireturn, 1) := by decide +kernel
theorem dX5_count_81 : decode cX5_count 81 = .ok (.aload_n 0, 1) := by decide +kernel
theorem dX5_count_82 : decode cX5_count 82 = .ok (.getfield 19, 3) := by decide +kernel
theorem dX5_count_85 : decode cX5_count 85 = .ok (.getfield 228, 3) := by decide +kernel
theorem dX5_count_88 : decode cX5_count 88 = .ok (.ireturn, 1) := by decide +kernel
theorem dX5_count_89 : decode cX5_count 89 = .ok (.aload_n 0, 1) := by decide +kernel
theorem dX5_count_90 : decode cX5_count 90 = .ok (.getfield 19, 3) := by decide +kernel
theorem dX5_count_93 : decode cX5_count 93 = .ok (.getfield 229, 3) := by decide +kernel
theorem dX5_count_96 : decode cX5_count 96 = .ok (.ireturn, 1) := by decide +kernel
theorem dX5_count_97 : decode cX5_count 97 = .ok (.aload_n 0, 1) := by decide +kernel
theorem dX5_count_98 : decode cX5_count 98 = .ok (.getfield 134, 3) := by decide +kernel
theorem dX5_count_101 : decode cX5_count 101 = .ok (.ireturn, 1) := by decide +kernel
theorem dX5_count_102 : decode cX5_count 102 = .ok (.aload_n 0, 1) := by decide +kernel
theorem dX5_count_103 : decode cX5_count 103 = .ok (.getfield 215, 3) := by decide +kernel
theorem dX5_count_106 : decode cX5_count 106 = .ok (.ireturn, 1) := by decide +kernel
theorem dX5_digest_0 : decode cX5_digest 0 = .ok (.ldc2_w 230, 3) := by decide +kernel
theorem dX5_digest_3 : decode cX5_digest 3 = .ok (.lstore_n 1, 1) := by decide +kernel
theorem dX5_digest_4 : decode cX5_digest 4 = .ok (.iconst 0, 1) := by decide +kernel
theorem dX5_digest_5 : decode cX5_digest 5 = .ok (.istore_n 3, 1) := by decide +kernel
theorem dX5_digest_6 : decode cX5_digest 6 = .ok (.iload_n 3, 1) := by decide +kernel
theorem dX5_digest_7 : decode cX5_digest 7 = .ok (.bipush 7, 2) := by decide +kernel
theorem dX5_digest_9 : decode cX5_digest 9 = .ok (.if_icmp .ge 19, 3) := by decide +kernel
theorem dX5_digest_12 : decode cX5_digest 12 = .ok (.lload_n 1, 1) := by decide +kernel
theorem dX5_digest_13 : decode cX5_digest 13 = .ok (.aload_n 0, 1) := by decide +kernel
theorem dX5_digest_14 : decode cX5_digest 14 = .ok (.iload_n 3, 1) := by decide +kernel
theorem dX5_digest_15 : decode cX5_digest 15 = .ok (.invokevirtual 232, 3) := by decide +kernel
theorem dX5_digest_18 : decode cX5_digest 18 = .ok (.invokestatic 235, 3) := by decide +kernel
theorem dX5_digest_21 : decode cX5_digest 21 = .ok (.lstore_n 1, 1) := by decide +kernel
theorem dX5_digest_22 : decode cX5_digest 22 = .ok (.iinc 3 1, 3) := by decide +kernel
theorem dX5_digest_25 : decode cX5_digest 25 = .ok (.goto (-19), 3) := by decide +kernel
theorem dX5_digest_28 : decode cX5_digest 28 = .ok (.iconst 0, 1) := by decide +kernel
theorem dX5_digest_29 : decode cX5_digest 29 = .ok (.istore_n 3, 1) := by decide +kernel
theorem dX5_digest_30 : decode cX5_digest 30 = .ok (.iload_n 3, 1) := by decide +kernel
theorem dX5_digest_31 : decode cX5_digest 31 = .ok (.bipush 12, 2) := by decide +kernel
theorem dX5_digest_33 : decode cX5_digest 33 = .ok (.if_icmp .ge 36, 3) := by decide +kernel
theorem dX5_digest_36 : decode cX5_digest 36 = .ok (.iconst 0, 1) := by decide +kernel
theorem dX5_digest_37 : decode cX5_digest 37 = .ok (.istore 4, 2) := by decide +kernel
theorem dX5_digest_39 : decode cX5_digest 39 = .ok (.iload 4, 2) := by decide +kernel
theorem dX5_digest_41 : decode cX5_digest 41 = .ok (.iconst 3, 1) := by decide +kernel
theorem dX5_digest_42 : decode cX5_digest 42 = .ok (.if_icmp .ge 21, 3) := by decide +kernel
theorem dX5_digest_45 : decode cX5_digest 45 = .ok (.lload_n 1, 1) := by decide +kernel
theorem dX5_digest_46 : decode cX5_digest 46 = .ok (.aload_n 0, 1) := by decide +kernel
theorem dX5_digest_47 : decode cX5_digest 47 = .ok (.iload_n 3, 1) := by decide +kernel
theorem dX5_digest_48 : decode cX5_digest 48 = .ok (.iload 4, 2) := by decide +kernel
theorem dX5_digest_50 : decode cX5_digest 50 = .ok (.invokevirtual 239, 3) := by decide +kernel
theorem dX5_digest_53 : decode cX5_digest 53 = .ok (.invokestatic 235, 3) := by decide +kernel
theorem dX5_digest_56 : decode cX5_digest 56 = .ok (.lstore_n 1, 1) := by decide +kernel
theorem dX5_digest_57 : decode cX5_digest 57 = .ok (.iinc 4 1, 3) := by decide +kernel
theorem dX5_digest_60 : decode cX5_digest 60 = .ok (.goto (-21), 3) := by decide +kernel
theorem dX5_digest_63 : decode cX5_digest 63 = .ok (.iinc 3 1, 3) := by decide +kernel
theorem dX5_digest_66 : decode cX5_digest 66 = .ok (.goto (-36), 3) := by decide +kernel
theorem dX5_digest_69 : decode cX5_digest 69 = .ok (.iconst 0, 1) := by decide +kernel
theorem dX5_digest_70 : decode cX5_digest 70 = .ok (.istore_n 3, 1) := by decide +kernel
theorem dX5_digest_71 : decode cX5_digest 71 = .ok (.iload_n 3, 1) := by decide +kernel
theorem dX5_digest_72 : decode cX5_digest 72 = .ok (.aload_n 0, 1) := by decide +kernel
theorem dX5_digest_73 : decode cX5_digest 73 = .ok (.getfield 148, 3) := by decide +kernel
theorem dX5_digest_76 : decode cX5_digest 76 = .ok (.if_icmp .ge 77, 3) := by decide +kernel
theorem dX5_digest_79 : decode cX5_digest 79 = .ok (.iconst 0, 1) := by decide +kernel
theorem dX5_digest_80 : decode cX5_digest 80 = .ok (.istore 4, 2) := by decide +kernel
theorem dX5_digest_82 : decode cX5_digest 82 = .ok (.iload 4, 2) := by decide +kernel
theorem dX5_digest_84 : decode cX5_digest 84 = .ok (.bipush 7, 2) := by decide +kernel
theorem dX5_digest_86 : decode cX5_digest 86 = .ok (.if_icmp .ge 21, 3) := by decide +kernel
theorem dX5_digest_89 : decode cX5_digest 89 = .ok (.lload_n 1, 1) := by decide +kernel
theorem dX5_digest_90 : decode cX5_digest 90 = .ok (.aload_n 0, 1) := by decide +kernel
theorem dX5_digest_91 : decode cX5_digest 91 = .ok (.iload_n 3, 1) := by decide +kernel
theorem dX5_digest_92 : decode cX5_digest 92 = .ok (.iload 4, 2) := by decide +kernel
theorem dX5_digest_94 : decode cX5_digest 94 = .ok (.invokevirtual 242, 3) := by decide +kernel
theorem dX5_digest_97 : decode cX5_digest 97 = .ok (.invokestatic 235, 3) := by decide +kernel
theorem dX5_digest_100 : decode cX5_digest 100 = .ok (.lstore_n 1, 1) := by decide +kernel
theorem dX5_digest_101 : decode cX5_digest 101 = .ok (.iinc 4 1, 3) := by decide +kernel
theorem dX5_digest_104 : decode cX5_digest 104 = .ok (.goto (-22), 3) := by decide +kernel
theorem dX5_digest_107 : decode cX5_digest 107 = .ok (.iconst 0, 1) := by decide +kernel
theorem dX5_digest_108 : decode cX5_digest 108 = .ok (.istore 4, 2) := by decide +kernel
theorem dX5_digest_110 : decode cX5_digest 110 = .ok (.iload 4, 2) := by decide +kernel
theorem dX5_digest_112 : decode cX5_digest 112 = .ok (.aload_n 0, 1) := by decide +kernel
theorem dX5_digest_113 : decode cX5_digest 113 = .ok (.getfield 41, 3) := by decide +kernel
theorem dX5_digest_116 : decode cX5_digest 116 = .ok (.iload_n 3, 1) := by decide +kernel
theorem dX5_digest_117 : decode cX5_digest 117 = .ok (.aaload, 1) := by decide +kernel
theorem dX5_digest_118 : decode cX5_digest 118 = .ok (.getfield 169, 3) := by decide +kernel
theorem dX5_digest_121 : decode cX5_digest 121 = .ok (.if_icmp .ge 26, 3) := by decide +kernel
theorem dX5_digest_124 : decode cX5_digest 124 = .ok (.lload_n 1, 1) := by decide +kernel
theorem dX5_digest_125 : decode cX5_digest 125 = .ok (.aload_n 0, 1) := by decide +kernel
theorem dX5_digest_126 : decode cX5_digest 126 = .ok (.getfield 41, 3) := by decide +kernel
theorem dX5_digest_129 : decode cX5_digest 129 = .ok (.iload_n 3, 1) := by decide +kernel
theorem dX5_digest_130 : decode cX5_digest 130 = .ok (.aaload, 1) := by decide +kernel
theorem dX5_digest_131 : decode cX5_digest 131 = .ok (.getfield 199, 3) := by decide +kernel
theorem dX5_digest_134 : decode cX5_digest 134 = .ok (.iload 4, 2) := by decide +kernel
theorem dX5_digest_136 : decode cX5_digest 136 = .ok (.iaload, 1) := by decide +kernel
theorem dX5_digest_137 : decode cX5_digest 137 = .ok (.invokestatic 235, 3) := by decide +kernel
theorem dX5_digest_140 : decode cX5_digest 140 = .ok (.lstore_n 1, 1) := by decide +kernel
theorem dX5_digest_141 : decode cX5_digest 141 = .ok (.iinc 4 1, 3) := by decide +kernel
theorem dX5_digest_144 : decode cX5_digest 144 = .ok (.goto (-34), 3) := by decide +kernel
theorem dX5_digest_147 : decode cX5_digest 147 = .ok (.iinc 3 1, 3) := by decide +kernel
theorem dX5_digest_150 : decode cX5_digest 150 = .ok (.goto (-79), 3) := by decide +kernel
theorem dX5_digest_153 : decode cX5_digest 153 = .ok (.iconst 0, 1) := by decide +kernel
theorem dX5_digest_154 : decode cX5_digest 154 = .ok (.istore_n 3, 1) := by decide +kernel
theorem dX5_digest_155 : decode cX5_digest 155 = .ok (.iload_n 3, 1) := by decide +kernel
theorem dX5_digest_156 : decode cX5_digest 156 = .ok (.aload_n 0, 1) := by decide +kernel
theorem dX5_digest_157 : decode cX5_digest 157 = .ok (.getfield 215, 3) := by decide +kernel
theorem dX5_digest_160 : decode cX5_digest 160 = .ok (.if_icmp .ge 20, 3) := by decide +kernel
theorem dX5_digest_163 : decode cX5_digest 163 = .ok (.lload_n 1, 1) := by decide +kernel
theorem dX5_digest_164 : decode cX5_digest 164 = .ok (.aload_n 0, 1) := by decide +kernel
theorem dX5_digest_165 : decode cX5_digest 165 = .ok (.getfield 50, 3) := by decide +kernel
theorem dX5_digest_168 : decode cX5_digest 168 = .ok (.iload_n 3, 1) := by decide +kernel
theorem dX5_digest_169 : decode cX5_digest 169 = .ok (.iaload, 1) := by decide +kernel
theorem dX5_digest_170 : decode cX5_digest 170 = .ok (.invokestatic 235, 3) := by decide +kernel
theorem dX5_digest_173 : decode cX5_digest 173 = .ok (.lstore_n 1, 1) := by decide +kernel
theorem dX5_digest_174 : decode cX5_digest 174 = .ok (.iinc 3 1, 3) := by decide +kernel
theorem dX5_digest_177 : decode cX5_digest 177 = .ok (.goto (-22), 3) := by decide +kernel
theorem dX5_digest_180 : decode cX5_digest 180 = .ok (.lload_n 1, 1) := by decide +kernel
theorem dX5_digest_181 : decode cX5_digest 181 = .ok (.lreturn, 1) := by decide +kernel
theorem dX5_isNoLetter_0 : decode cX5_isNoLetter 0 = .ok (.iload_n 0, 1) := by decide +kernel
theorem dX5_isNoLetter_1 : decode cX5_isNoLetter 1 = .ok (.ifCond .lt 9, 3) := by decide +kernel
theorem dX5_isNoLetter_4 : decode cX5_isNoLetter 4 = .ok (.iload_n 0, 1) := by decide +kernel
theorem dX5_isNoLetter_5 : decode cX5_isNoLetter 5 = .ok (.bipush 12, 2) := by decide +kernel
theorem dX5_isNoLetter_7 : decode cX5_isNoLetter 7 = .ok (.if_icmp .lt 7, 3) := by decide +kernel
theorem dX5_isNoLetter_10 : decode cX5_isNoLetter 10 = .ok (.iconst 1, 1) := by decide +kernel
theorem dX5_isNoLetter_11 : decode cX5_isNoLetter 11 = .ok (.goto 4, 3) := by decide +kernel
theorem dX5_isNoLetter_14 : decode cX5_isNoLetter 14 = .ok (.iconst 0, 1) := by decide +kernel
theorem dX5_isNoLetter_15 : decode cX5_isNoLetter 15 = .ok (.ireturn, 1) := by decide +kernel
theorem dX5_isNoKind_0 : decode cX5_isNoKind 0 = .ok (.iload_n 0, 1) := by decide +kernel
theorem dX5_isNoKind_1 : decode cX5_isNoKind 1 = .ok (.iconst 1, 1) := by decide +kernel
theorem dX5_isNoKind_2 : decode cX5_isNoKind 2 = .ok (.if_icmp .lt 8, 3) := by decide +kernel
theorem dX5_isNoKind_5 : decode cX5_isNoKind 5 = .ok (.iload_n 0, 1) := by decide +kernel
theorem dX5_isNoKind_6 : decode cX5_isNoKind 6 = .ok (.iconst 4, 1) := by decide +kernel
theorem dX5_isNoKind_7 : decode cX5_isNoKind 7 = .ok (.if_icmp .le 7, 3) := by decide +kernel
theorem dX5_isNoKind_10 : decode cX5_isNoKind 10 = .ok (.iconst 1, 1) := by decide +kernel
theorem dX5_isNoKind_11 : decode cX5_isNoKind 11 = .ok (.goto 4, 3) := by decide +kernel
theorem dX5_isNoKind_14 : decode cX5_isNoKind 14 = .ok (.iconst 0, 1) := by decide +kernel
theorem dX5_isNoKind_15 : decode cX5_isNoKind 15 = .ok (.ireturn, 1) := by decide +kernel
theorem dX5_isNoCord_0 : decode cX5_isNoCord 0 = .ok (.iload_n 1, 1) := by decide +kernel
theorem dX5_isNoCord_1 : decode cX5_isNoCord 1 = .ok (.ifCond .lt 11, 3) := by decide +kernel
theorem dX5_isNoCord_4 : decode cX5_isNoCord 4 = .ok (.iload_n 1, 1) := by decide +kernel
theorem dX5_isNoCord_5 : decode cX5_isNoCord 5 = .ok (.aload_n 0, 1) := by decide +kernel
theorem dX5_isNoCord_6 : decode cX5_isNoCord 6 = .ok (.getfield 148, 3) := by decide +kernel
theorem dX5_isNoCord_9 : decode cX5_isNoCord 9 = .ok (.if_icmp .lt 7, 3) := by decide +kernel
theorem dX5_isNoCord_12 : decode cX5_isNoCord 12 = .ok (.iconst 1, 1) := by decide +kernel
theorem dX5_isNoCord_13 : decode cX5_isNoCord 13 = .ok (.goto 4, 3) := by decide +kernel
theorem dX5_isNoCord_16 : decode cX5_isNoCord 16 = .ok (.iconst 0, 1) := by decide +kernel
theorem dX5_isNoCord_17 : decode cX5_isNoCord 17 = .ok (.ireturn, 1) := by decide +kernel
theorem dX5_mixed_0 : decode cX5_mixed 0 = .ok (.lload_n 0, 1) := by decide +kernel
theorem dX5_mixed_1 : decode cX5_mixed 1 = .ok (.ldc2_w 245, 3) := by decide +kernel
theorem dX5_mixed_4 : decode cX5_mixed 4 = .ok (.lmul, 1) := by decide +kernel
theorem dX5_mixed_5 : decode cX5_mixed 5 = .ok (.iload_n 2, 1) := by decide +kernel
theorem dX5_mixed_6 : decode cX5_mixed 6 = .ok (.i2l, 1) := by decide +kernel
theorem dX5_mixed_7 : decode cX5_mixed 7 = .ok (.ladd, 1) := by decide +kernel
theorem dX5_mixed_8 : decode cX5_mixed 8 = .ok (.lreturn, 1) := by decide +kernel
theorem dX5_letterDistance_0 : decode cX5_letterDistance 0 = .ok (.aload_n 0, 1) := by decide +kernel
theorem dX5_letterDistance_1 : decode cX5_letterDistance 1 = .ok (.getfield 10, 3) := by decide +kernel
theorem dX5_letterDistance_4 : decode cX5_letterDistance 4 = .ok (.getfield 72, 3) := by decide +kernel
theorem dX5_letterDistance_7 : decode cX5_letterDistance 7 = .ok (.iload_n 1, 1) := by decide +kernel
theorem dX5_letterDistance_8 : decode cX5_letterDistance 8 = .ok (.iaload, 1) := by decide +kernel
theorem dX5_letterDistance_9 : decode cX5_letterDistance 9 = .ok (.ifCond .eq 15, 3) := by decide +kernel
theorem dX5_letterDistance_12 : decode cX5_letterDistance 12 = .ok (.aload_n 0, 1) := by decide +kernel
theorem dX5_letterDistance_13 : decode cX5_letterDistance 13 = .ok (.getfield 10, 3) := by decide +kernel
theorem dX5_letterDistance_16 : decode cX5_letterDistance 16 = .ok (.getfield 72, 3) := by decide +kernel
theorem dX5_letterDistance_19 : decode cX5_letterDistance 19 = .ok (.iload_n 2, 1) := by decide +kernel
theorem dX5_letterDistance_20 : decode cX5_letterDistance 20 = .ok (.iaload, 1) := by decide +kernel
theorem dX5_letterDistance_21 : decode cX5_letterDistance 21 = .ok (.ifCond .ne 5, 3) := by decide +kernel
theorem dX5_letterDistance_24 : decode cX5_letterDistance 24 = .ok (.iconst (-1), 1) := by decide +kernel
theorem dX5_letterDistance_25 : decode cX5_letterDistance 25 = .ok (.ireturn, 1) := by decide +kernel
theorem dX5_letterDistance_26 : decode cX5_letterDistance 26 = .ok (.aload_n 0, 1) := by decide +kernel
theorem dX5_letterDistance_27 : decode cX5_letterDistance 27 = .ok (.getfield 26, 3) := by decide +kernel
theorem dX5_letterDistance_30 : decode cX5_letterDistance 30 = .ok (.aload_n 0, 1) := by decide +kernel
theorem dX5_letterDistance_31 : decode cX5_letterDistance 31 = .ok (.getfield 10, 3) := by decide +kernel
theorem dX5_letterDistance_34 : decode cX5_letterDistance 34 = .ok (.getfield 247, 3) := by decide +kernel
theorem dX5_letterDistance_37 : decode cX5_letterDistance 37 = .ok (.iload_n 1, 1) := by decide +kernel
theorem dX5_letterDistance_38 : decode cX5_letterDistance 38 = .ok (.iconst 4, 1) := by decide +kernel
theorem dX5_letterDistance_39 : decode cX5_letterDistance 39 = .ok (.imul, 1) := by decide +kernel
theorem dX5_letterDistance_40 : decode cX5_letterDistance 40 = .ok (.aload_n 0, 1) := by decide +kernel
theorem dX5_letterDistance_41 : decode cX5_letterDistance 41 = .ok (.getfield 10, 3) := by decide +kernel
theorem dX5_letterDistance_44 : decode cX5_letterDistance 44 = .ok (.getfield 81, 3) := by decide +kernel
theorem dX5_letterDistance_47 : decode cX5_letterDistance 47 = .ok (.iload_n 1, 1) := by decide +kernel
theorem dX5_letterDistance_48 : decode cX5_letterDistance 48 = .ok (.iaload, 1) := by decide +kernel
theorem dX5_letterDistance_49 : decode cX5_letterDistance 49 = .ok (.aload_n 0, 1) := by decide +kernel
theorem dX5_letterDistance_50 : decode cX5_letterDistance 50 = .ok (.getfield 10, 3) := by decide +kernel
theorem dX5_letterDistance_53 : decode cX5_letterDistance 53 = .ok (.getfield 247, 3) := by decide +kernel
theorem dX5_letterDistance_56 : decode cX5_letterDistance 56 = .ok (.iload_n 2, 1) := by decide +kernel
theorem dX5_letterDistance_57 : decode cX5_letterDistance 57 = .ok (.iconst 4, 1) := by decide +kernel
theorem dX5_letterDistance_58 : decode cX5_letterDistance 58 = .ok (.imul, 1) := by decide +kernel
theorem dX5_letterDistance_59 : decode cX5_letterDistance 59 = .ok (.aload_n 0, 1) := by decide +kernel
theorem dX5_letterDistance_60 : decode cX5_letterDistance 60 = .ok (.getfield 10, 3) := by decide +kernel
theorem dX5_letterDistance_63 : decode cX5_letterDistance 63 = .ok (.getfield 81, 3) := by decide +kernel
theorem dX5_letterDistance_66 : decode cX5_letterDistance 66 = .ok (.iload_n 2, 1) := by decide +kernel
theorem dX5_letterDistance_67 : decode cX5_letterDistance 67 = .ok (.iaload, 1) := by decide +kernel
theorem dX5_letterDistance_68 : decode cX5_letterDistance 68 = .ok (.invokevirtual 250, 3) := by decide +kernel
theorem dX5_letterDistance_71 : decode cX5_letterDistance 71 = .ok (.ireturn, 1) := by decide +kernel
theorem dX5_cordDistance_0 : decode cX5_cordDistance 0 = .ok (.aload_n 0, 1) := by decide +kernel
theorem dX5_cordDistance_1 : decode cX5_cordDistance 1 = .ok (.getfield 26, 3) := by decide +kernel
theorem dX5_cordDistance_4 : decode cX5_cordDistance 4 = .ok (.aload_n 0, 1) := by decide +kernel
theorem dX5_cordDistance_5 : decode cX5_cordDistance 5 = .ok (.getfield 41, 3) := by decide +kernel
theorem dX5_cordDistance_8 : decode cX5_cordDistance 8 = .ok (.iload_n 1, 1) := by decide +kernel
theorem dX5_cordDistance_9 : decode cX5_cordDistance 9 = .ok (.aaload, 1) := by decide +kernel
theorem dX5_cordDistance_10 : decode cX5_cordDistance 10 = .ok (.getfield 199, 3) := by decide +kernel
theorem dX5_cordDistance_13 : decode cX5_cordDistance 13 = .ok (.iconst 0, 1) := by decide +kernel
theorem dX5_cordDistance_14 : decode cX5_cordDistance 14 = .ok (.aload_n 0, 1) := by decide +kernel
theorem dX5_cordDistance_15 : decode cX5_cordDistance 15 = .ok (.getfield 41, 3) := by decide +kernel
theorem dX5_cordDistance_18 : decode cX5_cordDistance 18 = .ok (.iload_n 1, 1) := by decide +kernel
theorem dX5_cordDistance_19 : decode cX5_cordDistance 19 = .ok (.aaload, 1) := by decide +kernel
theorem dX5_cordDistance_20 : decode cX5_cordDistance 20 = .ok (.getfield 169, 3) := by decide +kernel
theorem dX5_cordDistance_23 : decode cX5_cordDistance 23 = .ok (.aload_n 0, 1) := by decide +kernel
theorem dX5_cordDistance_24 : decode cX5_cordDistance 24 = .ok (.getfield 41, 3) := by decide +kernel
theorem dX5_cordDistance_27 : decode cX5_cordDistance 27 = .ok (.iload_n 2, 1) := by decide +kernel
theorem dX5_cordDistance_28 : decode cX5_cordDistance 28 = .ok (.aaload, 1) := by decide +kernel
theorem dX5_cordDistance_29 : decode cX5_cordDistance 29 = .ok (.getfield 199, 3) := by decide +kernel
theorem dX5_cordDistance_32 : decode cX5_cordDistance 32 = .ok (.iconst 0, 1) := by decide +kernel
theorem dX5_cordDistance_33 : decode cX5_cordDistance 33 = .ok (.aload_n 0, 1) := by decide +kernel
theorem dX5_cordDistance_34 : decode cX5_cordDistance 34 = .ok (.getfield 41, 3) := by decide +kernel
theorem dX5_cordDistance_37 : decode cX5_cordDistance 37 = .ok (.iload_n 2, 1) := by decide +kernel
theorem dX5_cordDistance_38 : decode cX5_cordDistance 38 = .ok (.aaload, 1) := by decide +kernel
theorem dX5_cordDistance_39 : decode cX5_cordDistance 39 = .ok (.getfield 169, 3) := by decide +kernel
theorem dX5_cordDistance_42 : decode cX5_cordDistance 42 = .ok (.invokevirtual 250, 3) := by decide +kernel
theorem dX5_cordDistance_45 : decode cX5_cordDistance 45 = .ok (.ireturn, 1) := by decide +kernel
theorem dX5_appendNumber_0 : decode cX5_appendNumber 0 = .ok (.bipush 24, 2) := by decide +kernel
theorem dX5_appendNumber_2 : decode cX5_appendNumber 2 = .ok (.istore_n 2, 1) := by decide +kernel
theorem dX5_appendNumber_3 : decode cX5_appendNumber 3 = .ok (.iload_n 2, 1) := by decide +kernel
theorem dX5_appendNumber_4 : decode cX5_appendNumber 4 = .ok (.ifCond .lt 44, 3) := by decide +kernel
theorem dX5_appendNumber_7 : decode cX5_appendNumber 7 = .ok (.aload_n 0, 1) := by decide +kernel
theorem dX5_appendNumber_8 : decode cX5_appendNumber 8 = .ok (.getfield 134, 3) := by decide +kernel
theorem dX5_appendNumber_11 : decode cX5_appendNumber 11 = .ok (.bipush 80, 2) := by decide +kernel
theorem dX5_appendNumber_13 : decode cX5_appendNumber 13 = .ok (.if_icmp .ge 29, 3) := by decide +kernel
theorem dX5_appendNumber_16 : decode cX5_appendNumber 16 = .ok (.aload_n 0, 1) := by decide +kernel
theorem dX5_appendNumber_17 : decode cX5_appendNumber 17 = .ok (.getfield 46, 3) := by decide +kernel
theorem dX5_appendNumber_20 : decode cX5_appendNumber 20 = .ok (.aload_n 0, 1) := by decide +kernel
theorem dX5_appendNumber_21 : decode cX5_appendNumber 21 = .ok (.getfield 134, 3) := by decide +kernel
theorem dX5_appendNumber_24 : decode cX5_appendNumber 24 = .ok (.iload_n 1, 1) := by decide +kernel
theorem dX5_appendNumber_25 : decode cX5_appendNumber 25 = .ok (.iload_n 2, 1) := by decide +kernel
theorem dX5_appendNumber_26 : decode cX5_appendNumber 26 = .ok (.iushr, 1) := by decide +kernel
theorem dX5_appendNumber_27 : decode cX5_appendNumber 27 = .ok (.sipush 255, 3) := by decide +kernel
theorem dX5_appendNumber_30 : decode cX5_appendNumber 30 = .ok (.iand, 1) := by decide +kernel
theorem dX5_appendNumber_31 : decode cX5_appendNumber 31 = .ok (.iastore, 1) := by decide +kernel
theorem dX5_appendNumber_32 : decode cX5_appendNumber 32 = .ok (.aload_n 0, 1) := by decide +kernel
theorem dX5_appendNumber_33 : decode cX5_appendNumber 33 = .ok (.dup, 1) := by decide +kernel
theorem dX5_appendNumber_34 : decode cX5_appendNumber 34 = .ok (.getfield 134, 3) := by decide +kernel
theorem dX5_appendNumber_37 : decode cX5_appendNumber 37 = .ok (.iconst 1, 1) := by decide +kernel
theorem dX5_appendNumber_38 : decode cX5_appendNumber 38 = .ok (.iadd, 1) := by decide +kernel
theorem dX5_appendNumber_39 : decode cX5_appendNumber 39 = .ok (.putfield 134, 3) := by decide +kernel
theorem dX5_appendNumber_42 : decode cX5_appendNumber 42 = .ok (.iinc 2 (-8), 3) := by decide +kernel
theorem dX5_appendNumber_45 : decode cX5_appendNumber 45 = .ok (.goto (-42), 3) := by decide +kernel
theorem dX5_appendNumber_48 : decode cX5_appendNumber 48 = .ok (.return_, 1) := by decide +kernel
theorem dX5_letterOfByte_0 : decode cX5_letterOfByte 0 = .ok (.iload_n 1, 1) := by decide +kernel
theorem dX5_letterOfByte_1 : decode cX5_letterOfByte 1 = .ok (.bipush 97, 2) := by decide +kernel
theorem dX5_letterOfByte_3 : decode cX5_letterOfByte 3 = .ok (.isub, 1) := by decide +kernel
theorem dX5_letterOfByte_4 : decode cX5_letterOfByte 4 = .ok (.istore_n 2, 1) := by decide +kernel
theorem dX5_letterOfByte_5 : decode cX5_letterOfByte 5 = .ok (.iload_n 2, 1) := by decide +kernel
theorem dX5_letterOfByte_6 : decode cX5_letterOfByte 6 = .ok (.invokestatic 53, 3) := by decide +kernel
theorem dX5_letterOfByte_9 : decode cX5_letterOfByte 9 = .ok (.ifCond .ne 15, 3) := by decide +kernel
theorem dX5_letterOfByte_12 : decode cX5_letterOfByte 12 = .ok (.aload_n 0, 1) := by decide +kernel
theorem dX5_letterOfByte_13 : decode cX5_letterOfByte 13 = .ok (.getfield 10, 3) := by decide +kernel
theorem dX5_letterOfByte_16 : decode cX5_letterOfByte 16 = .ok (.getfield 72, 3) := by decide +kernel
theorem dX5_letterOfByte_19 : decode cX5_letterOfByte 19 = .ok (.iload_n 2, 1) := by decide +kernel
theorem dX5_letterOfByte_20 : decode cX5_letterOfByte 20 = .ok (.iaload, 1) := by decide +kernel
theorem dX5_letterOfByte_21 : decode cX5_letterOfByte 21 = .ok (.ifCond .ne 7, 3) := by decide +kernel
theorem dX5_letterOfByte_24 : decode cX5_letterOfByte 24 = .ok (.iconst (-1), 1) := by decide +kernel
theorem dX5_letterOfByte_25 : decode cX5_letterOfByte 25 = .ok (.goto 4, 3) := by decide +kernel
theorem dX5_letterOfByte_28 : decode cX5_letterOfByte 28 = .ok (.iload_n 2, 1) := by decide +kernel
theorem dX5_letterOfByte_29 : decode cX5_letterOfByte 29 = .ok (.ireturn, 1) := by decide +kernel
theorem dX5_placesOnTape_0 : decode cX5_placesOnTape 0 = .ok (.iconst 0, 1) := by decide +kernel
theorem dX5_placesOnTape_1 : decode cX5_placesOnTape 1 = .ok (.istore_n 1, 1) := by decide +kernel
theorem dX5_placesOnTape_2 : decode cX5_placesOnTape 2 = .ok (.iconst 0, 1) := by decide +kernel
theorem dX5_placesOnTape_3 : decode cX5_placesOnTape 3 = .ok (.istore_n 2, 1) := by decide +kernel
theorem dX5_placesOnTape_4 : decode cX5_placesOnTape 4 = .ok (.iload_n 2, 1) := by decide +kernel
theorem dX5_placesOnTape_5 : decode cX5_placesOnTape 5 = .ok (.aload_n 0, 1) := by decide +kernel
theorem dX5_placesOnTape_6 : decode cX5_placesOnTape 6 = .ok (.getfield 134, 3) := by decide +kernel
theorem dX5_placesOnTape_9 : decode cX5_placesOnTape 9 = .ok (.if_icmp .ge 54, 3) := by decide +kernel
theorem dX5_placesOnTape_12 : decode cX5_placesOnTape 12 = .ok (.aload_n 0, 1) := by decide +kernel
theorem dX5_placesOnTape_13 : decode cX5_placesOnTape 13 = .ok (.aload_n 0, 1) := by decide +kernel
theorem dX5_placesOnTape_14 : decode cX5_placesOnTape 14 = .ok (.getfield 46, 3) := by decide +kernel
theorem dX5_placesOnTape_17 : decode cX5_placesOnTape 17 = .ok (.iload_n 2, 1) := by decide +kernel
theorem dX5_placesOnTape_18 : decode cX5_placesOnTape 18 = .ok (.iaload, 1) := by decide +kernel
theorem dX5_placesOnTape_19 : decode cX5_placesOnTape 19 = .ok (.invokevirtual 254, 3) := by decide +kernel
theorem dX5_placesOnTape_22 : decode cX5_placesOnTape 22 = .ok (.istore_n 3, 1) := by decide +kernel
theorem dX5_placesOnTape_23 : decode cX5_placesOnTape 23 = .ok (.iload_n 3, 1) := by decide +kernel
theorem dX5_placesOnTape_24 : decode cX5_placesOnTape 24 = .ok (.iconst (-1), 1) := by decide +kernel
theorem dX5_placesOnTape_25 : decode cX5_placesOnTape 25 = .ok (.if_icmp .eq 18, 3) := by decide +kernel
theorem dX5_placesOnTape_28 : decode cX5_placesOnTape 28 = .ok (.iload_n 1, 1) := by decide +kernel
theorem dX5_placesOnTape_29 : decode cX5_placesOnTape 29 = .ok (.aload_n 0, 1) := by decide +kernel
theorem dX5_placesOnTape_30 : decode cX5_placesOnTape 30 = .ok (.getfield 10, 3) := by decide +kernel
theorem dX5_placesOnTape_33 : decode cX5_placesOnTape 33 = .ok (.getfield 81, 3) := by decide +kernel
theorem dX5_placesOnTape_36 : decode cX5_placesOnTape 36 = .ok (.iload_n 3, 1) := by decide +kernel
theorem dX5_placesOnTape_37 : decode cX5_placesOnTape 37 = .ok (.iaload, 1) := by decide +kernel
theorem dX5_placesOnTape_38 : decode cX5_placesOnTape 38 = .ok (.iadd, 1) := by decide +kernel
theorem dX5_placesOnTape_39 : decode cX5_placesOnTape 39 = .ok (.istore_n 1, 1) := by decide +kernel
theorem dX5_placesOnTape_40 : decode cX5_placesOnTape 40 = .ok (.goto 17, 3) := by decide +kernel
theorem dX5_placesOnTape_43 : decode cX5_placesOnTape 43 = .ok (.aload_n 0, 1) := by decide +kernel
theorem dX5_placesOnTape_44 : decode cX5_placesOnTape 44 = .ok (.getfield 46, 3) := by decide +kernel
theorem dX5_placesOnTape_47 : decode cX5_placesOnTape 47 = .ok (.iload_n 2, 1) := by decide +kernel
theorem dX5_placesOnTape_48 : decode cX5_placesOnTape 48 = .ok (.iaload, 1) := by decide +kernel
theorem dX5_placesOnTape_49 : decode cX5_placesOnTape 49 = .ok (.bipush 32, 2) := by decide +kernel
theorem dX5_placesOnTape_51 : decode cX5_placesOnTape 51 = .ok (.if_icmp .ne 6, 3) := by decide +kernel
theorem dX5_placesOnTape_54 : decode cX5_placesOnTape 54 = .ok (.iinc 1 1, 3) := by decide +kernel
theorem dX5_placesOnTape_57 : decode cX5_placesOnTape 57 = .ok (.iinc 2 1, 3) := by decide +kernel
theorem dX5_placesOnTape_60 : decode cX5_placesOnTape 60 = .ok (.goto (-56), 3) := by decide +kernel
theorem dX5_placesOnTape_63 : decode cX5_placesOnTape 63 = .ok (.iload_n 1, 1) := by decide +kernel
theorem dX5_placesOnTape_64 : decode cX5_placesOnTape 64 = .ok (.ireturn, 1) := by decide +kernel
theorem dX5_isTapeText_0 : decode cX5_isTapeText 0 = .ok (.iconst 0, 1) := by decide +kernel
theorem dX5_isTapeText_1 : decode cX5_isTapeText 1 = .ok (.istore_n 1, 1) := by decide +kernel
theorem dX5_isTapeText_2 : decode cX5_isTapeText 2 = .ok (.iload_n 1, 1) := by decide +kernel
theorem dX5_isTapeText_3 : decode cX5_isTapeText 3 = .ok (.aload_n 0, 1) := by decide +kernel
theorem dX5_isTapeText_4 : decode cX5_isTapeText 4 = .ok (.getfield 134, 3) := by decide +kernel
theorem dX5_isTapeText_7 : decode cX5_isTapeText 7 = .ok (.if_icmp .ge 36, 3) := by decide +kernel
theorem dX5_isTapeText_10 : decode cX5_isTapeText 10 = .ok (.aload_n 0, 1) := by decide +kernel
theorem dX5_isTapeText_11 : decode cX5_isTapeText 11 = .ok (.getfield 46, 3) := by decide +kernel
theorem dX5_isTapeText_14 : decode cX5_isTapeText 14 = .ok (.iload_n 1, 1) := by decide +kernel
theorem dX5_isTapeText_15 : decode cX5_isTapeText 15 = .ok (.iaload, 1) := by decide +kernel
theorem dX5_isTapeText_16 : decode cX5_isTapeText 16 = .ok (.bipush 32, 2) := by decide +kernel
theorem dX5_isTapeText_18 : decode cX5_isTapeText 18 = .ok (.if_icmp .eq 19, 3) := by decide +kernel
theorem dX5_isTapeText_21 : decode cX5_isTapeText 21 = .ok (.aload_n 0, 1) := by decide +kernel
theorem dX5_isTapeText_22 : decode cX5_isTapeText 22 = .ok (.aload_n 0, 1) := by decide +kernel
theorem dX5_isTapeText_23 : decode cX5_isTapeText 23 = .ok (.getfield 46, 3) := by decide +kernel
theorem dX5_isTapeText_26 : decode cX5_isTapeText 26 = .ok (.iload_n 1, 1) := by decide +kernel
theorem dX5_isTapeText_27 : decode cX5_isTapeText 27 = .ok (.iaload, 1) := by decide +kernel
theorem dX5_isTapeText_28 : decode cX5_isTapeText 28 = .ok (.invokevirtual 254, 3) := by decide +kernel
theorem dX5_isTapeText_31 : decode cX5_isTapeText 31 = .ok (.iconst (-1), 1) := by decide +kernel
theorem dX5_isTapeText_32 : decode cX5_isTapeText 32 = .ok (.if_icmp .ne 5, 3) := by decide +kernel
theorem dX5_isTapeText_35 : decode cX5_isTapeText 35 = .ok (.iconst 0, 1) := by decide +kernel
theorem dX5_isTapeText_36 : decode cX5_isTapeText 36 = .ok (.ireturn, 1) := by decide +kernel
theorem dX5_isTapeText_37 : decode cX5_isTapeText 37 = .ok (.iinc 1 1, 3) := by decide +kernel
theorem dX5_isTapeText_40 : decode cX5_isTapeText 40 = .ok (.goto (-38), 3) := by decide +kernel
theorem dX5_isTapeText_43 : decode cX5_isTapeText 43 = .ok (.iconst 1, 1) := by decide +kernel
theorem dX5_isTapeText_44 : decode cX5_isTapeText 44 = .ok (.ireturn, 1) := by decide +kernel
theorem dX5_tieByte_0 : decode cX5_tieByte 0 = .ok (.aload_n 0, 1) := by decide +kernel
theorem dX5_tieByte_1 : decode cX5_tieByte 1 = .ok (.iload_n 2, 1) := by decide +kernel
theorem dX5_tieByte_2 : decode cX5_tieByte 2 = .ok (.invokevirtual 254, 3) := by decide +kernel
theorem dX5_tieByte_5 : decode cX5_tieByte 5 = .ok (.istore_n 3, 1) := by decide +kernel
theorem dX5_tieByte_6 : decode cX5_tieByte 6 = .ok (.iload_n 3, 1) := by decide +kernel
theorem dX5_tieByte_7 : decode cX5_tieByte 7 = .ok (.iconst (-1), 1) := by decide +kernel
theorem dX5_tieByte_8 : decode cX5_tieByte 8 = .ok (.if_icmp .ne 8, 3) := by decide +kernel
theorem dX5_tieByte_11 : decode cX5_tieByte 11 = .ok (.aload_n 1, 1) := by decide +kernel
theorem dX5_tieByte_12 : decode cX5_tieByte 12 = .ok (.invokevirtual 257, 3) := by decide +kernel
theorem dX5_tieByte_15 : decode cX5_tieByte 15 = .ok (.return_, 1) := by decide +kernel
theorem dX5_tieByte_16 : decode cX5_tieByte 16 = .ok (.aload_n 0, 1) := by decide +kernel
theorem dX5_tieByte_17 : decode cX5_tieByte 17 = .ok (.getfield 10, 3) := by decide +kernel
theorem dX5_tieByte_20 : decode cX5_tieByte 20 = .ok (.getfield 84, 3) := by decide +kernel
theorem dX5_tieByte_23 : decode cX5_tieByte 23 = .ok (.iload_n 3, 1) := by decide +kernel
theorem dX5_tieByte_24 : decode cX5_tieByte 24 = .ok (.dup2, 1) := by decide +kernel
theorem dX5_tieByte_25 : decode cX5_tieByte 25 = .ok (.iaload, 1) := by decide +kernel
theorem dX5_tieByte_26 : decode cX5_tieByte 26 = .ok (.iconst 1, 1) := by decide +kernel
theorem dX5_tieByte_27 : decode cX5_tieByte 27 = .ok (.iadd, 1) := by decide +kernel
theorem dX5_tieByte_28 : decode cX5_tieByte 28 = .ok (.iastore, 1) := by decide +kernel
theorem dX5_tieByte_29 : decode cX5_tieByte 29 = .ok (.iconst 0, 1) := by decide +kernel
theorem dX5_tieByte_30 : decode cX5_tieByte 30 = .ok (.istore 4, 2) := by decide +kernel
theorem dX5_tieByte_32 : decode cX5_tieByte 32 = .ok (.iload 4, 2) := by decide +kernel
theorem dX5_tieByte_34 : decode cX5_tieByte 34 = .ok (.aload_n 0, 1) := by decide +kernel
theorem dX5_tieByte_35 : decode cX5_tieByte 35 = .ok (.getfield 10, 3) := by decide +kernel
theorem dX5_tieByte_38 : decode cX5_tieByte 38 = .ok (.getfield 81, 3) := by decide +kernel
theorem dX5_tieByte_41 : decode cX5_tieByte 41 = .ok (.iload_n 3, 1) := by decide +kernel
theorem dX5_tieByte_42 : decode cX5_tieByte 42 = .ok (.iaload, 1) := by decide +kernel
theorem dX5_tieByte_43 : decode cX5_tieByte 43 = .ok (.if_icmp .ge 27, 3) := by decide +kernel
theorem dX5_tieByte_46 : decode cX5_tieByte 46 = .ok (.aload_n 0, 1) := by decide +kernel
theorem dX5_tieByte_47 : decode cX5_tieByte 47 = .ok (.getfield 19, 3) := by decide +kernel
theorem dX5_tieByte_50 : decode cX5_tieByte 50 = .ok (.aload_n 1, 1) := by decide +kernel
theorem dX5_tieByte_51 : decode cX5_tieByte 51 = .ok (.aload_n 0, 1) := by decide +kernel
theorem dX5_tieByte_52 : decode cX5_tieByte 52 = .ok (.getfield 10, 3) := by decide +kernel
theorem dX5_tieByte_55 : decode cX5_tieByte 55 = .ok (.iload_n 3, 1) := by decide +kernel
theorem dX5_tieByte_56 : decode cX5_tieByte 56 = .ok (.iload 4, 2) := by decide +kernel
theorem dX5_tieByte_58 : decode cX5_tieByte 58 = .ok (.invokevirtual 260, 3) := by decide +kernel
theorem dX5_tieByte_61 : decode cX5_tieByte 61 = .ok (.invokevirtual 263, 3) := by decide +kernel
theorem dX5_tieByte_64 : decode cX5_tieByte 64 = .ok (.iinc 4 1, 3) := by decide +kernel
theorem dX5_tieByte_67 : decode cX5_tieByte 67 = .ok (.goto (-35), 3) := by decide +kernel
theorem dX5_tieByte_70 : decode cX5_tieByte 70 = .ok (.return_, 1) := by decide +kernel
theorem dJ5_init_d00df_0 : decode cJ5_init_d00df 0 = .ok (.aload_n 0, 1) := by decide +kernel
theorem dJ5_init_d00df_1 : decode cJ5_init_d00df 1 = .ok (.invokespecial 3, 3) := by decide +kernel
theorem dJ5_init_d00df_4 : decode cJ5_init_d00df 4 = .ok (.getstatic 18, 3) := by decide +kernel
theorem dJ5_init_d00df_7 : decode cJ5_init_d00df 7 = .ok (.ifCond .eq 18, 3) := by decide +kernel
theorem dJ5_init_d00df_10 : decode cJ5_init_d00df 10 = .ok (.aload_n 0, 1) := by decide +kernel
theorem dJ5_init_d00df_11 : decode cJ5_init_d00df 11 = .ok (.iload_n 1, 1) := by decide +kernel
theorem dJ5_init_d00df_12 : decode cJ5_init_d00df 12 = .ok (.newarray .byte, 2) := by decide +kernel
theorem dJ5_init_d00df_14 : decode cJ5_init_d00df 14 = .ok (.putfield 15, 3) := by decide +kernel
theorem dJ5_init_d00df_17 : decode cJ5_init_d00df 17 = .ok (.aload_n 0, 1) := by decide +kernel
theorem dJ5_init_d00df_18 : decode cJ5_init_d00df 18 = .ok (.iconst 0, 1) := by decide +kernel
theorem dJ5_init_d00df_19 : decode cJ5_init_d00df 19 = .ok (.putfield 22, 3) := by decide +kernel
theorem dJ5_init_d00df_22 : decode cJ5_init_d00df 22 = .ok (.goto 16, 3) := by decide +kernel
theorem dJ5_init_d00df_25 : decode cJ5_init_d00df 25 = .ok (.aload_n 0, 1) := by decide +kernel
theorem dJ5_init_d00df_26 : decode cJ5_init_d00df 26 = .ok (.iload_n 1, 1) := by decide +kernel
theorem dJ5_init_d00df_27 : decode cJ5_init_d00df 27 = .ok (.invokestatic 26, 3) := by decide +kernel
theorem dJ5_init_d00df_30 : decode cJ5_init_d00df 30 = .ok (.putfield 15, 3) := by decide +kernel
theorem dJ5_init_d00df_33 : decode cJ5_init_d00df 33 = .ok (.aload_n 0, 1) := by decide +kernel
theorem dJ5_init_d00df_34 : decode cJ5_init_d00df 34 = .ok (.iconst 1, 1) := by decide +kernel
theorem dJ5_init_d00df_35 : decode cJ5_init_d00df 35 = .ok (.putfield 22, 3) := by decide +kernel
theorem dJ5_init_d00df_38 : decode cJ5_init_d00df 38 = .ok (.return_, 1) := by decide +kernel
theorem dJ5_length_8abf5_0 : decode cJ5_length_8abf5 0 = .ok (.aload_n 0, 1) := by decide +kernel
theorem dJ5_length_8abf5_1 : decode cJ5_length_8abf5 1 = .ok (.getfield 79, 3) := by decide +kernel
theorem dJ5_length_8abf5_4 : decode cJ5_length_8abf5 4 = .ok (.ireturn, 1) := by decide +kernel
theorem dJ5_ensureCapacityInternal_d00df_0 : decode cJ5_ensureCapacityInternal_d00df 0 = .ok (.aload_n 0, 1) := by decide +kernel
theorem dJ5_ensureCapacityInternal_d00df_1 : decode cJ5_ensureCapacityInternal_d00df 1 = .ok (.getfield 15, 3) := by decide +kernel
theorem dJ5_ensureCapacityInternal_d00df_4 : decode cJ5_ensureCapacityInternal_d00df 4 = .ok (.arraylength, 1) := by decide +kernel
theorem dJ5_ensureCapacityInternal_d00df_5 : decode cJ5_ensureCapacityInternal_d00df 5 = .ok (.aload_n 0, 1) := by decide +kernel
theorem dJ5_ensureCapacityInternal_d00df_6 : decode cJ5_ensureCapacityInternal_d00df 6 = .ok (.getfield 22, 3) := by decide +kernel
theorem dJ5_ensureCapacityInternal_d00df_9 : decode cJ5_ensureCapacityInternal_d00df 9 = .ok (.ishr, 1) := by decide +kernel
theorem dJ5_ensureCapacityInternal_d00df_10 : decode cJ5_ensureCapacityInternal_d00df 10 = .ok (.istore_n 2, 1) := by decide +kernel
theorem dJ5_ensureCapacityInternal_d00df_11 : decode cJ5_ensureCapacityInternal_d00df 11 = .ok (.iload_n 1, 1) := by decide +kernel
theorem dJ5_ensureCapacityInternal_d00df_12 : decode cJ5_ensureCapacityInternal_d00df 12 = .ok (.iload_n 2, 1) := by decide +kernel
theorem dJ5_ensureCapacityInternal_d00df_13 : decode cJ5_ensureCapacityInternal_d00df 13 = .ok (.isub, 1) := by decide +kernel
theorem dJ5_ensureCapacityInternal_d00df_14 : decode cJ5_ensureCapacityInternal_d00df 14 = .ok (.ifCond .le 24, 3) := by decide +kernel
theorem dJ5_ensureCapacityInternal_d00df_17 : decode cJ5_ensureCapacityInternal_d00df 17 = .ok (.aload_n 0, 1) := by decide +kernel
theorem dJ5_ensureCapacityInternal_d00df_18 : decode cJ5_ensureCapacityInternal_d00df 18 = .ok (.aload_n 0, 1) := by decide +kernel
theorem dJ5_ensureCapacityInternal_d00df_19 : decode cJ5_ensureCapacityInternal_d00df 19 = .ok (.getfield 15, 3) := by decide +kernel
theorem dJ5_ensureCapacityInternal_d00df_22 : decode cJ5_ensureCapacityInternal_d00df 22 = .ok (.aload_n 0, 1) := by decide +kernel
theorem dJ5_ensureCapacityInternal_d00df_23 : decode cJ5_ensureCapacityInternal_d00df 23 = .ok (.iload_n 1, 1) := by decide +kernel
theorem dJ5_ensureCapacityInternal_d00df_24 : decode cJ5_ensureCapacityInternal_d00df 24 = .ok (.invokevirtual 104, 3) := by decide +kernel
theorem dJ5_ensureCapacityInternal_d00df_27 : decode cJ5_ensureCapacityInternal_d00df 27 = .ok (.aload_n 0, 1) := by decide +kernel
theorem dJ5_ensureCapacityInternal_d00df_28 : decode cJ5_ensureCapacityInternal_d00df 28 = .ok (.getfield 22, 3) := by decide +kernel
theorem dJ5_ensureCapacityInternal_d00df_31 : decode cJ5_ensureCapacityInternal_d00df 31 = .ok (.ishl, 1) := by decide +kernel
theorem dJ5_ensureCapacityInternal_d00df_32 : decode cJ5_ensureCapacityInternal_d00df 32 = .ok (.invokestatic 108, 3) := by decide +kernel
theorem dJ5_ensureCapacityInternal_d00df_35 : decode cJ5_ensureCapacityInternal_d00df 35 = .ok (.putfield 15, 3) := by decide +kernel
theorem dJ5_ensureCapacityInternal_d00df_38 : decode cJ5_ensureCapacityInternal_d00df 38 = .ok (.return_, 1) := by decide +kernel
theorem dJ5_newCapacity_0f7a4_0 : decode cJ5_newCapacity_0f7a4 0 = .ok (.aload_n 0, 1) := by decide +kernel
theorem dJ5_newCapacity_0f7a4_1 : decode cJ5_newCapacity_0f7a4 1 = .ok (.getfield 15, 3) := by decide +kernel
theorem dJ5_newCapacity_0f7a4_4 : decode cJ5_newCapacity_0f7a4 4 = .ok (.arraylength, 1) := by decide +kernel
theorem dJ5_newCapacity_0f7a4_5 : decode cJ5_newCapacity_0f7a4 5 = .ok (.istore_n 2, 1) := by decide +kernel
theorem dJ5_newCapacity_0f7a4_6 : decode cJ5_newCapacity_0f7a4 6 = .ok (.iload_n 1, 1) := by decide +kernel
theorem dJ5_newCapacity_0f7a4_7 : decode cJ5_newCapacity_0f7a4 7 = .ok (.aload_n 0, 1) := by decide +kernel
theorem dJ5_newCapacity_0f7a4_8 : decode cJ5_newCapacity_0f7a4 8 = .ok (.getfield 22, 3) := by decide +kernel
theorem dJ5_newCapacity_0f7a4_11 : decode cJ5_newCapacity_0f7a4 11 = .ok (.ishl, 1) := by decide +kernel
theorem dJ5_newCapacity_0f7a4_12 : decode cJ5_newCapacity_0f7a4 12 = .ok (.istore_n 3, 1) := by decide +kernel
theorem dJ5_newCapacity_0f7a4_13 : decode cJ5_newCapacity_0f7a4 13 = .ok (.iload_n 3, 1) := by decide +kernel
theorem dJ5_newCapacity_0f7a4_14 : decode cJ5_newCapacity_0f7a4 14 = .ok (.iload_n 2, 1) := by decide +kernel
theorem dJ5_newCapacity_0f7a4_15 : decode cJ5_newCapacity_0f7a4 15 = .ok (.isub, 1) := by decide +kernel
theorem dJ5_newCapacity_0f7a4_16 : decode cJ5_newCapacity_0f7a4 16 = .ok (.istore 4, 2) := by decide +kernel
theorem dJ5_newCapacity_0f7a4_18 : decode cJ5_newCapacity_0f7a4 18 = .ok (.iload_n 2, 1) := by decide +kernel
theorem dJ5_newCapacity_0f7a4_19 : decode cJ5_newCapacity_0f7a4 19 = .ok (.iload 4, 2) := by decide +kernel
theorem dJ5_newCapacity_0f7a4_21 : decode cJ5_newCapacity_0f7a4 21 = .ok (.iload_n 2, 1) := by decide +kernel
theorem dJ5_newCapacity_0f7a4_22 : decode cJ5_newCapacity_0f7a4 22 = .ok (.iconst 2, 1) := by decide +kernel
theorem dJ5_newCapacity_0f7a4_23 : decode cJ5_newCapacity_0f7a4 23 = .ok (.aload_n 0, 1) := by decide +kernel
theorem dJ5_newCapacity_0f7a4_24 : decode cJ5_newCapacity_0f7a4 24 = .ok (.getfield 22, 3) := by decide +kernel
theorem dJ5_newCapacity_0f7a4_27 : decode cJ5_newCapacity_0f7a4 27 = .ok (.ishl, 1) := by decide +kernel
theorem dJ5_newCapacity_0f7a4_28 : decode cJ5_newCapacity_0f7a4 28 = .ok (.iadd, 1) := by decide +kernel
theorem dJ5_newCapacity_0f7a4_29 : decode cJ5_newCapacity_0f7a4 29 = .ok (.invokestatic 114, 3) := by decide +kernel
theorem dJ5_newCapacity_0f7a4_32 : decode cJ5_newCapacity_0f7a4 32 = .ok (.istore 5, 2) := by decide +kernel
theorem dJ5_newCapacity_0f7a4_34 : decode cJ5_newCapacity_0f7a4 34 = .ok (.iload 5, 2) := by decide +kernel
theorem dJ5_newCapacity_0f7a4_36 : decode cJ5_newCapacity_0f7a4 36 = .ok (.ldc 39, 2) := by decide +kernel
theorem dJ5_newCapacity_0f7a4_38 : decode cJ5_newCapacity_0f7a4 38 = .ok (.if_icmp .ne 13, 3) := by decide +kernel
theorem dJ5_newCapacity_0f7a4_41 : decode cJ5_newCapacity_0f7a4 41 = .ok (.new 120, 3) := by decide +kernel
theorem dJ5_newCapacity_0f7a4_44 : decode cJ5_newCapacity_0f7a4 44 = .ok (.dup, 1) := by decide +kernel
theorem dJ5_newCapacity_0f7a4_45 : decode cJ5_newCapacity_0f7a4 45 = .ok (.ldc 122, 2) := by decide +kernel
theorem dJ5_newCapacity_0f7a4_47 : decode cJ5_newCapacity_0f7a4 47 = .ok (.invokespecial 124, 3) := by decide +kernel
theorem dJ5_newCapacity_0f7a4_50 : decode cJ5_newCapacity_0f7a4 50 = .ok (.athrow, 1) := by decide +kernel
theorem dJ5_newCapacity_0f7a4_51 : decode cJ5_newCapacity_0f7a4 51 = .ok (.iload 5, 2) := by decide +kernel
theorem dJ5_newCapacity_0f7a4_53 : decode cJ5_newCapacity_0f7a4 53 = .ok (.aload_n 0, 1) := by decide +kernel
theorem dJ5_newCapacity_0f7a4_54 : decode cJ5_newCapacity_0f7a4 54 = .ok (.getfield 22, 3) := by decide +kernel
theorem dJ5_newCapacity_0f7a4_57 : decode cJ5_newCapacity_0f7a4 57 = .ok (.ishr, 1) := by decide +kernel
theorem dJ5_newCapacity_0f7a4_58 : decode cJ5_newCapacity_0f7a4 58 = .ok (.ireturn, 1) := by decide +kernel
theorem dJ5_inflate_da8c8_0 : decode cJ5_inflate_da8c8 0 = .ok (.aload_n 0, 1) := by decide +kernel
theorem dJ5_inflate_da8c8_1 : decode cJ5_inflate_da8c8 1 = .ok (.invokevirtual 83, 3) := by decide +kernel
theorem dJ5_inflate_da8c8_4 : decode cJ5_inflate_da8c8 4 = .ok (.ifCond .ne 4, 3) := by decide +kernel
theorem dJ5_inflate_da8c8_7 : decode cJ5_inflate_da8c8 7 = .ok (.return_, 1) := by decide +kernel
theorem dJ5_inflate_da8c8_8 : decode cJ5_inflate_da8c8 8 = .ok (.aload_n 0, 1) := by decide +kernel
theorem dJ5_inflate_da8c8_9 : decode cJ5_inflate_da8c8 9 = .ok (.getfield 15, 3) := by decide +kernel
theorem dJ5_inflate_da8c8_12 : decode cJ5_inflate_da8c8 12 = .ok (.arraylength, 1) := by decide +kernel
theorem dJ5_inflate_da8c8_13 : decode cJ5_inflate_da8c8 13 = .ok (.invokestatic 26, 3) := by decide +kernel
theorem dJ5_inflate_da8c8_16 : decode cJ5_inflate_da8c8 16 = .ok (.astore_n 1, 1) := by decide +kernel
theorem dJ5_inflate_da8c8_17 : decode cJ5_inflate_da8c8 17 = .ok (.aload_n 0, 1) := by decide +kernel
theorem dJ5_inflate_da8c8_18 : decode cJ5_inflate_da8c8 18 = .ok (.getfield 15, 3) := by decide +kernel
theorem dJ5_inflate_da8c8_21 : decode cJ5_inflate_da8c8 21 = .ok (.iconst 0, 1) := by decide +kernel
theorem dJ5_inflate_da8c8_22 : decode cJ5_inflate_da8c8 22 = .ok (.aload_n 1, 1) := by decide +kernel
theorem dJ5_inflate_da8c8_23 : decode cJ5_inflate_da8c8 23 = .ok (.iconst 0, 1) := by decide +kernel
theorem dJ5_inflate_da8c8_24 : decode cJ5_inflate_da8c8 24 = .ok (.aload_n 0, 1) := by decide +kernel
theorem dJ5_inflate_da8c8_25 : decode cJ5_inflate_da8c8 25 = .ok (.getfield 79, 3) := by decide +kernel
theorem dJ5_inflate_da8c8_28 : decode cJ5_inflate_da8c8 28 = .ok (.invokestatic 125, 3) := by decide +kernel
theorem dJ5_inflate_da8c8_31 : decode cJ5_inflate_da8c8 31 = .ok (.aload_n 0, 1) := by decide +kernel
theorem dJ5_inflate_da8c8_32 : decode cJ5_inflate_da8c8 32 = .ok (.aload_n 1, 1) := by decide +kernel
theorem dJ5_inflate_da8c8_33 : decode cJ5_inflate_da8c8 33 = .ok (.putfield 15, 3) := by decide +kernel
