theorem dJ8_hugeLength_7cf53_45 : decode cJ8_hugeLength_7cf53 45 = .ok (.invokespecial 212, 3) := by decide +kernel
theorem dJ8_hugeLength_7cf53_48 : decode cJ8_hugeLength_7cf53 48 = .ok (.athrow, 1) := by decide +kernel
theorem dJ8_hugeLength_7cf53_49 : decode cJ8_hugeLength_7cf53 49 = .ok (.iload_n 2, 1) := by decide +kernel
theorem dJ8_hugeLength_7cf53_50 : decode cJ8_hugeLength_7cf53 50 = .ok (.ldc 200, 2) := by decide +kernel
theorem dJ8_hugeLength_7cf53_52 : decode cJ8_hugeLength_7cf53 52 = .ok (.if_icmp .gt 6, 3) := by decide +kernel
theorem dJ8_hugeLength_7cf53_55 : decode cJ8_hugeLength_7cf53 55 = .ok (.ldc 200, 2) := by decide +kernel
theorem dJ8_hugeLength_7cf53_57 : decode cJ8_hugeLength_7cf53 57 = .ok (.ireturn, 1) := by decide +kernel
theorem dJ8_hugeLength_7cf53_58 : decode cJ8_hugeLength_7cf53 58 = .ok (.iload_n 2, 1) := by decide +kernel
theorem dJ8_hugeLength_7cf53_59 : decode cJ8_hugeLength_7cf53 59 = .ok (.ireturn, 1) := by decide +kernel
theorem dJ3_checkIndex_8e157_0 : decode cJ3_checkIndex_8e157 0 = .ok (.iload_n 0, 1) := by decide +kernel
theorem dJ3_checkIndex_8e157_1 : decode cJ3_checkIndex_8e157 1 = .ok (.ifCond .lt 8, 3) := by decide +kernel
theorem dJ3_checkIndex_8e157_4 : decode cJ3_checkIndex_8e157 4 = .ok (.iload_n 0, 1) := by decide +kernel
theorem dJ3_checkIndex_8e157_5 : decode cJ3_checkIndex_8e157 5 = .ok (.iload_n 1, 1) := by decide +kernel
theorem dJ3_checkIndex_8e157_6 : decode cJ3_checkIndex_8e157 6 = .ok (.if_icmp .lt 10, 3) := by decide +kernel
theorem dJ3_checkIndex_8e157_9 : decode cJ3_checkIndex_8e157 9 = .ok (.aload_n 2, 1) := by decide +kernel
theorem dJ3_checkIndex_8e157_10 : decode cJ3_checkIndex_8e157 10 = .ok (.iload_n 0, 1) := by decide +kernel
theorem dJ3_checkIndex_8e157_11 : decode cJ3_checkIndex_8e157 11 = .ok (.iload_n 1, 1) := by decide +kernel
theorem dJ3_checkIndex_8e157_12 : decode cJ3_checkIndex_8e157 12 = .ok (.invokestatic 95, 3) := by decide +kernel
theorem dJ3_checkIndex_8e157_15 : decode cJ3_checkIndex_8e157 15 = .ok (.athrow, 1) := by decide +kernel
theorem dJ3_checkIndex_8e157_16 : decode cJ3_checkIndex_8e157 16 = .ok (.iload_n 0, 1) := by decide +kernel
theorem dJ3_checkIndex_8e157_17 : decode cJ3_checkIndex_8e157 17 = .ok (.ireturn, 1) := by decide +kernel
theorem dJ3_checkFromIndexSize_8c36e_0 : decode cJ3_checkFromIndexSize_8c36e 0 = .ok (.iload_n 2, 1) := by decide +kernel
theorem dJ3_checkFromIndexSize_8c36e_1 : decode cJ3_checkFromIndexSize_8c36e 1 = .ok (.iload_n 0, 1) := by decide +kernel
theorem dJ3_checkFromIndexSize_8c36e_2 : decode cJ3_checkFromIndexSize_8c36e 2 = .ok (.ior, 1) := by decide +kernel
theorem dJ3_checkFromIndexSize_8c36e_3 : decode cJ3_checkFromIndexSize_8c36e 3 = .ok (.iload_n 1, 1) := by decide +kernel
theorem dJ3_checkFromIndexSize_8c36e_4 : decode cJ3_checkFromIndexSize_8c36e 4 = .ok (.ior, 1) := by decide +kernel
theorem dJ3_checkFromIndexSize_8c36e_5 : decode cJ3_checkFromIndexSize_8c36e 5 = .ok (.ifCond .lt 10, 3) := by decide +kernel
theorem dJ3_checkFromIndexSize_8c36e_8 : decode cJ3_checkFromIndexSize_8c36e 8 = .ok (.iload_n 1, 1) := by decide +kernel
theorem dJ3_checkFromIndexSize_8c36e_9 : decode cJ3_checkFromIndexSize_8c36e 9 = .ok (.iload_n 2, 1) := by decide +kernel
theorem dJ3_checkFromIndexSize_8c36e_10 : decode cJ3_checkFromIndexSize_8c36e 10 = .ok (.iload_n 0, 1) := by decide +kernel
theorem dJ3_checkFromIndexSize_8c36e_11 : decode cJ3_checkFromIndexSize_8c36e 11 = .ok (.isub, 1) := by decide +kernel
theorem dJ3_checkFromIndexSize_8c36e_12 : decode cJ3_checkFromIndexSize_8c36e 12 = .ok (.if_icmp .le 11, 3) := by decide +kernel
theorem dJ3_checkFromIndexSize_8c36e_15 : decode cJ3_checkFromIndexSize_8c36e 15 = .ok (.aload_n 3, 1) := by decide +kernel
theorem dJ3_checkFromIndexSize_8c36e_16 : decode cJ3_checkFromIndexSize_8c36e 16 = .ok (.iload_n 0, 1) := by decide +kernel
theorem dJ3_checkFromIndexSize_8c36e_17 : decode cJ3_checkFromIndexSize_8c36e 17 = .ok (.iload_n 1, 1) := by decide +kernel
theorem dJ3_checkFromIndexSize_8c36e_18 : decode cJ3_checkFromIndexSize_8c36e 18 = .ok (.iload_n 2, 1) := by decide +kernel
theorem dJ3_checkFromIndexSize_8c36e_19 : decode cJ3_checkFromIndexSize_8c36e 19 = .ok (.invokestatic 103, 3) := by decide +kernel
theorem dJ3_checkFromIndexSize_8c36e_22 : decode cJ3_checkFromIndexSize_8c36e 22 = .ok (.athrow, 1) := by decide +kernel
theorem dJ3_checkFromIndexSize_8c36e_23 : decode cJ3_checkFromIndexSize_8c36e 23 = .ok (.iload_n 0, 1) := by decide +kernel
theorem dJ3_checkFromIndexSize_8c36e_24 : decode cJ3_checkFromIndexSize_8c36e 24 = .ok (.ireturn, 1) := by decide +kernel
theorem dL_below_0 : decode cL_below 0 = .ok (.iload_n 0, 1) := by decide +kernel
theorem dL_below_1 : decode cL_below 1 = .ok (.ldc 7, 2) := by decide +kernel
theorem dL_below_3 : decode cL_below 3 = .ok (.iand, 1) := by decide +kernel
theorem dL_below_4 : decode cL_below 4 = .ok (.iload_n 1, 1) := by decide +kernel
theorem dL_below_5 : decode cL_below 5 = .ok (.irem, 1) := by decide +kernel
theorem dL_below_6 : decode cL_below 6 = .ok (.ireturn, 1) := by decide +kernel
theorem dL_cell_0 : decode cL_cell 0 = .ok (.iload_n 1, 1) := by decide +kernel
theorem dL_cell_1 : decode cL_cell 1 = .ok (.aload_n 0, 1) := by decide +kernel
theorem dL_cell_2 : decode cL_cell 2 = .ok (.arraylength, 1) := by decide +kernel
theorem dL_cell_3 : decode cL_cell 3 = .ok (.if_icmp .ge 9, 3) := by decide +kernel
theorem dL_cell_6 : decode cL_cell 6 = .ok (.aload_n 0, 1) := by decide +kernel
theorem dL_cell_7 : decode cL_cell 7 = .ok (.iload_n 1, 1) := by decide +kernel
theorem dL_cell_8 : decode cL_cell 8 = .ok (.iaload, 1) := by decide +kernel
theorem dL_cell_9 : decode cL_cell 9 = .ok (.goto 9, 3) := by decide +kernel
theorem dL_cell_12 : decode cL_cell 12 = .ok (.ldc 8, 2) := by decide +kernel
theorem dL_cell_14 : decode cL_cell 14 = .ok (.iload_n 1, 1) := by decide +kernel
theorem dL_cell_15 : decode cL_cell 15 = .ok (.iconst 3, 1) := by decide +kernel
theorem dL_cell_16 : decode cL_cell 16 = .ok (.iadd, 1) := by decide +kernel
theorem dL_cell_17 : decode cL_cell 17 = .ok (.imul, 1) := by decide +kernel
theorem dL_cell_18 : decode cL_cell 18 = .ok (.ireturn, 1) := by decide +kernel
theorem dL_tie_0 : decode cL_tie 0 = .ok (.aload_n 1, 1) := by decide +kernel
theorem dL_tie_1 : decode cL_tie 1 = .ok (.invokevirtual 9, 3) := by decide +kernel
theorem dL_tie_4 : decode cL_tie 4 = .ok (.istore_n 2, 1) := by decide +kernel
theorem dL_tie_5 : decode cL_tie 5 = .ok (.iconst 0, 1) := by decide +kernel
theorem dL_tie_6 : decode cL_tie 6 = .ok (.istore_n 3, 1) := by decide +kernel
theorem dL_tie_7 : decode cL_tie 7 = .ok (.iload_n 3, 1) := by decide +kernel
theorem dL_tie_8 : decode cL_tie 8 = .ok (.iload_n 2, 1) := by decide +kernel
theorem dL_tie_9 : decode cL_tie 9 = .ok (.if_icmp .ge 94, 3) := by decide +kernel
theorem dL_tie_12 : decode cL_tie 12 = .ok (.iconst 5, 1) := by decide +kernel
theorem dL_tie_13 : decode cL_tie 13 = .ok (.newarray .int, 2) := by decide +kernel
theorem dL_tie_15 : decode cL_tie 15 = .ok (.astore 4, 2) := by decide +kernel
theorem dL_tie_17 : decode cL_tie 17 = .ok (.iconst 0, 1) := by decide +kernel
theorem dL_tie_18 : decode cL_tie 18 = .ok (.istore 5, 2) := by decide +kernel
theorem dL_tie_20 : decode cL_tie 20 = .ok (.iload 5, 2) := by decide +kernel
theorem dL_tie_22 : decode cL_tie 22 = .ok (.bipush 20, 2) := by decide +kernel
theorem dL_tie_24 : decode cL_tie 24 = .ok (.if_icmp .ge 48, 3) := by decide +kernel
theorem dL_tie_27 : decode cL_tie 27 = .ok (.aload 4, 2) := by decide +kernel
theorem dL_tie_29 : decode cL_tie 29 = .ok (.iload 5, 2) := by decide +kernel
theorem dL_tie_31 : decode cL_tie 31 = .ok (.iconst 4, 1) := by decide +kernel
theorem dL_tie_32 : decode cL_tie 32 = .ok (.idiv, 1) := by decide +kernel
theorem dL_tie_33 : decode cL_tie 33 = .ok (.aload 4, 2) := by decide +kernel
theorem dL_tie_35 : decode cL_tie 35 = .ok (.iload 5, 2) := by decide +kernel
theorem dL_tie_37 : decode cL_tie 37 = .ok (.iconst 4, 1) := by decide +kernel
theorem dL_tie_38 : decode cL_tie 38 = .ok (.idiv, 1) := by decide +kernel
theorem dL_tie_39 : decode cL_tie 39 = .ok (.iaload, 1) := by decide +kernel
theorem dL_tie_40 : decode cL_tie 40 = .ok (.bipush 8, 2) := by decide +kernel
theorem dL_tie_42 : decode cL_tie 42 = .ok (.ishl, 1) := by decide +kernel
theorem dL_tie_43 : decode cL_tie 43 = .ok (.iload_n 3, 1) := by decide +kernel
theorem dL_tie_44 : decode cL_tie 44 = .ok (.iload 5, 2) := by decide +kernel
theorem dL_tie_46 : decode cL_tie 46 = .ok (.iadd, 1) := by decide +kernel
theorem dL_tie_47 : decode cL_tie 47 = .ok (.iload_n 2, 1) := by decide +kernel
theorem dL_tie_48 : decode cL_tie 48 = .ok (.if_icmp .ge 14, 3) := by decide +kernel
theorem dL_tie_51 : decode cL_tie 51 = .ok (.aload_n 1, 1) := by decide +kernel
theorem dL_tie_52 : decode cL_tie 52 = .ok (.iload_n 3, 1) := by decide +kernel
theorem dL_tie_53 : decode cL_tie 53 = .ok (.iload 5, 2) := by decide +kernel
theorem dL_tie_55 : decode cL_tie 55 = .ok (.iadd, 1) := by decide +kernel
theorem dL_tie_56 : decode cL_tie 56 = .ok (.invokevirtual 15, 3) := by decide +kernel
theorem dL_tie_59 : decode cL_tie 59 = .ok (.goto 5, 3) := by decide +kernel
theorem dL_tie_62 : decode cL_tie 62 = .ok (.bipush 32, 2) := by decide +kernel
theorem dL_tie_64 : decode cL_tie 64 = .ok (.ior, 1) := by decide +kernel
theorem dL_tie_65 : decode cL_tie 65 = .ok (.iastore, 1) := by decide +kernel
theorem dL_tie_66 : decode cL_tie 66 = .ok (.iinc 5 1, 3) := by decide +kernel
theorem dL_tie_69 : decode cL_tie 69 = .ok (.goto (-49), 3) := by decide +kernel
theorem dL_tie_72 : decode cL_tie 72 = .ok (.aload_n 0, 1) := by decide +kernel
theorem dL_tie_73 : decode cL_tie 73 = .ok (.aload 4, 2) := by decide +kernel
theorem dL_tie_75 : decode cL_tie 75 = .ok (.iconst 0, 1) := by decide +kernel
theorem dL_tie_76 : decode cL_tie 76 = .ok (.iaload, 1) := by decide +kernel
theorem dL_tie_77 : decode cL_tie 77 = .ok (.aload 4, 2) := by decide +kernel
theorem dL_tie_79 : decode cL_tie 79 = .ok (.iconst 1, 1) := by decide +kernel
theorem dL_tie_80 : decode cL_tie 80 = .ok (.iaload, 1) := by decide +kernel
theorem dL_tie_81 : decode cL_tie 81 = .ok (.aload 4, 2) := by decide +kernel
theorem dL_tie_83 : decode cL_tie 83 = .ok (.iconst 2, 1) := by decide +kernel
theorem dL_tie_84 : decode cL_tie 84 = .ok (.iaload, 1) := by decide +kernel
theorem dL_tie_85 : decode cL_tie 85 = .ok (.aload 4, 2) := by decide +kernel
theorem dL_tie_87 : decode cL_tie 87 = .ok (.iconst 3, 1) := by decide +kernel
theorem dL_tie_88 : decode cL_tie 88 = .ok (.iaload, 1) := by decide +kernel
theorem dL_tie_89 : decode cL_tie 89 = .ok (.aload 4, 2) := by decide +kernel
theorem dL_tie_91 : decode cL_tie 91 = .ok (.iconst 4, 1) := by decide +kernel
theorem dL_tie_92 : decode cL_tie 92 = .ok (.iaload, 1) := by decide +kernel
theorem dL_tie_93 : decode cL_tie 93 = .ok (.invokevirtual 19, 3) := by decide +kernel
theorem dL_tie_96 : decode cL_tie 96 = .ok (.pop, 1) := by decide +kernel
theorem dL_tie_97 : decode cL_tie 97 = .ok (.iinc 3 20, 3) := by decide +kernel
theorem dL_tie_100 : decode cL_tie 100 = .ok (.goto (-93), 3) := by decide +kernel
theorem dL_tie_103 : decode cL_tie 103 = .ok (.aload_n 0, 1) := by decide +kernel
theorem dL_tie_104 : decode cL_tie 104 = .ok (.iload_n 2, 1) := by decide +kernel
theorem dL_tie_105 : decode cL_tie 105 = .ok (.invokevirtual 25, 3) := by decide +kernel
theorem dL_tie_108 : decode cL_tie 108 = .ok (.pop, 1) := by decide +kernel
theorem dL_tie_109 : decode cL_tie 109 = .ok (.aload_n 0, 1) := by decide +kernel
theorem dL_tie_110 : decode cL_tie 110 = .ok (.invokevirtual 29, 3) := by decide +kernel
theorem dL_tie_113 : decode cL_tie 113 = .ok (.ireturn, 1) := by decide +kernel
theorem dL_row_0 : decode cL_row 0 = .ok (.iconst 0, 1) := by decide +kernel
theorem dL_row_1 : decode cL_row 1 = .ok (.istore_n 2, 1) := by decide +kernel
theorem dL_row_2 : decode cL_row 2 = .ok (.iconst 1, 1) := by decide +kernel
theorem dL_row_3 : decode cL_row 3 = .ok (.iload_n 0, 1) := by decide +kernel
theorem dL_row_4 : decode cL_row 4 = .ok (.iload_n 1, 1) := by decide +kernel
theorem dL_row_5 : decode cL_row 5 = .ok (.invokestatic 32, 3) := by decide +kernel
theorem dL_row_8 : decode cL_row 8 = .ok (.iadd, 1) := by decide +kernel
theorem dL_row_9 : decode cL_row 9 = .ok (.istore_n 3, 1) := by decide +kernel
theorem dL_row_10 : decode cL_row 10 = .ok (.iload_n 3, 1) := by decide +kernel
theorem dL_row_11 : decode cL_row 11 = .ok (.ifCond .le 28, 3) := by decide +kernel
theorem dL_row_14 : decode cL_row 14 = .ok (.bipush 10, 2) := by decide +kernel
theorem dL_row_16 : decode cL_row 16 = .ok (.iload_n 2, 1) := by decide +kernel
theorem dL_row_17 : decode cL_row 17 = .ok (.imul, 1) := by decide +kernel
theorem dL_row_18 : decode cL_row 18 = .ok (.iconst 1, 1) := by decide +kernel
theorem dL_row_19 : decode cL_row 19 = .ok (.iadd, 1) := by decide +kernel
theorem dL_row_20 : decode cL_row 20 = .ok (.iload_n 0, 1) := by decide +kernel
theorem dL_row_21 : decode cL_row 21 = .ok (.iconst 2, 1) := by decide +kernel
theorem dL_row_22 : decode cL_row 22 = .ok (.iload_n 3, 1) := by decide +kernel
theorem dL_row_23 : decode cL_row 23 = .ok (.imul, 1) := by decide +kernel
theorem dL_row_24 : decode cL_row 24 = .ok (.iconst 2, 1) := by decide +kernel
theorem dL_row_25 : decode cL_row 25 = .ok (.iadd, 1) := by decide +kernel
theorem dL_row_26 : decode cL_row 26 = .ok (.ishr, 1) := by decide +kernel
theorem dL_row_27 : decode cL_row 27 = .ok (.iconst 4, 1) := by decide +kernel
theorem dL_row_28 : decode cL_row 28 = .ok (.invokestatic 32, 3) := by decide +kernel
theorem dL_row_31 : decode cL_row 31 = .ok (.iadd, 1) := by decide +kernel
theorem dL_row_32 : decode cL_row 32 = .ok (.istore_n 2, 1) := by decide +kernel
theorem dL_row_33 : decode cL_row 33 = .ok (.iinc 3 (-1), 3) := by decide +kernel
theorem dL_row_36 : decode cL_row 36 = .ok (.goto (-26), 3) := by decide +kernel
theorem dL_row_39 : decode cL_row 39 = .ok (.iload_n 2, 1) := by decide +kernel
theorem dL_row_40 : decode cL_row 40 = .ok (.ireturn, 1) := by decide +kernel
theorem dL_law_0 : decode cL_law 0 = .ok (.new 20, 3) := by decide +kernel
theorem dL_law_3 : decode cL_law 3 = .ok (.dup, 1) := by decide +kernel
theorem dL_law_4 : decode cL_law 4 = .ok (.invokespecial 38, 3) := by decide +kernel
theorem dL_law_7 : decode cL_law 7 = .ok (.astore_n 1, 1) := by decide +kernel
theorem dL_law_8 : decode cL_law 8 = .ok (.bipush 12, 2) := by decide +kernel
theorem dL_law_10 : decode cL_law 10 = .ok (.newarray .int, 2) := by decide +kernel
theorem dL_law_12 : decode cL_law 12 = .ok (.astore_n 2, 1) := by decide +kernel
theorem dL_law_13 : decode cL_law 13 = .ok (.iconst 0, 1) := by decide +kernel
theorem dL_law_14 : decode cL_law 14 = .ok (.istore_n 3, 1) := by decide +kernel
theorem dL_law_15 : decode cL_law 15 = .ok (.iload_n 3, 1) := by decide +kernel
theorem dL_law_16 : decode cL_law 16 = .ok (.bipush 12, 2) := by decide +kernel
theorem dL_law_18 : decode cL_law 18 = .ok (.if_icmp .ge 54, 3) := by decide +kernel
theorem dL_law_21 : decode cL_law 21 = .ok (.aload_n 2, 1) := by decide +kernel
theorem dL_law_22 : decode cL_law 22 = .ok (.iload_n 3, 1) := by decide +kernel
theorem dL_law_23 : decode cL_law 23 = .ok (.aload_n 0, 1) := by decide +kernel
theorem dL_law_24 : decode cL_law 24 = .ok (.iconst 0, 1) := by decide +kernel
theorem dL_law_25 : decode cL_law 25 = .ok (.invokestatic 39, 3) := by decide +kernel
theorem dL_law_28 : decode cL_law 28 = .ok (.iload_n 3, 1) := by decide +kernel
theorem dL_law_29 : decode cL_law 29 = .ok (.ishr, 1) := by decide +kernel
theorem dL_law_30 : decode cL_law 30 = .ok (.iconst 3, 1) := by decide +kernel
theorem dL_law_31 : decode cL_law 31 = .ok (.invokestatic 32, 3) := by decide +kernel
theorem dL_law_34 : decode cL_law 34 = .ok (.ifCond .ne 7, 3) := by decide +kernel
theorem dL_law_37 : decode cL_law 37 = .ok (.iconst 0, 1) := by decide +kernel
theorem dL_law_38 : decode cL_law 38 = .ok (.goto 18, 3) := by decide +kernel
theorem dL_law_41 : decode cL_law 41 = .ok (.aload_n 0, 1) := by decide +kernel
theorem dL_law_42 : decode cL_law 42 = .ok (.iconst 1, 1) := by decide +kernel
theorem dL_law_43 : decode cL_law 43 = .ok (.iload_n 3, 1) := by decide +kernel
theorem dL_law_44 : decode cL_law 44 = .ok (.iconst 4, 1) := by decide +kernel
theorem dL_law_45 : decode cL_law 45 = .ok (.irem, 1) := by decide +kernel
theorem dL_law_46 : decode cL_law 46 = .ok (.iadd, 1) := by decide +kernel
theorem dL_law_47 : decode cL_law 47 = .ok (.invokestatic 39, 3) := by decide +kernel
theorem dL_law_50 : decode cL_law 50 = .ok (.iload_n 3, 1) := by decide +kernel
theorem dL_law_51 : decode cL_law 51 = .ok (.ishr, 1) := by decide +kernel
theorem dL_law_52 : decode cL_law 52 = .ok (.iconst 4, 1) := by decide +kernel
theorem dL_law_53 : decode cL_law 53 = .ok (.invokestatic 43, 3) := by decide +kernel
theorem dL_law_56 : decode cL_law 56 = .ok (.iastore, 1) := by decide +kernel
theorem dL_law_57 : decode cL_law 57 = .ok (.aload_n 1, 1) := by decide +kernel
theorem dL_law_58 : decode cL_law 58 = .ok (.iload_n 3, 1) := by decide +kernel
theorem dL_law_59 : decode cL_law 59 = .ok (.aload_n 2, 1) := by decide +kernel
theorem dL_law_60 : decode cL_law 60 = .ok (.iload_n 3, 1) := by decide +kernel
theorem dL_law_61 : decode cL_law 61 = .ok (.iaload, 1) := by decide +kernel
theorem dL_law_62 : decode cL_law 62 = .ok (.invokevirtual 46, 3) := by decide +kernel
theorem dL_law_65 : decode cL_law 65 = .ok (.pop, 1) := by decide +kernel
theorem dL_law_66 : decode cL_law 66 = .ok (.iinc 3 1, 3) := by decide +kernel
theorem dL_law_69 : decode cL_law 69 = .ok (.goto (-54), 3) := by decide +kernel
theorem dL_law_72 : decode cL_law 72 = .ok (.iconst 1, 1) := by decide +kernel
theorem dL_law_73 : decode cL_law 73 = .ok (.aload_n 0, 1) := by decide +kernel
theorem dL_law_74 : decode cL_law 74 = .ok (.iconst 5, 1) := by decide +kernel
theorem dL_law_75 : decode cL_law 75 = .ok (.invokestatic 39, 3) := by decide +kernel
theorem dL_law_78 : decode cL_law 78 = .ok (.bipush 9, 2) := by decide +kernel
theorem dL_law_80 : decode cL_law 80 = .ok (.invokestatic 32, 3) := by decide +kernel
theorem dL_law_83 : decode cL_law 83 = .ok (.iadd, 1) := by decide +kernel
theorem dL_law_84 : decode cL_law 84 = .ok (.istore_n 3, 1) := by decide +kernel
theorem dL_law_85 : decode cL_law 85 = .ok (.iconst 1, 1) := by decide +kernel
theorem dL_law_86 : decode cL_law 86 = .ok (.aload_n 0, 1) := by decide +kernel
theorem dL_law_87 : decode cL_law 87 = .ok (.iconst 5, 1) := by decide +kernel
theorem dL_law_88 : decode cL_law 88 = .ok (.invokestatic 39, 3) := by decide +kernel
theorem dL_law_91 : decode cL_law 91 = .ok (.bipush 6, 2) := by decide +kernel
theorem dL_law_93 : decode cL_law 93 = .ok (.ishr, 1) := by decide +kernel
theorem dL_law_94 : decode cL_law 94 = .ok (.bipush 9, 2) := by decide +kernel
theorem dL_law_96 : decode cL_law 96 = .ok (.invokestatic 32, 3) := by decide +kernel
theorem dL_law_99 : decode cL_law 99 = .ok (.iadd, 1) := by decide +kernel
theorem dL_law_100 : decode cL_law 100 = .ok (.istore 4, 2) := by decide +kernel
theorem dL_law_102 : decode cL_law 102 = .ok (.aload_n 1, 1) := by decide +kernel
theorem dL_law_103 : decode cL_law 103 = .ok (.iload_n 3, 1) := by decide +kernel
theorem dL_law_104 : decode cL_law 104 = .ok (.iload 4, 2) := by decide +kernel
theorem dL_law_106 : decode cL_law 106 = .ok (.invokevirtual 49, 3) := by decide +kernel
theorem dL_law_109 : decode cL_law 109 = .ok (.pop, 1) := by decide +kernel
theorem dL_law_110 : decode cL_law 110 = .ok (.iconst 0, 1) := by decide +kernel
theorem dL_law_111 : decode cL_law 111 = .ok (.istore 5, 2) := by decide +kernel
theorem dL_law_113 : decode cL_law 113 = .ok (.iconst 0, 1) := by decide +kernel
theorem dL_law_114 : decode cL_law 114 = .ok (.istore 6, 2) := by decide +kernel
theorem dL_law_116 : decode cL_law 116 = .ok (.iload 6, 2) := by decide +kernel
theorem dL_law_118 : decode cL_law 118 = .ok (.bipush 8, 2) := by decide +kernel
theorem dL_law_120 : decode cL_law 120 = .ok (.if_icmp .ge 615, 3) := by decide +kernel
theorem dL_law_123 : decode cL_law 123 = .ok (.aload_n 0, 1) := by decide +kernel
theorem dL_law_124 : decode cL_law 124 = .ok (.bipush 6, 2) := by decide +kernel
theorem dL_law_126 : decode cL_law 126 = .ok (.iload 6, 2) := by decide +kernel
theorem dL_law_128 : decode cL_law 128 = .ok (.iadd, 1) := by decide +kernel
theorem dL_law_129 : decode cL_law 129 = .ok (.invokestatic 39, 3) := by decide +kernel
theorem dL_law_132 : decode cL_law 132 = .ok (.istore 7, 2) := by decide +kernel
theorem dL_law_134 : decode cL_law 134 = .ok (.iload 7, 2) := by decide +kernel
theorem dL_law_136 : decode cL_law 136 = .ok (.iconst 3, 1) := by decide +kernel
theorem dL_law_137 : decode cL_law 137 = .ok (.invokestatic 32, 3) := by decide +kernel
theorem dL_law_140 : decode cL_law 140 = .ok (.ifCond .ne 7, 3) := by decide +kernel
theorem dL_law_143 : decode cL_law 143 = .ok (.iconst 1, 1) := by decide +kernel
theorem dL_law_144 : decode cL_law 144 = .ok (.goto 4, 3) := by decide +kernel
theorem dL_law_147 : decode cL_law 147 = .ok (.iconst 0, 1) := by decide +kernel
theorem dL_law_148 : decode cL_law 148 = .ok (.istore 8, 2) := by decide +kernel
theorem dL_law_150 : decode cL_law 150 = .ok (.aload_n 1, 1) := by decide +kernel
theorem dL_law_151 : decode cL_law 151 = .ok (.iload 8, 2) := by decide +kernel
theorem dL_law_153 : decode cL_law 153 = .ok (.ifCond .eq 17, 3) := by decide +kernel
theorem dL_law_156 : decode cL_law 156 = .ok (.iconst 1, 1) := by decide +kernel
theorem dL_law_157 : decode cL_law 157 = .ok (.iload 7, 2) := by decide +kernel
theorem dL_law_159 : decode cL_law 159 = .ok (.iconst 4, 1) := by decide +kernel
theorem dL_law_160 : decode cL_law 160 = .ok (.ishr, 1) := by decide +kernel
theorem dL_law_161 : decode cL_law 161 = .ok (.bipush 6, 2) := by decide +kernel
theorem dL_law_163 : decode cL_law 163 = .ok (.invokestatic 32, 3) := by decide +kernel
theorem dL_law_166 : decode cL_law 166 = .ok (.iadd, 1) := by decide +kernel
theorem dL_law_167 : decode cL_law 167 = .ok (.goto 4, 3) := by decide +kernel
theorem dL_law_170 : decode cL_law 170 = .ok (.iconst 0, 1) := by decide +kernel
theorem dL_law_171 : decode cL_law 171 = .ok (.iload 8, 2) := by decide +kernel
theorem dL_law_173 : decode cL_law 173 = .ok (.ifCond .eq 16, 3) := by decide +kernel
theorem dL_law_176 : decode cL_law 176 = .ok (.iload 7, 2) := by decide +kernel
theorem dL_law_178 : decode cL_law 178 = .ok (.bipush 7, 2) := by decide +kernel
theorem dL_law_180 : decode cL_law 180 = .ok (.ishr, 1) := by decide +kernel
theorem dL_law_181 : decode cL_law 181 = .ok (.bipush 7, 2) := by decide +kernel
theorem dL_law_183 : decode cL_law 183 = .ok (.invokestatic 32, 3) := by decide +kernel
theorem dL_law_186 : decode cL_law 186 = .ok (.goto 4, 3) := by decide +kernel
theorem dL_law_189 : decode cL_law 189 = .ok (.iconst 0, 1) := by decide +kernel
theorem dL_law_190 : decode cL_law 190 = .ok (.invokevirtual 52, 3) := by decide +kernel
theorem dL_law_193 : decode cL_law 193 = .ok (.pop, 1) := by decide +kernel
theorem dL_law_194 : decode cL_law 194 = .ok (.new 55, 3) := by decide +kernel
theorem dL_law_197 : decode cL_law 197 = .ok (.dup, 1) := by decide +kernel
theorem dL_law_198 : decode cL_law 198 = .ok (.invokespecial 57, 3) := by decide +kernel
theorem dL_law_201 : decode cL_law 201 = .ok (.astore 9, 2) := by decide +kernel
theorem dL_law_203 : decode cL_law 203 = .ok (.iconst 0, 1) := by decide +kernel
theorem dL_law_204 : decode cL_law 204 = .ok (.istore 10, 2) := by decide +kernel
theorem dL_law_206 : decode cL_law 206 = .ok (.iload 10, 2) := by decide +kernel
theorem dL_law_208 : decode cL_law 208 = .ok (.iload 7, 2) := by decide +kernel
theorem dL_law_210 : decode cL_law 210 = .ok (.iconst 3, 1) := by decide +kernel
theorem dL_law_211 : decode cL_law 211 = .ok (.ishr, 1) := by decide +kernel
theorem dL_law_212 : decode cL_law 212 = .ok (.bipush 11, 2) := by decide +kernel
theorem dL_law_214 : decode cL_law 214 = .ok (.invokestatic 32, 3) := by decide +kernel
theorem dL_law_217 : decode cL_law 217 = .ok (.if_icmp .ge 55, 3) := by decide +kernel
theorem dL_law_220 : decode cL_law 220 = .ok (.aload_n 0, 1) := by decide +kernel
theorem dL_law_221 : decode cL_law 221 = .ok (.iload 6, 2) := by decide +kernel
theorem dL_law_223 : decode cL_law 223 = .ok (.iload 10, 2) := by decide +kernel
theorem dL_law_225 : decode cL_law 225 = .ok (.iadd, 1) := by decide +kernel
theorem dL_law_226 : decode cL_law 226 = .ok (.bipush 16, 2) := by decide +kernel
theorem dL_law_228 : decode cL_law 228 = .ok (.irem, 1) := by decide +kernel
theorem dL_law_229 : decode cL_law 229 = .ok (.invokestatic 39, 3) := by decide +kernel
theorem dL_law_232 : decode cL_law 232 = .ok (.iload 10, 2) := by decide +kernel
theorem dL_law_234 : decode cL_law 234 = .ok (.ishr, 1) := by decide +kernel
theorem dL_law_235 : decode cL_law 235 = .ok (.bipush 12, 2) := by decide +kernel
theorem dL_law_237 : decode cL_law 237 = .ok (.invokestatic 32, 3) := by decide +kernel
theorem dL_law_240 : decode cL_law 240 = .ok (.istore 11, 2) := by decide +kernel
theorem dL_law_242 : decode cL_law 242 = .ok (.aload 9, 2) := by decide +kernel
theorem dL_law_244 : decode cL_law 244 = .ok (.aload_n 2, 1) := by decide +kernel
theorem dL_law_245 : decode cL_law 245 = .ok (.iload 11, 2) := by decide +kernel
theorem dL_law_247 : decode cL_law 247 = .ok (.iaload, 1) := by decide +kernel
theorem dL_law_248 : decode cL_law 248 = .ok (.ifCond .ne 8, 3) := by decide +kernel
theorem dL_law_251 : decode cL_law 251 = .ok (.bipush 32, 2) := by decide +kernel
theorem dL_law_253 : decode cL_law 253 = .ok (.goto 9, 3) := by decide +kernel
theorem dL_law_256 : decode cL_law 256 = .ok (.bipush 97, 2) := by decide +kernel
theorem dL_law_258 : decode cL_law 258 = .ok (.iload 11, 2) := by decide +kernel
theorem dL_law_260 : decode cL_law 260 = .ok (.iadd, 1) := by decide +kernel
theorem dL_law_261 : decode cL_law 261 = .ok (.i2c, 1) := by decide +kernel
theorem dL_law_262 : decode cL_law 262 = .ok (.invokevirtual 58, 3) := by decide +kernel
theorem dL_law_265 : decode cL_law 265 = .ok (.pop, 1) := by decide +kernel
theorem dL_law_266 : decode cL_law 266 = .ok (.iinc 10 1, 3) := by decide +kernel
theorem dL_law_269 : decode cL_law 269 = .ok (.goto (-63), 3) := by decide +kernel
theorem dL_law_272 : decode cL_law 272 = .ok (.aload_n 1, 1) := by decide +kernel
theorem dL_law_273 : decode cL_law 273 = .ok (.aload 9, 2) := by decide +kernel
theorem dL_law_275 : decode cL_law 275 = .ok (.invokevirtual 62, 3) := by decide +kernel
theorem dL_law_278 : decode cL_law 278 = .ok (.invokestatic 66, 3) := by decide +kernel
theorem dL_law_281 : decode cL_law 281 = .ok (.iload 5, 2) := by decide +kernel
theorem dL_law_283 : decode cL_law 283 = .ok (.if_icmp .eq 5, 3) := by decide +kernel
theorem dL_law_286 : decode cL_law 286 = .ok (.iconst 0, 1) := by decide +kernel
theorem dL_law_287 : decode cL_law 287 = .ok (.ireturn, 1) := by decide +kernel
theorem dL_law_288 : decode cL_law 288 = .ok (.goto 14, 3) := by decide +kernel
theorem dL_law_291 : decode cL_law 291 = .ok (.astore 10, 2) := by decide +kernel
theorem dL_law_293 : decode cL_law 293 = .ok (.aload_n 1, 1) := by decide +kernel
theorem dL_law_294 : decode cL_law 294 = .ok (.iconst 0, 1) := by decide +kernel
theorem dL_law_295 : decode cL_law 295 = .ok (.invokevirtual 25, 3) := by decide +kernel
theorem dL_law_298 : decode cL_law 298 = .ok (.pop, 1) := by decide +kernel
theorem dL_law_299 : decode cL_law 299 = .ok (.goto 430, 3) := by decide +kernel
theorem dL_law_302 : decode cL_law 302 = .ok (.aload_n 1, 1) := by decide +kernel
theorem dL_law_303 : decode cL_law 303 = .ok (.iload 5, 2) := by decide +kernel
theorem dL_law_305 : decode cL_law 305 = .ok (.iconst 0, 1) := by decide +kernel
theorem dL_law_306 : decode cL_law 306 = .ok (.invokevirtual 71, 3) := by decide +kernel
theorem dL_law_309 : decode cL_law 309 = .ok (.aload_n 1, 1) := by decide +kernel
theorem dL_law_310 : decode cL_law 310 = .ok (.iload 5, 2) := by decide +kernel
theorem dL_law_312 : decode cL_law 312 = .ok (.iconst 1, 1) := by decide +kernel
theorem dL_law_313 : decode cL_law 313 = .ok (.invokevirtual 71, 3) := by decide +kernel
theorem dL_law_316 : decode cL_law 316 = .ok (.isub, 1) := by decide +kernel
theorem dL_law_317 : decode cL_law 317 = .ok (.istore 10, 2) := by decide +kernel
theorem dL_law_319 : decode cL_law 319 = .ok (.iload 8, 2) := by decide +kernel
theorem dL_law_321 : decode cL_law 321 = .ok (.ifCond .ne 45, 3) := by decide +kernel
theorem dL_law_324 : decode cL_law 324 = .ok (.aload_n 1, 1) := by decide +kernel
theorem dL_law_325 : decode cL_law 325 = .ok (.iload 5, 2) := by decide +kernel
theorem dL_law_327 : decode cL_law 327 = .ok (.iconst 4, 1) := by decide +kernel
theorem dL_law_328 : decode cL_law 328 = .ok (.invokevirtual 71, 3) := by decide +kernel
theorem dL_law_331 : decode cL_law 331 = .ok (.ifCond .ne 33, 3) := by decide +kernel
theorem dL_law_334 : decode cL_law 334 = .ok (.aload_n 1, 1) := by decide +kernel
theorem dL_law_335 : decode cL_law 335 = .ok (.iload 5, 2) := by decide +kernel
theorem dL_law_337 : decode cL_law 337 = .ok (.bipush 6, 2) := by decide +kernel
theorem dL_law_339 : decode cL_law 339 = .ok (.invokevirtual 71, 3) := by decide +kernel
theorem dL_law_342 : decode cL_law 342 = .ok (.iconst 1, 1) := by decide +kernel
theorem dL_law_343 : decode cL_law 343 = .ok (.if_icmp .lt 21, 3) := by decide +kernel
theorem dL_law_346 : decode cL_law 346 = .ok (.aload_n 1, 1) := by decide +kernel
theorem dL_law_347 : decode cL_law 347 = .ok (.iload 5, 2) := by decide +kernel
theorem dL_law_349 : decode cL_law 349 = .ok (.iconst 2, 1) := by decide +kernel
theorem dL_law_350 : decode cL_law 350 = .ok (.invokevirtual 71, 3) := by decide +kernel
theorem dL_law_353 : decode cL_law 353 = .ok (.aload_n 1, 1) := by decide +kernel
theorem dL_law_354 : decode cL_law 354 = .ok (.iload 5, 2) := by decide +kernel
theorem dL_law_356 : decode cL_law 356 = .ok (.iconst 3, 1) := by decide +kernel
theorem dL_law_357 : decode cL_law 357 = .ok (.invokevirtual 71, 3) := by decide +kernel
theorem dL_law_360 : decode cL_law 360 = .ok (.iadd, 1) := by decide +kernel
theorem dL_law_361 : decode cL_law 361 = .ok (.ifCond .eq 5, 3) := by decide +kernel
theorem dL_law_364 : decode cL_law 364 = .ok (.iconst 0, 1) := by decide +kernel
theorem dL_law_365 : decode cL_law 365 = .ok (.ireturn, 1) := by decide +kernel
theorem dL_law_366 : decode cL_law 366 = .ok (.aload_n 1, 1) := by decide +kernel
theorem dL_law_367 : decode cL_law 367 = .ok (.iload 5, 2) := by decide +kernel
theorem dL_law_369 : decode cL_law 369 = .ok (.iconst 4, 1) := by decide +kernel
theorem dL_law_370 : decode cL_law 370 = .ok (.invokevirtual 71, 3) := by decide +kernel
theorem dL_law_373 : decode cL_law 373 = .ok (.iload 10, 2) := by decide +kernel
theorem dL_law_375 : decode cL_law 375 = .ok (.iload 4, 2) := by decide +kernel
theorem dL_law_377 : decode cL_law 377 = .ok (.imul, 1) := by decide +kernel
theorem dL_law_378 : decode cL_law 378 = .ok (.if_icmp .gt 49, 3) := by decide +kernel
theorem dL_law_381 : decode cL_law 381 = .ok (.aload_n 1, 1) := by decide +kernel
theorem dL_law_382 : decode cL_law 382 = .ok (.iload 5, 2) := by decide +kernel
theorem dL_law_384 : decode cL_law 384 = .ok (.iconst 5, 1) := by decide +kernel
theorem dL_law_385 : decode cL_law 385 = .ok (.invokevirtual 71, 3) := by decide +kernel
theorem dL_law_388 : decode cL_law 388 = .ok (.iload 10, 2) := by decide +kernel
theorem dL_law_390 : decode cL_law 390 = .ok (.if_icmp .gt 37, 3) := by decide +kernel
theorem dL_law_393 : decode cL_law 393 = .ok (.aload_n 1, 1) := by decide +kernel
theorem dL_law_394 : decode cL_law 394 = .ok (.iload 5, 2) := by decide +kernel
theorem dL_law_396 : decode cL_law 396 = .ok (.iconst 4, 1) := by decide +kernel
theorem dL_law_397 : decode cL_law 397 = .ok (.invokevirtual 71, 3) := by decide +kernel
theorem dL_law_400 : decode cL_law 400 = .ok (.ifCond .ne 7, 3) := by decide +kernel
theorem dL_law_403 : decode cL_law 403 = .ok (.iconst 1, 1) := by decide +kernel
theorem dL_law_404 : decode cL_law 404 = .ok (.goto 4, 3) := by decide +kernel
theorem dL_law_407 : decode cL_law 407 = .ok (.iconst 0, 1) := by decide +kernel
theorem dL_law_408 : decode cL_law 408 = .ok (.aload_n 1, 1) := by decide +kernel
theorem dL_law_409 : decode cL_law 409 = .ok (.iload 5, 2) := by decide +kernel
theorem dL_law_411 : decode cL_law 411 = .ok (.bipush 6, 2) := by decide +kernel
theorem dL_law_413 : decode cL_law 413 = .ok (.invokevirtual 71, 3) := by decide +kernel
theorem dL_law_416 : decode cL_law 416 = .ok (.ifCond .le 7, 3) := by decide +kernel
theorem dL_law_419 : decode cL_law 419 = .ok (.iconst 1, 1) := by decide +kernel
theorem dL_law_420 : decode cL_law 420 = .ok (.goto 4, 3) := by decide +kernel
theorem dL_law_423 : decode cL_law 423 = .ok (.iconst 0, 1) := by decide +kernel
theorem dL_law_424 : decode cL_law 424 = .ok (.if_icmp .eq 5, 3) := by decide +kernel
theorem dL_law_427 : decode cL_law 427 = .ok (.iconst 0, 1) := by decide +kernel
theorem dL_law_428 : decode cL_law 428 = .ok (.ireturn, 1) := by decide +kernel
theorem dL_law_429 : decode cL_law 429 = .ok (.aload_n 1, 1) := by decide +kernel
theorem dL_law_430 : decode cL_law 430 = .ok (.iload 5, 2) := by decide +kernel
theorem dL_law_432 : decode cL_law 432 = .ok (.invokevirtual 74, 3) := by decide +kernel
theorem dL_law_435 : decode cL_law 435 = .ok (.istore 11, 2) := by decide +kernel
theorem dL_law_437 : decode cL_law 437 = .ok (.iload 11, 2) := by decide +kernel
theorem dL_law_439 : decode cL_law 439 = .ok (.aload_n 1, 1) := by decide +kernel
theorem dL_law_440 : decode cL_law 440 = .ok (.iload 5, 2) := by decide +kernel
theorem dL_law_442 : decode cL_law 442 = .ok (.iconst 5, 1) := by decide +kernel
theorem dL_law_443 : decode cL_law 443 = .ok (.invokevirtual 71, 3) := by decide +kernel
theorem dL_law_446 : decode cL_law 446 = .ok (.aload_n 1, 1) := by decide +kernel
theorem dL_law_447 : decode cL_law 447 = .ok (.iload 5, 2) := by decide +kernel
theorem dL_law_449 : decode cL_law 449 = .ok (.iconst 1, 1) := by decide +kernel
theorem dL_law_450 : decode cL_law 450 = .ok (.invokevirtual 71, 3) := by decide +kernel
theorem dL_law_453 : decode cL_law 453 = .ok (.iadd, 1) := by decide +kernel
theorem dL_law_454 : decode cL_law 454 = .ok (.if_icmp .eq 5, 3) := by decide +kernel
theorem dL_law_457 : decode cL_law 457 = .ok (.iconst 0, 1) := by decide +kernel
theorem dL_law_458 : decode cL_law 458 = .ok (.ireturn, 1) := by decide +kernel
theorem dL_law_459 : decode cL_law 459 = .ok (.iconst 0, 1) := by decide +kernel
theorem dL_law_460 : decode cL_law 460 = .ok (.istore 12, 2) := by decide +kernel
theorem dL_law_462 : decode cL_law 462 = .ok (.iconst 0, 1) := by decide +kernel
theorem dL_law_463 : decode cL_law 463 = .ok (.istore 13, 2) := by decide +kernel
theorem dL_law_465 : decode cL_law 465 = .ok (.iload 13, 2) := by decide +kernel
theorem dL_law_467 : decode cL_law 467 = .ok (.iload 11, 2) := by decide +kernel
theorem dL_law_469 : decode cL_law 469 = .ok (.if_icmp .ge 67, 3) := by decide +kernel
theorem dL_law_472 : decode cL_law 472 = .ok (.aload_n 1, 1) := by decide +kernel
theorem dL_law_473 : decode cL_law 473 = .ok (.iload 13, 2) := by decide +kernel
theorem dL_law_475 : decode cL_law 475 = .ok (.invokevirtual 77, 3) := by decide +kernel
theorem dL_law_478 : decode cL_law 478 = .ok (.istore 14, 2) := by decide +kernel
theorem dL_law_480 : decode cL_law 480 = .ok (.iload 12, 2) := by decide +kernel
theorem dL_law_482 : decode cL_law 482 = .ok (.iload 14, 2) := by decide +kernel
theorem dL_law_484 : decode cL_law 484 = .ok (.bipush 32, 2) := by decide +kernel
theorem dL_law_486 : decode cL_law 486 = .ok (.if_icmp .ne 7, 3) := by decide +kernel
theorem dL_law_489 : decode cL_law 489 = .ok (.iconst 1, 1) := by decide +kernel
theorem dL_law_490 : decode cL_law 490 = .ok (.goto 4, 3) := by decide +kernel
theorem dL_law_493 : decode cL_law 493 = .ok (.iconst 0, 1) := by decide +kernel
theorem dL_law_494 : decode cL_law 494 = .ok (.iadd, 1) := by decide +kernel
theorem dL_law_495 : decode cL_law 495 = .ok (.istore 12, 2) := by decide +kernel
theorem dL_law_497 : decode cL_law 497 = .ok (.iload 14, 2) := by decide +kernel
theorem dL_law_499 : decode cL_law 499 = .ok (.bipush 32, 2) := by decide +kernel
theorem dL_law_501 : decode cL_law 501 = .ok (.if_icmp .eq 29, 3) := by decide +kernel
theorem dL_law_504 : decode cL_law 504 = .ok (.iload 14, 2) := by decide +kernel
theorem dL_law_506 : decode cL_law 506 = .ok (.bipush 97, 2) := by decide +kernel
theorem dL_law_508 : decode cL_law 508 = .ok (.if_icmp .lt 20, 3) := by decide +kernel
theorem dL_law_511 : decode cL_law 511 = .ok (.iload 14, 2) := by decide +kernel
theorem dL_law_513 : decode cL_law 513 = .ok (.bipush 108, 2) := by decide +kernel
theorem dL_law_515 : decode cL_law 515 = .ok (.if_icmp .gt 13, 3) := by decide +kernel
theorem dL_law_518 : decode cL_law 518 = .ok (.aload_n 2, 1) := by decide +kernel
theorem dL_law_519 : decode cL_law 519 = .ok (.iload 14, 2) := by decide +kernel
theorem dL_law_521 : decode cL_law 521 = .ok (.bipush 97, 2) := by decide +kernel
theorem dL_law_523 : decode cL_law 523 = .ok (.isub, 1) := by decide +kernel
theorem dL_law_524 : decode cL_law 524 = .ok (.iaload, 1) := by decide +kernel
theorem dL_law_525 : decode cL_law 525 = .ok (.ifCond .ne 5, 3) := by decide +kernel
theorem dL_law_528 : decode cL_law 528 = .ok (.iconst 0, 1) := by decide +kernel
theorem dL_law_529 : decode cL_law 529 = .ok (.ireturn, 1) := by decide +kernel
theorem dL_law_530 : decode cL_law 530 = .ok (.iinc 13 1, 3) := by decide +kernel
theorem dL_law_533 : decode cL_law 533 = .ok (.goto (-68), 3) := by decide +kernel
theorem dL_law_536 : decode cL_law 536 = .ok (.aload_n 1, 1) := by decide +kernel
theorem dL_law_537 : decode cL_law 537 = .ok (.invokevirtual 80, 3) := by decide +kernel
theorem dL_law_540 : decode cL_law 540 = .ok (.lstore 13, 2) := by decide +kernel
theorem dL_law_542 : decode cL_law 542 = .ok (.aload_n 1, 1) := by decide +kernel
theorem dL_law_543 : decode cL_law 543 = .ok (.invokevirtual 84, 3) := by decide +kernel
theorem dL_law_546 : decode cL_law 546 = .ok (.pop, 1) := by decide +kernel
theorem dL_law_547 : decode cL_law 547 = .ok (.aload_n 1, 1) := by decide +kernel
theorem dL_law_548 : decode cL_law 548 = .ok (.invokevirtual 88, 3) := by decide +kernel
theorem dL_law_551 : decode cL_law 551 = .ok (.pop, 1) := by decide +kernel
theorem dL_law_552 : decode cL_law 552 = .ok (.aload_n 1, 1) := by decide +kernel
theorem dL_law_553 : decode cL_law 553 = .ok (.invokevirtual 91, 3) := by decide +kernel
theorem dL_law_556 : decode cL_law 556 = .ok (.pop, 1) := by decide +kernel
theorem dL_law_557 : decode cL_law 557 = .ok (.aload_n 1, 1) := by decide +kernel
theorem dL_law_558 : decode cL_law 558 = .ok (.invokevirtual 94, 3) := by decide +kernel
theorem dL_law_561 : decode cL_law 561 = .ok (.pop, 1) := by decide +kernel
theorem dL_law_562 : decode cL_law 562 = .ok (.aload_n 1, 1) := by decide +kernel
theorem dL_law_563 : decode cL_law 563 = .ok (.iload 5, 2) := by decide +kernel
theorem dL_law_565 : decode cL_law 565 = .ok (.invokevirtual 97, 3) := by decide +kernel
theorem dL_law_568 : decode cL_law 568 = .ok (.istore 15, 2) := by decide +kernel
theorem dL_law_570 : decode cL_law 570 = .ok (.iload 12, 2) := by decide +kernel
theorem dL_law_572 : decode cL_law 572 = .ok (.aload_n 1, 1) := by decide +kernel
theorem dL_law_573 : decode cL_law 573 = .ok (.iload 5, 2) := by decide +kernel
theorem dL_law_575 : decode cL_law 575 = .ok (.iconst 1, 1) := by decide +kernel
theorem dL_law_576 : decode cL_law 576 = .ok (.invokevirtual 71, 3) := by decide +kernel
theorem dL_law_579 : decode cL_law 579 = .ok (.if_icmp .ne 20, 3) := by decide +kernel
theorem dL_law_582 : decode cL_law 582 = .ok (.iload 15, 2) := by decide +kernel
theorem dL_law_584 : decode cL_law 584 = .ok (.iload 5, 2) := by decide +kernel
theorem dL_law_586 : decode cL_law 586 = .ok (.if_icmp .eq 13, 3) := by decide +kernel
theorem dL_law_589 : decode cL_law 589 = .ok (.aload_n 1, 1) := by decide +kernel
theorem dL_law_590 : decode cL_law 590 = .ok (.invokevirtual 80, 3) := by decide +kernel
theorem dL_law_593 : decode cL_law 593 = .ok (.lload 13, 2) := by decide +kernel
theorem dL_law_595 : decode cL_law 595 = .ok (.lcmp, 1) := by decide +kernel
theorem dL_law_596 : decode cL_law 596 = .ok (.ifCond .eq 5, 3) := by decide +kernel
theorem dL_law_599 : decode cL_law 599 = .ok (.iconst 0, 1) := by decide +kernel
theorem dL_law_600 : decode cL_law 600 = .ok (.ireturn, 1) := by decide +kernel
theorem dL_law_601 : decode cL_law 601 = .ok (.iconst 0, 1) := by decide +kernel
theorem dL_law_602 : decode cL_law 602 = .ok (.istore 16, 2) := by decide +kernel
theorem dL_law_604 : decode cL_law 604 = .ok (.iload 16, 2) := by decide +kernel
theorem dL_law_606 : decode cL_law 606 = .ok (.iload 5, 2) := by decide +kernel
theorem dL_law_608 : decode cL_law 608 = .ok (.if_icmp .gt 118, 3) := by decide +kernel
theorem dL_law_611 : decode cL_law 611 = .ok (.aload_n 1, 1) := by decide +kernel
theorem dL_law_612 : decode cL_law 612 = .ok (.iload 5, 2) := by decide +kernel
theorem dL_law_614 : decode cL_law 614 = .ok (.iload 16, 2) := by decide +kernel
theorem dL_law_616 : decode cL_law 616 = .ok (.invokevirtual 100, 3) := by decide +kernel
theorem dL_law_619 : decode cL_law 619 = .ok (.istore 17, 2) := by decide +kernel
theorem dL_law_621 : decode cL_law 621 = .ok (.aload_n 1, 1) := by decide +kernel
theorem dL_law_622 : decode cL_law 622 = .ok (.iload 5, 2) := by decide +kernel
theorem dL_law_624 : decode cL_law 624 = .ok (.iconst 1, 1) := by decide +kernel
theorem dL_law_625 : decode cL_law 625 = .ok (.invokevirtual 71, 3) := by decide +kernel
theorem dL_law_628 : decode cL_law 628 = .ok (.aload_n 1, 1) := by decide +kernel
theorem dL_law_629 : decode cL_law 629 = .ok (.iload 16, 2) := by decide +kernel
theorem dL_law_631 : decode cL_law 631 = .ok (.iconst 1, 1) := by decide +kernel
theorem dL_law_632 : decode cL_law 632 = .ok (.invokevirtual 71, 3) := by decide +kernel
theorem dL_law_635 : decode cL_law 635 = .ok (.iadd, 1) := by decide +kernel
theorem dL_law_636 : decode cL_law 636 = .ok (.istore 18, 2) := by decide +kernel
theorem dL_law_638 : decode cL_law 638 = .ok (.iload 10, 2) := by decide +kernel
theorem dL_law_640 : decode cL_law 640 = .ok (.iload_n 3, 1) := by decide +kernel
theorem dL_law_641 : decode cL_law 641 = .ok (.imul, 1) := by decide +kernel
theorem dL_law_642 : decode cL_law 642 = .ok (.aload_n 1, 1) := by decide +kernel
theorem dL_law_643 : decode cL_law 643 = .ok (.iload 16, 2) := by decide +kernel
theorem dL_law_645 : decode cL_law 645 = .ok (.iconst 0, 1) := by decide +kernel
theorem dL_law_646 : decode cL_law 646 = .ok (.invokevirtual 71, 3) := by decide +kernel
theorem dL_law_649 : decode cL_law 649 = .ok (.aload_n 1, 1) := by decide +kernel
theorem dL_law_650 : decode cL_law 650 = .ok (.iload 16, 2) := by decide +kernel
theorem dL_law_652 : decode cL_law 652 = .ok (.iconst 1, 1) := by decide +kernel
theorem dL_law_653 : decode cL_law 653 = .ok (.invokevirtual 71, 3) := by decide +kernel
theorem dL_law_656 : decode cL_law 656 = .ok (.isub, 1) := by decide +kernel
theorem dL_law_657 : decode cL_law 657 = .ok (.iload 4, 2) := by decide +kernel
theorem dL_law_659 : decode cL_law 659 = .ok (.imul, 1) := by decide +kernel
theorem dL_law_660 : decode cL_law 660 = .ok (.iadd, 1) := by decide +kernel
theorem dL_law_661 : decode cL_law 661 = .ok (.bipush 9, 2) := by decide +kernel
theorem dL_law_663 : decode cL_law 663 = .ok (.iload 18, 2) := by decide +kernel
theorem dL_law_665 : decode cL_law 665 = .ok (.imul, 1) := by decide +kernel
theorem dL_law_666 : decode cL_law 666 = .ok (.iadd, 1) := by decide +kernel
theorem dL_law_667 : decode cL_law 667 = .ok (.istore 19, 2) := by decide +kernel
theorem dL_law_669 : decode cL_law 669 = .ok (.iload 17, 2) := by decide +kernel
theorem dL_law_671 : decode cL_law 671 = .ok (.ifCond .lt 47, 3) := by decide +kernel
theorem dL_law_674 : decode cL_law 674 = .ok (.iload 17, 2) := by decide +kernel
theorem dL_law_676 : decode cL_law 676 = .ok (.iload 19, 2) := by decide +kernel
theorem dL_law_678 : decode cL_law 678 = .ok (.if_icmp .gt 40, 3) := by decide +kernel
theorem dL_law_681 : decode cL_law 681 = .ok (.iload 16, 2) := by decide +kernel
theorem dL_law_683 : decode cL_law 683 = .ok (.iload 5, 2) := by decide +kernel
theorem dL_law_685 : decode cL_law 685 = .ok (.if_icmp .ne 8, 3) := by decide +kernel
theorem dL_law_688 : decode cL_law 688 = .ok (.iload 17, 2) := by decide +kernel
theorem dL_law_690 : decode cL_law 690 = .ok (.ifCond .ne 28, 3) := by decide +kernel
theorem dL_law_693 : decode cL_law 693 = .ok (.iload 15, 2) := by decide +kernel
theorem dL_law_695 : decode cL_law 695 = .ok (.ifCond .lt 25, 3) := by decide +kernel
theorem dL_law_698 : decode cL_law 698 = .ok (.iload 16, 2) := by decide +kernel
theorem dL_law_700 : decode cL_law 700 = .ok (.iload 5, 2) := by decide +kernel
theorem dL_law_702 : decode cL_law 702 = .ok (.if_icmp .eq 18, 3) := by decide +kernel
theorem dL_law_705 : decode cL_law 705 = .ok (.iload 17, 2) := by decide +kernel
theorem dL_law_707 : decode cL_law 707 = .ok (.aload_n 1, 1) := by decide +kernel
theorem dL_law_708 : decode cL_law 708 = .ok (.iload 5, 2) := by decide +kernel
theorem dL_law_710 : decode cL_law 710 = .ok (.iload 15, 2) := by decide +kernel
theorem dL_law_712 : decode cL_law 712 = .ok (.invokevirtual 100, 3) := by decide +kernel
theorem dL_law_715 : decode cL_law 715 = .ok (.if_icmp .ge 5, 3) := by decide +kernel
theorem dL_law_718 : decode cL_law 718 = .ok (.iconst 0, 1) := by decide +kernel
theorem dL_law_719 : decode cL_law 719 = .ok (.ireturn, 1) := by decide +kernel
theorem dL_law_720 : decode cL_law 720 = .ok (.iinc 16 1, 3) := by decide +kernel
theorem dL_law_723 : decode cL_law 723 = .ok (.goto (-119), 3) := by decide +kernel
theorem dL_law_726 : decode cL_law 726 = .ok (.iinc 5 1, 3) := by decide +kernel
theorem dL_law_729 : decode cL_law 729 = .ok (.iinc 6 1, 3) := by decide +kernel
theorem dL_law_732 : decode cL_law 732 = .ok (.goto (-616), 3) := by decide +kernel
theorem dL_law_735 : decode cL_law 735 = .ok (.iconst 0, 1) := by decide +kernel
theorem dL_law_736 : decode cL_law 736 = .ok (.istore 6, 2) := by decide +kernel
theorem dL_law_738 : decode cL_law 738 = .ok (.iconst 0, 1) := by decide +kernel
theorem dL_law_739 : decode cL_law 739 = .ok (.istore 7, 2) := by decide +kernel
theorem dL_law_741 : decode cL_law 741 = .ok (.iload 7, 2) := by decide +kernel
theorem dL_law_743 : decode cL_law 743 = .ok (.bipush 12, 2) := by decide +kernel
theorem dL_law_745 : decode cL_law 745 = .ok (.if_icmp .ge 26, 3) := by decide +kernel
theorem dL_law_748 : decode cL_law 748 = .ok (.iload 6, 2) := by decide +kernel
theorem dL_law_750 : decode cL_law 750 = .ok (.aload_n 2, 1) := by decide +kernel
theorem dL_law_751 : decode cL_law 751 = .ok (.iload 7, 2) := by decide +kernel
theorem dL_law_753 : decode cL_law 753 = .ok (.iaload, 1) := by decide +kernel
theorem dL_law_754 : decode cL_law 754 = .ok (.ifCond .le 7, 3) := by decide +kernel
theorem dL_law_757 : decode cL_law 757 = .ok (.iconst 1, 1) := by decide +kernel
theorem dL_law_758 : decode cL_law 758 = .ok (.goto 4, 3) := by decide +kernel
theorem dL_law_761 : decode cL_law 761 = .ok (.iconst 0, 1) := by decide +kernel
theorem dL_law_762 : decode cL_law 762 = .ok (.iadd, 1) := by decide +kernel
theorem dL_law_763 : decode cL_law 763 = .ok (.istore 6, 2) := by decide +kernel
theorem dL_law_765 : decode cL_law 765 = .ok (.iinc 7 1, 3) := by decide +kernel
theorem dL_law_768 : decode cL_law 768 = .ok (.goto (-27), 3) := by decide +kernel
theorem dL_law_771 : decode cL_law 771 = .ok (.aload_n 1, 1) := by decide +kernel
theorem dL_law_772 : decode cL_law 772 = .ok (.iconst 0, 1) := by decide +kernel
theorem dL_law_773 : decode cL_law 773 = .ok (.invokevirtual 103, 3) := by decide +kernel
theorem dL_law_776 : decode cL_law 776 = .ok (.iload 6, 2) := by decide +kernel
theorem dL_law_778 : decode cL_law 778 = .ok (.if_icmp .ne 31, 3) := by decide +kernel
theorem dL_law_781 : decode cL_law 781 = .ok (.aload_n 1, 1) := by decide +kernel
theorem dL_law_782 : decode cL_law 782 = .ok (.iconst 1, 1) := by decide +kernel
theorem dL_law_783 : decode cL_law 783 = .ok (.invokevirtual 103, 3) := by decide +kernel
theorem dL_law_786 : decode cL_law 786 = .ok (.iload 5, 2) := by decide +kernel
theorem dL_law_788 : decode cL_law 788 = .ok (.if_icmp .ne 21, 3) := by decide +kernel
theorem dL_law_791 : decode cL_law 791 = .ok (.aload_n 1, 1) := by decide +kernel
theorem dL_law_792 : decode cL_law 792 = .ok (.invokevirtual 88, 3) := by decide +kernel
theorem dL_law_795 : decode cL_law 795 = .ok (.ifCond .eq 10, 3) := by decide +kernel
theorem dL_law_798 : decode cL_law 798 = .ok (.aload_n 1, 1) := by decide +kernel
theorem dL_law_799 : decode cL_law 799 = .ok (.invokevirtual 84, 3) := by decide +kernel
theorem dL_law_802 : decode cL_law 802 = .ok (.ifCond .eq 7, 3) := by decide +kernel
theorem dL_law_805 : decode cL_law 805 = .ok (.iconst 1, 1) := by decide +kernel
theorem dL_law_806 : decode cL_law 806 = .ok (.goto 4, 3) := by decide +kernel
theorem dL_law_809 : decode cL_law 809 = .ok (.iconst 0, 1) := by decide +kernel
theorem dL_law_810 : decode cL_law 810 = .ok (.ireturn, 1) := by decide +kernel
