theorem dX3_tieKnot_49 : decode cX3_tieKnot 49 = .ok (.goto 59, 3) := by decide +kernel
theorem dX3_tieKnot_52 : decode cX3_tieKnot 52 = .ok (.aload_n 0, 1) := by decide +kernel
theorem dX3_tieKnot_53 : decode cX3_tieKnot 53 = .ok (.getfield 24, 3) := by decide +kernel
theorem dX3_tieKnot_56 : decode cX3_tieKnot 56 = .ok (.ifCond .eq 47, 3) := by decide +kernel
theorem dX3_tieKnot_59 : decode cX3_tieKnot 59 = .ok (.aload_n 0, 1) := by decide +kernel
theorem dX3_tieKnot_60 : decode cX3_tieKnot 60 = .ok (.getfield 9, 3) := by decide +kernel
theorem dX3_tieKnot_63 : decode cX3_tieKnot 63 = .ok (.aload_n 0, 1) := by decide +kernel
theorem dX3_tieKnot_64 : decode cX3_tieKnot 64 = .ok (.getfield 24, 3) := by decide +kernel
theorem dX3_tieKnot_67 : decode cX3_tieKnot 67 = .ok (.irem, 1) := by decide +kernel
theorem dX3_tieKnot_68 : decode cX3_tieKnot 68 = .ok (.ifCond .ne 35, 3) := by decide +kernel
theorem dX3_tieKnot_71 : decode cX3_tieKnot 71 = .ok (.aload_n 0, 1) := by decide +kernel
theorem dX3_tieKnot_72 : decode cX3_tieKnot 72 = .ok (.dup, 1) := by decide +kernel
theorem dX3_tieKnot_73 : decode cX3_tieKnot 73 = .ok (.getfield 27, 3) := by decide +kernel
theorem dX3_tieKnot_76 : decode cX3_tieKnot 76 = .ok (.iconst 1, 1) := by decide +kernel
theorem dX3_tieKnot_77 : decode cX3_tieKnot 77 = .ok (.iadd, 1) := by decide +kernel
theorem dX3_tieKnot_78 : decode cX3_tieKnot 78 = .ok (.putfield 27, 3) := by decide +kernel
theorem dX3_tieKnot_81 : decode cX3_tieKnot 81 = .ok (.aload_n 1, 1) := by decide +kernel
theorem dX3_tieKnot_82 : decode cX3_tieKnot 82 = .ok (.dup, 1) := by decide +kernel
theorem dX3_tieKnot_83 : decode cX3_tieKnot 83 = .ok (.getfield 30, 3) := by decide +kernel
theorem dX3_tieKnot_86 : decode cX3_tieKnot 86 = .ok (.iconst 1, 1) := by decide +kernel
theorem dX3_tieKnot_87 : decode cX3_tieKnot 87 = .ok (.iadd, 1) := by decide +kernel
theorem dX3_tieKnot_88 : decode cX3_tieKnot 88 = .ok (.putfield 30, 3) := by decide +kernel
theorem dX3_tieKnot_91 : decode cX3_tieKnot 91 = .ok (.aload_n 1, 1) := by decide +kernel
theorem dX3_tieKnot_92 : decode cX3_tieKnot 92 = .ok (.iload_n 2, 1) := by decide +kernel
theorem dX3_tieKnot_93 : decode cX3_tieKnot 93 = .ok (.iconst 4, 1) := by decide +kernel
theorem dX3_tieKnot_94 : decode cX3_tieKnot 94 = .ok (.irem, 1) := by decide +kernel
theorem dX3_tieKnot_95 : decode cX3_tieKnot 95 = .ok (.iconst 1, 1) := by decide +kernel
theorem dX3_tieKnot_96 : decode cX3_tieKnot 96 = .ok (.iadd, 1) := by decide +kernel
theorem dX3_tieKnot_97 : decode cX3_tieKnot 97 = .ok (.invokevirtual 31, 3) := by decide +kernel
theorem dX3_tieKnot_100 : decode cX3_tieKnot 100 = .ok (.goto 8, 3) := by decide +kernel
theorem dX3_tieKnot_103 : decode cX3_tieKnot 103 = .ok (.aload_n 1, 1) := by decide +kernel
theorem dX3_tieKnot_104 : decode cX3_tieKnot 104 = .ok (.iload_n 2, 1) := by decide +kernel
theorem dX3_tieKnot_105 : decode cX3_tieKnot 105 = .ok (.invokevirtual 31, 3) := by decide +kernel
theorem dX3_tieKnot_108 : decode cX3_tieKnot 108 = .ok (.return_, 1) := by decide +kernel
theorem dX4_init_0 : decode cX4_init 0 = .ok (.aload_n 0, 1) := by decide +kernel
theorem dX4_init_1 : decode cX4_init 1 = .ok (.invokespecial 3, 3) := by decide +kernel
theorem dX4_init_4 : decode cX4_init 4 = .ok (.aload_n 0, 1) := by decide +kernel
theorem dX4_init_5 : decode cX4_init 5 = .ok (.bipush 41, 2) := by decide +kernel
theorem dX4_init_7 : decode cX4_init 7 = .ok (.newarray .int, 2) := by decide +kernel
theorem dX4_init_9 : decode cX4_init 9 = .ok (.putfield 9, 3) := by decide +kernel
theorem dX4_init_12 : decode cX4_init 12 = .ok (.aload_n 0, 1) := by decide +kernel
theorem dX4_init_13 : decode cX4_init 13 = .ok (.bipush 41, 2) := by decide +kernel
theorem dX4_init_15 : decode cX4_init 15 = .ok (.newarray .int, 2) := by decide +kernel
theorem dX4_init_17 : decode cX4_init 17 = .ok (.putfield 15, 3) := by decide +kernel
theorem dX4_init_20 : decode cX4_init 20 = .ok (.aload_n 0, 1) := by decide +kernel
theorem dX4_init_21 : decode cX4_init 21 = .ok (.bipush 41, 2) := by decide +kernel
theorem dX4_init_23 : decode cX4_init 23 = .ok (.newarray .int, 2) := by decide +kernel
theorem dX4_init_25 : decode cX4_init 25 = .ok (.putfield 18, 3) := by decide +kernel
theorem dX4_init_28 : decode cX4_init 28 = .ok (.aload_n 0, 1) := by decide +kernel
theorem dX4_init_29 : decode cX4_init 29 = .ok (.bipush 96, 2) := by decide +kernel
theorem dX4_init_31 : decode cX4_init 31 = .ok (.newarray .int, 2) := by decide +kernel
theorem dX4_init_33 : decode cX4_init 33 = .ok (.putfield 21, 3) := by decide +kernel
theorem dX4_init_36 : decode cX4_init 36 = .ok (.aload_n 0, 1) := by decide +kernel
theorem dX4_init_37 : decode cX4_init 37 = .ok (.bipush 96, 2) := by decide +kernel
theorem dX4_init_39 : decode cX4_init 39 = .ok (.newarray .int, 2) := by decide +kernel
theorem dX4_init_41 : decode cX4_init 41 = .ok (.putfield 24, 3) := by decide +kernel
theorem dX4_init_44 : decode cX4_init 44 = .ok (.aload_n 0, 1) := by decide +kernel
theorem dX4_init_45 : decode cX4_init 45 = .ok (.bipush 41, 2) := by decide +kernel
theorem dX4_init_47 : decode cX4_init 47 = .ok (.newarray .int, 2) := by decide +kernel
theorem dX4_init_49 : decode cX4_init 49 = .ok (.putfield 27, 3) := by decide +kernel
theorem dX4_init_52 : decode cX4_init 52 = .ok (.aload_n 0, 1) := by decide +kernel
theorem dX4_init_53 : decode cX4_init 53 = .ok (.aload_n 1, 1) := by decide +kernel
theorem dX4_init_54 : decode cX4_init 54 = .ok (.putfield 30, 3) := by decide +kernel
theorem dX4_init_57 : decode cX4_init 57 = .ok (.aload_n 0, 1) := by decide +kernel
theorem dX4_init_58 : decode cX4_init 58 = .ok (.aload_n 2, 1) := by decide +kernel
theorem dX4_init_59 : decode cX4_init 59 = .ok (.putfield 34, 3) := by decide +kernel
theorem dX4_init_62 : decode cX4_init 62 = .ok (.return_, 1) := by decide +kernel
theorem dX4_costIn_0 : decode cX4_costIn 0 = .ok (.iload_n 0, 1) := by decide +kernel
theorem dX4_costIn_1 : decode cX4_costIn 1 = .ok (.bipush 64, 2) := by decide +kernel
theorem dX4_costIn_3 : decode cX4_costIn 3 = .ok (.idiv, 1) := by decide +kernel
theorem dX4_costIn_4 : decode cX4_costIn 4 = .ok (.ireturn, 1) := by decide +kernel
theorem dX4_lettersIn_0 : decode cX4_lettersIn 0 = .ok (.iload_n 0, 1) := by decide +kernel
theorem dX4_lettersIn_1 : decode cX4_lettersIn 1 = .ok (.bipush 64, 2) := by decide +kernel
theorem dX4_lettersIn_3 : decode cX4_lettersIn 3 = .ok (.irem, 1) := by decide +kernel
theorem dX4_lettersIn_4 : decode cX4_lettersIn 4 = .ok (.ireturn, 1) := by decide +kernel
theorem dX4_weightOf_0 : decode cX4_weightOf 0 = .ok (.iconst 0, 1) := by decide +kernel
theorem dX4_weightOf_1 : decode cX4_weightOf 1 = .ok (.istore_n 2, 1) := by decide +kernel
theorem dX4_weightOf_2 : decode cX4_weightOf 2 = .ok (.iconst 0, 1) := by decide +kernel
theorem dX4_weightOf_3 : decode cX4_weightOf 3 = .ok (.istore_n 3, 1) := by decide +kernel
theorem dX4_weightOf_4 : decode cX4_weightOf 4 = .ok (.iconst 0, 1) := by decide +kernel
theorem dX4_weightOf_5 : decode cX4_weightOf 5 = .ok (.istore 4, 2) := by decide +kernel
theorem dX4_weightOf_7 : decode cX4_weightOf 7 = .ok (.iload 4, 2) := by decide +kernel
theorem dX4_weightOf_9 : decode cX4_weightOf 9 = .ok (.aload_n 1, 1) := by decide +kernel
theorem dX4_weightOf_10 : decode cX4_weightOf 10 = .ok (.getfield 38, 3) := by decide +kernel
theorem dX4_weightOf_13 : decode cX4_weightOf 13 = .ok (.if_icmp .gt 40, 3) := by decide +kernel
theorem dX4_weightOf_16 : decode cX4_weightOf 16 = .ok (.aload_n 1, 1) := by decide +kernel
theorem dX4_weightOf_17 : decode cX4_weightOf 17 = .ok (.iload 4, 2) := by decide +kernel
theorem dX4_weightOf_19 : decode cX4_weightOf 19 = .ok (.invokevirtual 44, 3) := by decide +kernel
theorem dX4_weightOf_22 : decode cX4_weightOf 22 = .ok (.ifCond .eq 25, 3) := by decide +kernel
theorem dX4_weightOf_25 : decode cX4_weightOf 25 = .ok (.aload_n 0, 1) := by decide +kernel
theorem dX4_weightOf_26 : decode cX4_weightOf 26 = .ok (.aload_n 1, 1) := by decide +kernel
theorem dX4_weightOf_27 : decode cX4_weightOf 27 = .ok (.iload_n 3, 1) := by decide +kernel
theorem dX4_weightOf_28 : decode cX4_weightOf 28 = .ok (.iload 4, 2) := by decide +kernel
theorem dX4_weightOf_30 : decode cX4_weightOf 30 = .ok (.invokevirtual 48, 3) := by decide +kernel
theorem dX4_weightOf_33 : decode cX4_weightOf 33 = .ok (.iload_n 2, 1) := by decide +kernel
theorem dX4_weightOf_34 : decode cX4_weightOf 34 = .ok (.aload_n 0, 1) := by decide +kernel
theorem dX4_weightOf_35 : decode cX4_weightOf 35 = .ok (.getfield 9, 3) := by decide +kernel
theorem dX4_weightOf_38 : decode cX4_weightOf 38 = .ok (.iload_n 3, 1) := by decide +kernel
theorem dX4_weightOf_39 : decode cX4_weightOf 39 = .ok (.iaload, 1) := by decide +kernel
theorem dX4_weightOf_40 : decode cX4_weightOf 40 = .ok (.iadd, 1) := by decide +kernel
theorem dX4_weightOf_41 : decode cX4_weightOf 41 = .ok (.istore_n 2, 1) := by decide +kernel
theorem dX4_weightOf_42 : decode cX4_weightOf 42 = .ok (.iload 4, 2) := by decide +kernel
theorem dX4_weightOf_44 : decode cX4_weightOf 44 = .ok (.iconst 1, 1) := by decide +kernel
theorem dX4_weightOf_45 : decode cX4_weightOf 45 = .ok (.iadd, 1) := by decide +kernel
theorem dX4_weightOf_46 : decode cX4_weightOf 46 = .ok (.istore_n 3, 1) := by decide +kernel
theorem dX4_weightOf_47 : decode cX4_weightOf 47 = .ok (.iinc 4 1, 3) := by decide +kernel
theorem dX4_weightOf_50 : decode cX4_weightOf 50 = .ok (.goto (-43), 3) := by decide +kernel
theorem dX4_weightOf_53 : decode cX4_weightOf 53 = .ok (.iload_n 2, 1) := by decide +kernel
theorem dX4_weightOf_54 : decode cX4_weightOf 54 = .ok (.ireturn, 1) := by decide +kernel
theorem dX4_writeText_0 : decode cX4_writeText 0 = .ok (.iconst 0, 1) := by decide +kernel
theorem dX4_writeText_1 : decode cX4_writeText 1 = .ok (.istore_n 3, 1) := by decide +kernel
theorem dX4_writeText_2 : decode cX4_writeText 2 = .ok (.iconst 0, 1) := by decide +kernel
theorem dX4_writeText_3 : decode cX4_writeText 3 = .ok (.istore 4, 2) := by decide +kernel
theorem dX4_writeText_5 : decode cX4_writeText 5 = .ok (.iconst 0, 1) := by decide +kernel
theorem dX4_writeText_6 : decode cX4_writeText 6 = .ok (.istore 5, 2) := by decide +kernel
theorem dX4_writeText_8 : decode cX4_writeText 8 = .ok (.iload 5, 2) := by decide +kernel
theorem dX4_writeText_10 : decode cX4_writeText 10 = .ok (.aload_n 1, 1) := by decide +kernel
theorem dX4_writeText_11 : decode cX4_writeText 11 = .ok (.getfield 38, 3) := by decide +kernel
theorem dX4_writeText_14 : decode cX4_writeText 14 = .ok (.if_icmp .gt 65, 3) := by decide +kernel
theorem dX4_writeText_17 : decode cX4_writeText 17 = .ok (.aload_n 1, 1) := by decide +kernel
theorem dX4_writeText_18 : decode cX4_writeText 18 = .ok (.iload 5, 2) := by decide +kernel
theorem dX4_writeText_20 : decode cX4_writeText 20 = .ok (.invokevirtual 44, 3) := by decide +kernel
theorem dX4_writeText_23 : decode cX4_writeText 23 = .ok (.ifCond .eq 50, 3) := by decide +kernel
theorem dX4_writeText_26 : decode cX4_writeText 26 = .ok (.aload_n 0, 1) := by decide +kernel
theorem dX4_writeText_27 : decode cX4_writeText 27 = .ok (.aload_n 1, 1) := by decide +kernel
theorem dX4_writeText_28 : decode cX4_writeText 28 = .ok (.iload 4, 2) := by decide +kernel
theorem dX4_writeText_30 : decode cX4_writeText 30 = .ok (.iload 5, 2) := by decide +kernel
theorem dX4_writeText_32 : decode cX4_writeText 32 = .ok (.invokevirtual 48, 3) := by decide +kernel
theorem dX4_writeText_35 : decode cX4_writeText 35 = .ok (.aload_n 0, 1) := by decide +kernel
theorem dX4_writeText_36 : decode cX4_writeText 36 = .ok (.iload 4, 2) := by decide +kernel
theorem dX4_writeText_38 : decode cX4_writeText 38 = .ok (.aload_n 2, 1) := by decide +kernel
theorem dX4_writeText_39 : decode cX4_writeText 39 = .ok (.iload_n 3, 1) := by decide +kernel
theorem dX4_writeText_40 : decode cX4_writeText 40 = .ok (.invokevirtual 52, 3) := by decide +kernel
theorem dX4_writeText_43 : decode cX4_writeText 43 = .ok (.istore_n 3, 1) := by decide +kernel
theorem dX4_writeText_44 : decode cX4_writeText 44 = .ok (.iload 5, 2) := by decide +kernel
theorem dX4_writeText_46 : decode cX4_writeText 46 = .ok (.aload_n 1, 1) := by decide +kernel
theorem dX4_writeText_47 : decode cX4_writeText 47 = .ok (.getfield 38, 3) := by decide +kernel
theorem dX4_writeText_50 : decode cX4_writeText 50 = .ok (.if_icmp .ge 17, 3) := by decide +kernel
theorem dX4_writeText_53 : decode cX4_writeText 53 = .ok (.iload_n 3, 1) := by decide +kernel
theorem dX4_writeText_54 : decode cX4_writeText 54 = .ok (.aload_n 2, 1) := by decide +kernel
theorem dX4_writeText_55 : decode cX4_writeText 55 = .ok (.arraylength, 1) := by decide +kernel
theorem dX4_writeText_56 : decode cX4_writeText 56 = .ok (.if_icmp .ge 11, 3) := by decide +kernel
theorem dX4_writeText_59 : decode cX4_writeText 59 = .ok (.aload_n 2, 1) := by decide +kernel
theorem dX4_writeText_60 : decode cX4_writeText 60 = .ok (.iload_n 3, 1) := by decide +kernel
theorem dX4_writeText_61 : decode cX4_writeText 61 = .ok (.bipush 32, 2) := by decide +kernel
theorem dX4_writeText_63 : decode cX4_writeText 63 = .ok (.iastore, 1) := by decide +kernel
theorem dX4_writeText_64 : decode cX4_writeText 64 = .ok (.iinc 3 1, 3) := by decide +kernel
theorem dX4_writeText_67 : decode cX4_writeText 67 = .ok (.iload 5, 2) := by decide +kernel
theorem dX4_writeText_69 : decode cX4_writeText 69 = .ok (.iconst 1, 1) := by decide +kernel
theorem dX4_writeText_70 : decode cX4_writeText 70 = .ok (.iadd, 1) := by decide +kernel
theorem dX4_writeText_71 : decode cX4_writeText 71 = .ok (.istore 4, 2) := by decide +kernel
theorem dX4_writeText_73 : decode cX4_writeText 73 = .ok (.iinc 5 1, 3) := by decide +kernel
theorem dX4_writeText_76 : decode cX4_writeText 76 = .ok (.goto (-68), 3) := by decide +kernel
theorem dX4_writeText_79 : decode cX4_writeText 79 = .ok (.iload_n 3, 1) := by decide +kernel
theorem dX4_writeText_80 : decode cX4_writeText 80 = .ok (.ireturn, 1) := by decide +kernel
theorem dX4_writeWord_0 : decode cX4_writeWord 0 = .ok (.iload_n 3, 1) := by decide +kernel
theorem dX4_writeWord_1 : decode cX4_writeWord 1 = .ok (.istore 4, 2) := by decide +kernel
theorem dX4_writeWord_3 : decode cX4_writeWord 3 = .ok (.iload_n 1, 1) := by decide +kernel
theorem dX4_writeWord_4 : decode cX4_writeWord 4 = .ok (.istore 5, 2) := by decide +kernel
theorem dX4_writeWord_6 : decode cX4_writeWord 6 = .ok (.aload_n 0, 1) := by decide +kernel
theorem dX4_writeWord_7 : decode cX4_writeWord 7 = .ok (.getfield 9, 3) := by decide +kernel
theorem dX4_writeWord_10 : decode cX4_writeWord 10 = .ok (.iload_n 1, 1) := by decide +kernel
theorem dX4_writeWord_11 : decode cX4_writeWord 11 = .ok (.iaload, 1) := by decide +kernel
theorem dX4_writeWord_12 : decode cX4_writeWord 12 = .ok (.invokestatic 56, 3) := by decide +kernel
theorem dX4_writeWord_15 : decode cX4_writeWord 15 = .ok (.istore 6, 2) := by decide +kernel
theorem dX4_writeWord_17 : decode cX4_writeWord 17 = .ok (.iload 6, 2) := by decide +kernel
theorem dX4_writeWord_19 : decode cX4_writeWord 19 = .ok (.ifCond .le 42, 3) := by decide +kernel
theorem dX4_writeWord_22 : decode cX4_writeWord 22 = .ok (.iload 4, 2) := by decide +kernel
theorem dX4_writeWord_24 : decode cX4_writeWord 24 = .ok (.aload_n 2, 1) := by decide +kernel
theorem dX4_writeWord_25 : decode cX4_writeWord 25 = .ok (.arraylength, 1) := by decide +kernel
theorem dX4_writeWord_26 : decode cX4_writeWord 26 = .ok (.if_icmp .ge 35, 3) := by decide +kernel
theorem dX4_writeWord_29 : decode cX4_writeWord 29 = .ok (.aload_n 2, 1) := by decide +kernel
theorem dX4_writeWord_30 : decode cX4_writeWord 30 = .ok (.iload 4, 2) := by decide +kernel
theorem dX4_writeWord_32 : decode cX4_writeWord 32 = .ok (.bipush 97, 2) := by decide +kernel
theorem dX4_writeWord_34 : decode cX4_writeWord 34 = .ok (.aload_n 0, 1) := by decide +kernel
theorem dX4_writeWord_35 : decode cX4_writeWord 35 = .ok (.getfield 15, 3) := by decide +kernel
theorem dX4_writeWord_38 : decode cX4_writeWord 38 = .ok (.iload 5, 2) := by decide +kernel
theorem dX4_writeWord_40 : decode cX4_writeWord 40 = .ok (.iaload, 1) := by decide +kernel
theorem dX4_writeWord_41 : decode cX4_writeWord 41 = .ok (.iadd, 1) := by decide +kernel
theorem dX4_writeWord_42 : decode cX4_writeWord 42 = .ok (.iastore, 1) := by decide +kernel
theorem dX4_writeWord_43 : decode cX4_writeWord 43 = .ok (.iinc 4 1, 3) := by decide +kernel
theorem dX4_writeWord_46 : decode cX4_writeWord 46 = .ok (.aload_n 0, 1) := by decide +kernel
theorem dX4_writeWord_47 : decode cX4_writeWord 47 = .ok (.getfield 18, 3) := by decide +kernel
theorem dX4_writeWord_50 : decode cX4_writeWord 50 = .ok (.iload 5, 2) := by decide +kernel
theorem dX4_writeWord_52 : decode cX4_writeWord 52 = .ok (.iaload, 1) := by decide +kernel
theorem dX4_writeWord_53 : decode cX4_writeWord 53 = .ok (.istore 5, 2) := by decide +kernel
theorem dX4_writeWord_55 : decode cX4_writeWord 55 = .ok (.iinc 6 (-1), 3) := by decide +kernel
theorem dX4_writeWord_58 : decode cX4_writeWord 58 = .ok (.goto (-41), 3) := by decide +kernel
theorem dX4_writeWord_61 : decode cX4_writeWord 61 = .ok (.iload 4, 2) := by decide +kernel
theorem dX4_writeWord_63 : decode cX4_writeWord 63 = .ok (.ireturn, 1) := by decide +kernel
theorem dX4_weighWord_0 : decode cX4_weighWord 0 = .ok (.aload_n 0, 1) := by decide +kernel
theorem dX4_weighWord_1 : decode cX4_weighWord 1 = .ok (.getfield 9, 3) := by decide +kernel
theorem dX4_weighWord_4 : decode cX4_weighWord 4 = .ok (.iload_n 3, 1) := by decide +kernel
theorem dX4_weighWord_5 : decode cX4_weighWord 5 = .ok (.iconst 0, 1) := by decide +kernel
theorem dX4_weighWord_6 : decode cX4_weighWord 6 = .ok (.iastore, 1) := by decide +kernel
theorem dX4_weighWord_7 : decode cX4_weighWord 7 = .ok (.aload_n 0, 1) := by decide +kernel
theorem dX4_weighWord_8 : decode cX4_weighWord 8 = .ok (.getfield 15, 3) := by decide +kernel
theorem dX4_weighWord_11 : decode cX4_weighWord 11 = .ok (.iload_n 3, 1) := by decide +kernel
theorem dX4_weighWord_12 : decode cX4_weighWord 12 = .ok (.iconst (-1), 1) := by decide +kernel
theorem dX4_weighWord_13 : decode cX4_weighWord 13 = .ok (.iastore, 1) := by decide +kernel
theorem dX4_weighWord_14 : decode cX4_weighWord 14 = .ok (.aload_n 0, 1) := by decide +kernel
theorem dX4_weighWord_15 : decode cX4_weighWord 15 = .ok (.getfield 18, 3) := by decide +kernel
theorem dX4_weighWord_18 : decode cX4_weighWord 18 = .ok (.iload_n 3, 1) := by decide +kernel
theorem dX4_weighWord_19 : decode cX4_weighWord 19 = .ok (.iload_n 3, 1) := by decide +kernel
theorem dX4_weighWord_20 : decode cX4_weighWord 20 = .ok (.iastore, 1) := by decide +kernel
theorem dX4_weighWord_21 : decode cX4_weighWord 21 = .ok (.iconst 0, 1) := by decide +kernel
theorem dX4_weighWord_22 : decode cX4_weighWord 22 = .ok (.istore 4, 2) := by decide +kernel
theorem dX4_weighWord_24 : decode cX4_weighWord 24 = .ok (.iload 4, 2) := by decide +kernel
theorem dX4_weighWord_26 : decode cX4_weighWord 26 = .ok (.bipush 12, 2) := by decide +kernel
theorem dX4_weighWord_28 : decode cX4_weighWord 28 = .ok (.if_icmp .ge 16, 3) := by decide +kernel
theorem dX4_weighWord_31 : decode cX4_weighWord 31 = .ok (.aload_n 0, 1) := by decide +kernel
theorem dX4_weighWord_32 : decode cX4_weighWord 32 = .ok (.iload_n 3, 1) := by decide +kernel
theorem dX4_weighWord_33 : decode cX4_weighWord 33 = .ok (.iload 4, 2) := by decide +kernel
theorem dX4_weighWord_35 : decode cX4_weighWord 35 = .ok (.invokevirtual 60, 3) := by decide +kernel
theorem dX4_weighWord_38 : decode cX4_weighWord 38 = .ok (.iinc 4 1, 3) := by decide +kernel
theorem dX4_weighWord_41 : decode cX4_weighWord 41 = .ok (.goto (-17), 3) := by decide +kernel
theorem dX4_weighWord_44 : decode cX4_weighWord 44 = .ok (.iload_n 3, 1) := by decide +kernel
theorem dX4_weighWord_45 : decode cX4_weighWord 45 = .ok (.iconst 1, 1) := by decide +kernel
theorem dX4_weighWord_46 : decode cX4_weighWord 46 = .ok (.isub, 1) := by decide +kernel
theorem dX4_weighWord_47 : decode cX4_weighWord 47 = .ok (.istore 4, 2) := by decide +kernel
theorem dX4_weighWord_49 : decode cX4_weighWord 49 = .ok (.iload 4, 2) := by decide +kernel
theorem dX4_weighWord_51 : decode cX4_weighWord 51 = .ok (.iload_n 2, 1) := by decide +kernel
theorem dX4_weighWord_52 : decode cX4_weighWord 52 = .ok (.if_icmp .lt 53, 3) := by decide +kernel
theorem dX4_weighWord_55 : decode cX4_weighWord 55 = .ok (.aload_n 0, 1) := by decide +kernel
theorem dX4_weighWord_56 : decode cX4_weighWord 56 = .ok (.iload 4, 2) := by decide +kernel
theorem dX4_weighWord_58 : decode cX4_weighWord 58 = .ok (.aload_n 1, 1) := by decide +kernel
theorem dX4_weighWord_59 : decode cX4_weighWord 59 = .ok (.getfield 64, 3) := by decide +kernel
theorem dX4_weighWord_62 : decode cX4_weighWord 62 = .ok (.iload 4, 2) := by decide +kernel
theorem dX4_weighWord_64 : decode cX4_weighWord 64 = .ok (.iaload, 1) := by decide +kernel
theorem dX4_weighWord_65 : decode cX4_weighWord 65 = .ok (.invokevirtual 67, 3) := by decide +kernel
theorem dX4_weighWord_68 : decode cX4_weighWord 68 = .ok (.iconst 0, 1) := by decide +kernel
theorem dX4_weighWord_69 : decode cX4_weighWord 69 = .ok (.istore 5, 2) := by decide +kernel
theorem dX4_weighWord_71 : decode cX4_weighWord 71 = .ok (.iload 5, 2) := by decide +kernel
theorem dX4_weighWord_73 : decode cX4_weighWord 73 = .ok (.bipush 12, 2) := by decide +kernel
theorem dX4_weighWord_75 : decode cX4_weighWord 75 = .ok (.if_icmp .ge 24, 3) := by decide +kernel
theorem dX4_weighWord_78 : decode cX4_weighWord 78 = .ok (.aload_n 0, 1) := by decide +kernel
theorem dX4_weighWord_79 : decode cX4_weighWord 79 = .ok (.iload 4, 2) := by decide +kernel
theorem dX4_weighWord_81 : decode cX4_weighWord 81 = .ok (.iload 5, 2) := by decide +kernel
theorem dX4_weighWord_83 : decode cX4_weighWord 83 = .ok (.aload_n 1, 1) := by decide +kernel
theorem dX4_weighWord_84 : decode cX4_weighWord 84 = .ok (.getfield 64, 3) := by decide +kernel
theorem dX4_weighWord_87 : decode cX4_weighWord 87 = .ok (.iload 4, 2) := by decide +kernel
theorem dX4_weighWord_89 : decode cX4_weighWord 89 = .ok (.iaload, 1) := by decide +kernel
theorem dX4_weighWord_90 : decode cX4_weighWord 90 = .ok (.invokevirtual 70, 3) := by decide +kernel
theorem dX4_weighWord_93 : decode cX4_weighWord 93 = .ok (.iinc 5 1, 3) := by decide +kernel
theorem dX4_weighWord_96 : decode cX4_weighWord 96 = .ok (.goto (-25), 3) := by decide +kernel
theorem dX4_weighWord_99 : decode cX4_weighWord 99 = .ok (.iinc 4 (-1), 3) := by decide +kernel
theorem dX4_weighWord_102 : decode cX4_weighWord 102 = .ok (.goto (-53), 3) := by decide +kernel
theorem dX4_weighWord_105 : decode cX4_weighWord 105 = .ok (.return_, 1) := by decide +kernel
theorem dX4_weighPlace_0 : decode cX4_weighPlace 0 = .ok (.aload_n 0, 1) := by decide +kernel
theorem dX4_weighPlace_1 : decode cX4_weighPlace 1 = .ok (.getfield 9, 3) := by decide +kernel
theorem dX4_weighPlace_4 : decode cX4_weighPlace 4 = .ok (.iload_n 1, 1) := by decide +kernel
theorem dX4_weighPlace_5 : decode cX4_weighPlace 5 = .ok (.aload_n 0, 1) := by decide +kernel
theorem dX4_weighPlace_6 : decode cX4_weighPlace 6 = .ok (.getfield 9, 3) := by decide +kernel
theorem dX4_weighPlace_9 : decode cX4_weighPlace 9 = .ok (.iload_n 1, 1) := by decide +kernel
theorem dX4_weighPlace_10 : decode cX4_weighPlace 10 = .ok (.iconst 1, 1) := by decide +kernel
theorem dX4_weighPlace_11 : decode cX4_weighPlace 11 = .ok (.iadd, 1) := by decide +kernel
theorem dX4_weighPlace_12 : decode cX4_weighPlace 12 = .ok (.iaload, 1) := by decide +kernel
theorem dX4_weighPlace_13 : decode cX4_weighPlace 13 = .ok (.bipush 64, 2) := by decide +kernel
theorem dX4_weighPlace_15 : decode cX4_weighPlace 15 = .ok (.aload_n 0, 1) := by decide +kernel
theorem dX4_weighPlace_16 : decode cX4_weighPlace 16 = .ok (.getfield 34, 3) := by decide +kernel
theorem dX4_weighPlace_19 : decode cX4_weighPlace 19 = .ok (.getfield 74, 3) := by decide +kernel
theorem dX4_weighPlace_22 : decode cX4_weighPlace 22 = .ok (.imul, 1) := by decide +kernel
theorem dX4_weighPlace_23 : decode cX4_weighPlace 23 = .ok (.iadd, 1) := by decide +kernel
theorem dX4_weighPlace_24 : decode cX4_weighPlace 24 = .ok (.iastore, 1) := by decide +kernel
theorem dX4_weighPlace_25 : decode cX4_weighPlace 25 = .ok (.aload_n 0, 1) := by decide +kernel
theorem dX4_weighPlace_26 : decode cX4_weighPlace 26 = .ok (.getfield 15, 3) := by decide +kernel
theorem dX4_weighPlace_29 : decode cX4_weighPlace 29 = .ok (.iload_n 1, 1) := by decide +kernel
theorem dX4_weighPlace_30 : decode cX4_weighPlace 30 = .ok (.aload_n 0, 1) := by decide +kernel
theorem dX4_weighPlace_31 : decode cX4_weighPlace 31 = .ok (.getfield 15, 3) := by decide +kernel
theorem dX4_weighPlace_34 : decode cX4_weighPlace 34 = .ok (.iload_n 1, 1) := by decide +kernel
theorem dX4_weighPlace_35 : decode cX4_weighPlace 35 = .ok (.iconst 1, 1) := by decide +kernel
theorem dX4_weighPlace_36 : decode cX4_weighPlace 36 = .ok (.iadd, 1) := by decide +kernel
theorem dX4_weighPlace_37 : decode cX4_weighPlace 37 = .ok (.iaload, 1) := by decide +kernel
theorem dX4_weighPlace_38 : decode cX4_weighPlace 38 = .ok (.iastore, 1) := by decide +kernel
theorem dX4_weighPlace_39 : decode cX4_weighPlace 39 = .ok (.aload_n 0, 1) := by decide +kernel
theorem dX4_weighPlace_40 : decode cX4_weighPlace 40 = .ok (.getfield 18, 3) := by decide +kernel
theorem dX4_weighPlace_43 : decode cX4_weighPlace 43 = .ok (.iload_n 1, 1) := by decide +kernel
theorem dX4_weighPlace_44 : decode cX4_weighPlace 44 = .ok (.aload_n 0, 1) := by decide +kernel
theorem dX4_weighPlace_45 : decode cX4_weighPlace 45 = .ok (.getfield 18, 3) := by decide +kernel
theorem dX4_weighPlace_48 : decode cX4_weighPlace 48 = .ok (.iload_n 1, 1) := by decide +kernel
theorem dX4_weighPlace_49 : decode cX4_weighPlace 49 = .ok (.iconst 1, 1) := by decide +kernel
theorem dX4_weighPlace_50 : decode cX4_weighPlace 50 = .ok (.iadd, 1) := by decide +kernel
theorem dX4_weighPlace_51 : decode cX4_weighPlace 51 = .ok (.iaload, 1) := by decide +kernel
theorem dX4_weighPlace_52 : decode cX4_weighPlace 52 = .ok (.iastore, 1) := by decide +kernel
theorem dX4_weighPlace_53 : decode cX4_weighPlace 53 = .ok (.iconst 0, 1) := by decide +kernel
theorem dX4_weighPlace_54 : decode cX4_weighPlace 54 = .ok (.istore_n 3, 1) := by decide +kernel
theorem dX4_weighPlace_55 : decode cX4_weighPlace 55 = .ok (.iload_n 3, 1) := by decide +kernel
theorem dX4_weighPlace_56 : decode cX4_weighPlace 56 = .ok (.bipush 12, 2) := by decide +kernel
theorem dX4_weighPlace_58 : decode cX4_weighPlace 58 = .ok (.if_icmp .ge 104, 3) := by decide +kernel
theorem dX4_weighPlace_61 : decode cX4_weighPlace 61 = .ok (.iconst 0, 1) := by decide +kernel
theorem dX4_weighPlace_62 : decode cX4_weighPlace 62 = .ok (.istore 4, 2) := by decide +kernel
theorem dX4_weighPlace_64 : decode cX4_weighPlace 64 = .ok (.iload 4, 2) := by decide +kernel
theorem dX4_weighPlace_66 : decode cX4_weighPlace 66 = .ok (.aload_n 0, 1) := by decide +kernel
theorem dX4_weighPlace_67 : decode cX4_weighPlace 67 = .ok (.getfield 30, 3) := by decide +kernel
theorem dX4_weighPlace_70 : decode cX4_weighPlace 70 = .ok (.getfield 79, 3) := by decide +kernel
theorem dX4_weighPlace_73 : decode cX4_weighPlace 73 = .ok (.iload_n 3, 1) := by decide +kernel
theorem dX4_weighPlace_74 : decode cX4_weighPlace 74 = .ok (.iaload, 1) := by decide +kernel
theorem dX4_weighPlace_75 : decode cX4_weighPlace 75 = .ok (.if_icmp .ge 81, 3) := by decide +kernel
theorem dX4_weighPlace_78 : decode cX4_weighPlace 78 = .ok (.iload_n 1, 1) := by decide +kernel
theorem dX4_weighPlace_79 : decode cX4_weighPlace 79 = .ok (.iconst 1, 1) := by decide +kernel
theorem dX4_weighPlace_80 : decode cX4_weighPlace 80 = .ok (.iadd, 1) := by decide +kernel
theorem dX4_weighPlace_81 : decode cX4_weighPlace 81 = .ok (.iload_n 3, 1) := by decide +kernel
theorem dX4_weighPlace_82 : decode cX4_weighPlace 82 = .ok (.iload 4, 2) := by decide +kernel
theorem dX4_weighPlace_84 : decode cX4_weighPlace 84 = .ok (.iconst 1, 1) := by decide +kernel
theorem dX4_weighPlace_85 : decode cX4_weighPlace 85 = .ok (.iadd, 1) := by decide +kernel
theorem dX4_weighPlace_86 : decode cX4_weighPlace 86 = .ok (.invokestatic 84, 3) := by decide +kernel
theorem dX4_weighPlace_89 : decode cX4_weighPlace 89 = .ok (.istore 5, 2) := by decide +kernel
theorem dX4_weighPlace_91 : decode cX4_weighPlace 91 = .ok (.iload 4, 2) := by decide +kernel
theorem dX4_weighPlace_93 : decode cX4_weighPlace 93 = .ok (.aload_n 0, 1) := by decide +kernel
theorem dX4_weighPlace_94 : decode cX4_weighPlace 94 = .ok (.getfield 34, 3) := by decide +kernel
theorem dX4_weighPlace_97 : decode cX4_weighPlace 97 = .ok (.getfield 88, 3) := by decide +kernel
theorem dX4_weighPlace_100 : decode cX4_weighPlace 100 = .ok (.imul, 1) := by decide +kernel
theorem dX4_weighPlace_101 : decode cX4_weighPlace 101 = .ok (.aload_n 0, 1) := by decide +kernel
theorem dX4_weighPlace_102 : decode cX4_weighPlace 102 = .ok (.getfield 34, 3) := by decide +kernel
theorem dX4_weighPlace_105 : decode cX4_weighPlace 105 = .ok (.aload_n 0, 1) := by decide +kernel
theorem dX4_weighPlace_106 : decode cX4_weighPlace 106 = .ok (.getfield 30, 3) := by decide +kernel
theorem dX4_weighPlace_109 : decode cX4_weighPlace 109 = .ok (.iload_n 3, 1) := by decide +kernel
theorem dX4_weighPlace_110 : decode cX4_weighPlace 110 = .ok (.iload 4, 2) := by decide +kernel
theorem dX4_weighPlace_112 : decode cX4_weighPlace 112 = .ok (.invokevirtual 91, 3) := by decide +kernel
theorem dX4_weighPlace_115 : decode cX4_weighPlace 115 = .ok (.iload_n 2, 1) := by decide +kernel
theorem dX4_weighPlace_116 : decode cX4_weighPlace 116 = .ok (.invokevirtual 95, 3) := by decide +kernel
theorem dX4_weighPlace_119 : decode cX4_weighPlace 119 = .ok (.iadd, 1) := by decide +kernel
theorem dX4_weighPlace_120 : decode cX4_weighPlace 120 = .ok (.istore 6, 2) := by decide +kernel
theorem dX4_weighPlace_122 : decode cX4_weighPlace 122 = .ok (.aload_n 0, 1) := by decide +kernel
theorem dX4_weighPlace_123 : decode cX4_weighPlace 123 = .ok (.iload_n 1, 1) := by decide +kernel
theorem dX4_weighPlace_124 : decode cX4_weighPlace 124 = .ok (.aload_n 0, 1) := by decide +kernel
theorem dX4_weighPlace_125 : decode cX4_weighPlace 125 = .ok (.getfield 21, 3) := by decide +kernel
theorem dX4_weighPlace_128 : decode cX4_weighPlace 128 = .ok (.iload 5, 2) := by decide +kernel
theorem dX4_weighPlace_130 : decode cX4_weighPlace 130 = .ok (.iaload, 1) := by decide +kernel
theorem dX4_weighPlace_131 : decode cX4_weighPlace 131 = .ok (.bipush 64, 2) := by decide +kernel
theorem dX4_weighPlace_133 : decode cX4_weighPlace 133 = .ok (.iload 6, 2) := by decide +kernel
theorem dX4_weighPlace_135 : decode cX4_weighPlace 135 = .ok (.imul, 1) := by decide +kernel
theorem dX4_weighPlace_136 : decode cX4_weighPlace 136 = .ok (.iadd, 1) := by decide +kernel
theorem dX4_weighPlace_137 : decode cX4_weighPlace 137 = .ok (.iconst 1, 1) := by decide +kernel
theorem dX4_weighPlace_138 : decode cX4_weighPlace 138 = .ok (.iadd, 1) := by decide +kernel
theorem dX4_weighPlace_139 : decode cX4_weighPlace 139 = .ok (.iload_n 3, 1) := by decide +kernel
theorem dX4_weighPlace_140 : decode cX4_weighPlace 140 = .ok (.aload_n 0, 1) := by decide +kernel
theorem dX4_weighPlace_141 : decode cX4_weighPlace 141 = .ok (.getfield 24, 3) := by decide +kernel
theorem dX4_weighPlace_144 : decode cX4_weighPlace 144 = .ok (.iload 5, 2) := by decide +kernel
theorem dX4_weighPlace_146 : decode cX4_weighPlace 146 = .ok (.iaload, 1) := by decide +kernel
theorem dX4_weighPlace_147 : decode cX4_weighPlace 147 = .ok (.invokevirtual 98, 3) := by decide +kernel
theorem dX4_weighPlace_150 : decode cX4_weighPlace 150 = .ok (.iinc 4 1, 3) := by decide +kernel
theorem dX4_weighPlace_153 : decode cX4_weighPlace 153 = .ok (.goto (-89), 3) := by decide +kernel
theorem dX4_weighPlace_156 : decode cX4_weighPlace 156 = .ok (.iinc 3 1, 3) := by decide +kernel
theorem dX4_weighPlace_159 : decode cX4_weighPlace 159 = .ok (.goto (-104), 3) := by decide +kernel
theorem dX4_weighPlace_162 : decode cX4_weighPlace 162 = .ok (.return_, 1) := by decide +kernel
theorem dX4_offerLetter_0 : decode cX4_offerLetter 0 = .ok (.iload_n 2, 1) := by decide +kernel
theorem dX4_offerLetter_1 : decode cX4_offerLetter 1 = .ok (.aload_n 0, 1) := by decide +kernel
theorem dX4_offerLetter_2 : decode cX4_offerLetter 2 = .ok (.getfield 9, 3) := by decide +kernel
theorem dX4_offerLetter_5 : decode cX4_offerLetter 5 = .ok (.iload_n 1, 1) := by decide +kernel
theorem dX4_offerLetter_6 : decode cX4_offerLetter 6 = .ok (.iaload, 1) := by decide +kernel
theorem dX4_offerLetter_7 : decode cX4_offerLetter 7 = .ok (.if_icmp .ge 7, 3) := by decide +kernel
theorem dX4_offerLetter_10 : decode cX4_offerLetter 10 = .ok (.iconst 1, 1) := by decide +kernel
theorem dX4_offerLetter_11 : decode cX4_offerLetter 11 = .ok (.goto 4, 3) := by decide +kernel
theorem dX4_offerLetter_14 : decode cX4_offerLetter 14 = .ok (.iconst 0, 1) := by decide +kernel
theorem dX4_offerLetter_15 : decode cX4_offerLetter 15 = .ok (.istore 5, 2) := by decide +kernel
theorem dX4_offerLetter_17 : decode cX4_offerLetter 17 = .ok (.iload_n 2, 1) := by decide +kernel
theorem dX4_offerLetter_18 : decode cX4_offerLetter 18 = .ok (.aload_n 0, 1) := by decide +kernel
theorem dX4_offerLetter_19 : decode cX4_offerLetter 19 = .ok (.getfield 9, 3) := by decide +kernel
theorem dX4_offerLetter_22 : decode cX4_offerLetter 22 = .ok (.iload_n 1, 1) := by decide +kernel
theorem dX4_offerLetter_23 : decode cX4_offerLetter 23 = .ok (.iaload, 1) := by decide +kernel
theorem dX4_offerLetter_24 : decode cX4_offerLetter 24 = .ok (.if_icmp .ne 45, 3) := by decide +kernel
theorem dX4_offerLetter_27 : decode cX4_offerLetter 27 = .ok (.iload_n 3, 1) := by decide +kernel
theorem dX4_offerLetter_28 : decode cX4_offerLetter 28 = .ok (.aload_n 0, 1) := by decide +kernel
theorem dX4_offerLetter_29 : decode cX4_offerLetter 29 = .ok (.getfield 15, 3) := by decide +kernel
theorem dX4_offerLetter_32 : decode cX4_offerLetter 32 = .ok (.iload_n 1, 1) := by decide +kernel
theorem dX4_offerLetter_33 : decode cX4_offerLetter 33 = .ok (.iaload, 1) := by decide +kernel
theorem dX4_offerLetter_34 : decode cX4_offerLetter 34 = .ok (.if_icmp .lt 28, 3) := by decide +kernel
theorem dX4_offerLetter_37 : decode cX4_offerLetter 37 = .ok (.iload_n 3, 1) := by decide +kernel
theorem dX4_offerLetter_38 : decode cX4_offerLetter 38 = .ok (.aload_n 0, 1) := by decide +kernel
theorem dX4_offerLetter_39 : decode cX4_offerLetter 39 = .ok (.getfield 15, 3) := by decide +kernel
theorem dX4_offerLetter_42 : decode cX4_offerLetter 42 = .ok (.iload_n 1, 1) := by decide +kernel
theorem dX4_offerLetter_43 : decode cX4_offerLetter 43 = .ok (.iaload, 1) := by decide +kernel
theorem dX4_offerLetter_44 : decode cX4_offerLetter 44 = .ok (.if_icmp .ne 22, 3) := by decide +kernel
theorem dX4_offerLetter_47 : decode cX4_offerLetter 47 = .ok (.aload_n 0, 1) := by decide +kernel
theorem dX4_offerLetter_48 : decode cX4_offerLetter 48 = .ok (.iload 4, 2) := by decide +kernel
theorem dX4_offerLetter_50 : decode cX4_offerLetter 50 = .ok (.aload_n 0, 1) := by decide +kernel
theorem dX4_offerLetter_51 : decode cX4_offerLetter 51 = .ok (.getfield 18, 3) := by decide +kernel
theorem dX4_offerLetter_54 : decode cX4_offerLetter 54 = .ok (.iload_n 1, 1) := by decide +kernel
theorem dX4_offerLetter_55 : decode cX4_offerLetter 55 = .ok (.iaload, 1) := by decide +kernel
theorem dX4_offerLetter_56 : decode cX4_offerLetter 56 = .ok (.invokevirtual 102, 3) := by decide +kernel
theorem dX4_offerLetter_59 : decode cX4_offerLetter 59 = .ok (.ifCond .eq 7, 3) := by decide +kernel
theorem dX4_offerLetter_62 : decode cX4_offerLetter 62 = .ok (.iconst 1, 1) := by decide +kernel
theorem dX4_offerLetter_63 : decode cX4_offerLetter 63 = .ok (.goto 4, 3) := by decide +kernel
theorem dX4_offerLetter_66 : decode cX4_offerLetter 66 = .ok (.iconst 0, 1) := by decide +kernel
theorem dX4_offerLetter_67 : decode cX4_offerLetter 67 = .ok (.istore 5, 2) := by decide +kernel
theorem dX4_offerLetter_69 : decode cX4_offerLetter 69 = .ok (.iload 5, 2) := by decide +kernel
theorem dX4_offerLetter_71 : decode cX4_offerLetter 71 = .ok (.ifCond .eq 25, 3) := by decide +kernel
theorem dX4_offerLetter_74 : decode cX4_offerLetter 74 = .ok (.aload_n 0, 1) := by decide +kernel
theorem dX4_offerLetter_75 : decode cX4_offerLetter 75 = .ok (.getfield 9, 3) := by decide +kernel
theorem dX4_offerLetter_78 : decode cX4_offerLetter 78 = .ok (.iload_n 1, 1) := by decide +kernel
theorem dX4_offerLetter_79 : decode cX4_offerLetter 79 = .ok (.iload_n 2, 1) := by decide +kernel
theorem dX4_offerLetter_80 : decode cX4_offerLetter 80 = .ok (.iastore, 1) := by decide +kernel
theorem dX4_offerLetter_81 : decode cX4_offerLetter 81 = .ok (.aload_n 0, 1) := by decide +kernel
theorem dX4_offerLetter_82 : decode cX4_offerLetter 82 = .ok (.getfield 15, 3) := by decide +kernel
theorem dX4_offerLetter_85 : decode cX4_offerLetter 85 = .ok (.iload_n 1, 1) := by decide +kernel
theorem dX4_offerLetter_86 : decode cX4_offerLetter 86 = .ok (.iload_n 3, 1) := by decide +kernel
theorem dX4_offerLetter_87 : decode cX4_offerLetter 87 = .ok (.iastore, 1) := by decide +kernel
theorem dX4_offerLetter_88 : decode cX4_offerLetter 88 = .ok (.aload_n 0, 1) := by decide +kernel
theorem dX4_offerLetter_89 : decode cX4_offerLetter 89 = .ok (.getfield 18, 3) := by decide +kernel
theorem dX4_offerLetter_92 : decode cX4_offerLetter 92 = .ok (.iload_n 1, 1) := by decide +kernel
theorem dX4_offerLetter_93 : decode cX4_offerLetter 93 = .ok (.iload 4, 2) := by decide +kernel
theorem dX4_offerLetter_95 : decode cX4_offerLetter 95 = .ok (.iastore, 1) := by decide +kernel
theorem dX4_offerLetter_96 : decode cX4_offerLetter 96 = .ok (.return_, 1) := by decide +kernel
theorem dX4_comesFirst_0 : decode cX4_comesFirst 0 = .ok (.iload_n 1, 1) := by decide +kernel
theorem dX4_comesFirst_1 : decode cX4_comesFirst 1 = .ok (.istore_n 3, 1) := by decide +kernel
theorem dX4_comesFirst_2 : decode cX4_comesFirst 2 = .ok (.iload_n 2, 1) := by decide +kernel
theorem dX4_comesFirst_3 : decode cX4_comesFirst 3 = .ok (.istore 4, 2) := by decide +kernel
theorem dX4_comesFirst_5 : decode cX4_comesFirst 5 = .ok (.iconst 0, 1) := by decide +kernel
theorem dX4_comesFirst_6 : decode cX4_comesFirst 6 = .ok (.istore 5, 2) := by decide +kernel
theorem dX4_comesFirst_8 : decode cX4_comesFirst 8 = .ok (.iload 5, 2) := by decide +kernel
theorem dX4_comesFirst_10 : decode cX4_comesFirst 10 = .ok (.bipush 40, 2) := by decide +kernel
theorem dX4_comesFirst_12 : decode cX4_comesFirst 12 = .ok (.if_icmp .ge 69, 3) := by decide +kernel
theorem dX4_comesFirst_15 : decode cX4_comesFirst 15 = .ok (.iload_n 3, 1) := by decide +kernel
theorem dX4_comesFirst_16 : decode cX4_comesFirst 16 = .ok (.iload 4, 2) := by decide +kernel
theorem dX4_comesFirst_18 : decode cX4_comesFirst 18 = .ok (.if_icmp .eq 63, 3) := by decide +kernel
theorem dX4_comesFirst_21 : decode cX4_comesFirst 21 = .ok (.aload_n 0, 1) := by decide +kernel
theorem dX4_comesFirst_22 : decode cX4_comesFirst 22 = .ok (.getfield 15, 3) := by decide +kernel
theorem dX4_comesFirst_25 : decode cX4_comesFirst 25 = .ok (.iload_n 3, 1) := by decide +kernel
theorem dX4_comesFirst_26 : decode cX4_comesFirst 26 = .ok (.iaload, 1) := by decide +kernel
theorem dX4_comesFirst_27 : decode cX4_comesFirst 27 = .ok (.aload_n 0, 1) := by decide +kernel
theorem dX4_comesFirst_28 : decode cX4_comesFirst 28 = .ok (.getfield 15, 3) := by decide +kernel
theorem dX4_comesFirst_31 : decode cX4_comesFirst 31 = .ok (.iload 4, 2) := by decide +kernel
theorem dX4_comesFirst_33 : decode cX4_comesFirst 33 = .ok (.iaload, 1) := by decide +kernel
theorem dX4_comesFirst_34 : decode cX4_comesFirst 34 = .ok (.if_icmp .eq 25, 3) := by decide +kernel
theorem dX4_comesFirst_37 : decode cX4_comesFirst 37 = .ok (.aload_n 0, 1) := by decide +kernel
theorem dX4_comesFirst_38 : decode cX4_comesFirst 38 = .ok (.getfield 15, 3) := by decide +kernel
theorem dX4_comesFirst_41 : decode cX4_comesFirst 41 = .ok (.iload_n 3, 1) := by decide +kernel
theorem dX4_comesFirst_42 : decode cX4_comesFirst 42 = .ok (.iaload, 1) := by decide +kernel
theorem dX4_comesFirst_43 : decode cX4_comesFirst 43 = .ok (.aload_n 0, 1) := by decide +kernel
theorem dX4_comesFirst_44 : decode cX4_comesFirst 44 = .ok (.getfield 15, 3) := by decide +kernel
theorem dX4_comesFirst_47 : decode cX4_comesFirst 47 = .ok (.iload 4, 2) := by decide +kernel
theorem dX4_comesFirst_49 : decode cX4_comesFirst 49 = .ok (.iaload, 1) := by decide +kernel
theorem dX4_comesFirst_50 : decode cX4_comesFirst 50 = .ok (.if_icmp .ge 7, 3) := by decide +kernel
theorem dX4_comesFirst_53 : decode cX4_comesFirst 53 = .ok (.iconst 1, 1) := by decide +kernel
theorem dX4_comesFirst_54 : decode cX4_comesFirst 54 = .ok (.goto 4, 3) := by decide +kernel
theorem dX4_comesFirst_57 : decode cX4_comesFirst 57 = .ok (.iconst 0, 1) := by decide +kernel
theorem dX4_comesFirst_58 : decode cX4_comesFirst 58 = .ok (.ireturn, 1) := by decide +kernel
theorem dX4_comesFirst_59 : decode cX4_comesFirst 59 = .ok (.aload_n 0, 1) := by decide +kernel
theorem dX4_comesFirst_60 : decode cX4_comesFirst 60 = .ok (.getfield 18, 3) := by decide +kernel
theorem dX4_comesFirst_63 : decode cX4_comesFirst 63 = .ok (.iload_n 3, 1) := by decide +kernel
theorem dX4_comesFirst_64 : decode cX4_comesFirst 64 = .ok (.iaload, 1) := by decide +kernel
theorem dX4_comesFirst_65 : decode cX4_comesFirst 65 = .ok (.istore_n 3, 1) := by decide +kernel
theorem dX4_comesFirst_66 : decode cX4_comesFirst 66 = .ok (.aload_n 0, 1) := by decide +kernel
theorem dX4_comesFirst_67 : decode cX4_comesFirst 67 = .ok (.getfield 18, 3) := by decide +kernel
theorem dX4_comesFirst_70 : decode cX4_comesFirst 70 = .ok (.iload 4, 2) := by decide +kernel
theorem dX4_comesFirst_72 : decode cX4_comesFirst 72 = .ok (.iaload, 1) := by decide +kernel
theorem dX4_comesFirst_73 : decode cX4_comesFirst 73 = .ok (.istore 4, 2) := by decide +kernel
theorem dX4_comesFirst_75 : decode cX4_comesFirst 75 = .ok (.iinc 5 1, 3) := by decide +kernel
theorem dX4_comesFirst_78 : decode cX4_comesFirst 78 = .ok (.goto (-70), 3) := by decide +kernel
theorem dX4_comesFirst_81 : decode cX4_comesFirst 81 = .ok (.iconst 0, 1) := by decide +kernel
theorem dX4_comesFirst_82 : decode cX4_comesFirst 82 = .ok (.ireturn, 1) := by decide +kernel
theorem dX4_slotOf_0 : decode cX4_slotOf 0 = .ok (.iload_n 0, 1) := by decide +kernel
theorem dX4_slotOf_1 : decode cX4_slotOf 1 = .ok (.iconst 1, 1) := by decide +kernel
theorem dX4_slotOf_2 : decode cX4_slotOf 2 = .ok (.iand, 1) := by decide +kernel
theorem dX4_slotOf_3 : decode cX4_slotOf 3 = .ok (.bipush 12, 2) := by decide +kernel
theorem dX4_slotOf_5 : decode cX4_slotOf 5 = .ok (.imul, 1) := by decide +kernel
theorem dX4_slotOf_6 : decode cX4_slotOf 6 = .ok (.iload_n 1, 1) := by decide +kernel
theorem dX4_slotOf_7 : decode cX4_slotOf 7 = .ok (.iadd, 1) := by decide +kernel
theorem dX4_slotOf_8 : decode cX4_slotOf 8 = .ok (.iconst 4, 1) := by decide +kernel
theorem dX4_slotOf_9 : decode cX4_slotOf 9 = .ok (.imul, 1) := by decide +kernel
theorem dX4_slotOf_10 : decode cX4_slotOf 10 = .ok (.iload_n 2, 1) := by decide +kernel
theorem dX4_slotOf_11 : decode cX4_slotOf 11 = .ok (.iadd, 1) := by decide +kernel
theorem dX4_slotOf_12 : decode cX4_slotOf 12 = .ok (.iconst 1, 1) := by decide +kernel
theorem dX4_slotOf_13 : decode cX4_slotOf 13 = .ok (.isub, 1) := by decide +kernel
theorem dX4_slotOf_14 : decode cX4_slotOf 14 = .ok (.ireturn, 1) := by decide +kernel
theorem dX4_weighLetterEnd_0 : decode cX4_weighLetterEnd 0 = .ok (.aload_n 0, 1) := by decide +kernel
theorem dX4_weighLetterEnd_1 : decode cX4_weighLetterEnd 1 = .ok (.getfield 9, 3) := by decide +kernel
theorem dX4_weighLetterEnd_4 : decode cX4_weighLetterEnd 4 = .ok (.iload_n 1, 1) := by decide +kernel
theorem dX4_weighLetterEnd_5 : decode cX4_weighLetterEnd 5 = .ok (.iaload, 1) := by decide +kernel
theorem dX4_weighLetterEnd_6 : decode cX4_weighLetterEnd 6 = .ok (.istore_n 3, 1) := by decide +kernel
theorem dX4_weighLetterEnd_7 : decode cX4_weighLetterEnd 7 = .ok (.aload_n 0, 1) := by decide +kernel
theorem dX4_weighLetterEnd_8 : decode cX4_weighLetterEnd 8 = .ok (.getfield 30, 3) := by decide +kernel
theorem dX4_weighLetterEnd_11 : decode cX4_weighLetterEnd 11 = .ok (.getfield 79, 3) := by decide +kernel
theorem dX4_weighLetterEnd_14 : decode cX4_weighLetterEnd 14 = .ok (.iload_n 2, 1) := by decide +kernel
theorem dX4_weighLetterEnd_15 : decode cX4_weighLetterEnd 15 = .ok (.iaload, 1) := by decide +kernel
theorem dX4_weighLetterEnd_16 : decode cX4_weighLetterEnd 16 = .ok (.istore 4, 2) := by decide +kernel
theorem dX4_weighLetterEnd_18 : decode cX4_weighLetterEnd 18 = .ok (.iload 4, 2) := by decide +kernel
theorem dX4_weighLetterEnd_20 : decode cX4_weighLetterEnd 20 = .ok (.ifCond .le 47, 3) := by decide +kernel
theorem dX4_weighLetterEnd_23 : decode cX4_weighLetterEnd 23 = .ok (.iload_n 1, 1) := by decide +kernel
theorem dX4_weighLetterEnd_24 : decode cX4_weighLetterEnd 24 = .ok (.iload_n 2, 1) := by decide +kernel
theorem dX4_weighLetterEnd_25 : decode cX4_weighLetterEnd 25 = .ok (.iload 4, 2) := by decide +kernel
theorem dX4_weighLetterEnd_27 : decode cX4_weighLetterEnd 27 = .ok (.invokestatic 84, 3) := by decide +kernel
theorem dX4_weighLetterEnd_30 : decode cX4_weighLetterEnd 30 = .ok (.istore 5, 2) := by decide +kernel
theorem dX4_weighLetterEnd_32 : decode cX4_weighLetterEnd 32 = .ok (.aload_n 0, 1) := by decide +kernel
theorem dX4_weighLetterEnd_33 : decode cX4_weighLetterEnd 33 = .ok (.getfield 21, 3) := by decide +kernel
theorem dX4_weighLetterEnd_36 : decode cX4_weighLetterEnd 36 = .ok (.iload 5, 2) := by decide +kernel
theorem dX4_weighLetterEnd_38 : decode cX4_weighLetterEnd 38 = .ok (.iload_n 3, 1) := by decide +kernel
theorem dX4_weighLetterEnd_39 : decode cX4_weighLetterEnd 39 = .ok (.iastore, 1) := by decide +kernel
theorem dX4_weighLetterEnd_40 : decode cX4_weighLetterEnd 40 = .ok (.aload_n 0, 1) := by decide +kernel
theorem dX4_weighLetterEnd_41 : decode cX4_weighLetterEnd 41 = .ok (.getfield 24, 3) := by decide +kernel
theorem dX4_weighLetterEnd_44 : decode cX4_weighLetterEnd 44 = .ok (.iload 5, 2) := by decide +kernel
theorem dX4_weighLetterEnd_46 : decode cX4_weighLetterEnd 46 = .ok (.iload_n 1, 1) := by decide +kernel
theorem dX4_weighLetterEnd_47 : decode cX4_weighLetterEnd 47 = .ok (.iastore, 1) := by decide +kernel
theorem dX4_weighLetterEnd_48 : decode cX4_weighLetterEnd 48 = .ok (.iload_n 3, 1) := by decide +kernel
theorem dX4_weighLetterEnd_49 : decode cX4_weighLetterEnd 49 = .ok (.bipush 64, 2) := by decide +kernel
theorem dX4_weighLetterEnd_51 : decode cX4_weighLetterEnd 51 = .ok (.aload_n 0, 1) := by decide +kernel
theorem dX4_weighLetterEnd_52 : decode cX4_weighLetterEnd 52 = .ok (.getfield 34, 3) := by decide +kernel
theorem dX4_weighLetterEnd_55 : decode cX4_weighLetterEnd 55 = .ok (.getfield 88, 3) := by decide +kernel
theorem dX4_weighLetterEnd_58 : decode cX4_weighLetterEnd 58 = .ok (.imul, 1) := by decide +kernel
theorem dX4_weighLetterEnd_59 : decode cX4_weighLetterEnd 59 = .ok (.iadd, 1) := by decide +kernel
theorem dX4_weighLetterEnd_60 : decode cX4_weighLetterEnd 60 = .ok (.istore_n 3, 1) := by decide +kernel
theorem dX4_weighLetterEnd_61 : decode cX4_weighLetterEnd 61 = .ok (.iinc 4 (-1), 3) := by decide +kernel
theorem dX4_weighLetterEnd_64 : decode cX4_weighLetterEnd 64 = .ok (.goto (-46), 3) := by decide +kernel
theorem dX4_weighLetterEnd_67 : decode cX4_weighLetterEnd 67 = .ok (.return_, 1) := by decide +kernel
theorem dX4_weighLetter_0 : decode cX4_weighLetter 0 = .ok (.aload_n 0, 1) := by decide +kernel
theorem dX4_weighLetter_1 : decode cX4_weighLetter 1 = .ok (.iload_n 1, 1) := by decide +kernel
theorem dX4_weighLetter_2 : decode cX4_weighLetter 2 = .ok (.iload_n 2, 1) := by decide +kernel
theorem dX4_weighLetter_3 : decode cX4_weighLetter 3 = .ok (.invokevirtual 60, 3) := by decide +kernel
theorem dX4_weighLetter_6 : decode cX4_weighLetter 6 = .ok (.aload_n 0, 1) := by decide +kernel
theorem dX4_weighLetter_7 : decode cX4_weighLetter 7 = .ok (.getfield 30, 3) := by decide +kernel
theorem dX4_weighLetter_10 : decode cX4_weighLetter 10 = .ok (.getfield 79, 3) := by decide +kernel
theorem dX4_weighLetter_13 : decode cX4_weighLetter 13 = .ok (.iload_n 2, 1) := by decide +kernel
theorem dX4_weighLetter_14 : decode cX4_weighLetter 14 = .ok (.iaload, 1) := by decide +kernel
theorem dX4_weighLetter_15 : decode cX4_weighLetter 15 = .ok (.iconst 1, 1) := by decide +kernel
theorem dX4_weighLetter_16 : decode cX4_weighLetter 16 = .ok (.isub, 1) := by decide +kernel
theorem dX4_weighLetter_17 : decode cX4_weighLetter 17 = .ok (.istore 4, 2) := by decide +kernel
theorem dX4_weighLetter_19 : decode cX4_weighLetter 19 = .ok (.iload 4, 2) := by decide +kernel
theorem dX4_weighLetter_21 : decode cX4_weighLetter 21 = .ok (.ifCond .le 101, 3) := by decide +kernel
theorem dX4_weighLetter_24 : decode cX4_weighLetter 24 = .ok (.iload_n 1, 1) := by decide +kernel
theorem dX4_weighLetter_25 : decode cX4_weighLetter 25 = .ok (.iload_n 2, 1) := by decide +kernel
theorem dX4_weighLetter_26 : decode cX4_weighLetter 26 = .ok (.iload 4, 2) := by decide +kernel
theorem dX4_weighLetter_28 : decode cX4_weighLetter 28 = .ok (.invokestatic 84, 3) := by decide +kernel
theorem dX4_weighLetter_31 : decode cX4_weighLetter 31 = .ok (.istore 5, 2) := by decide +kernel
theorem dX4_weighLetter_33 : decode cX4_weighLetter 33 = .ok (.aload_n 0, 1) := by decide +kernel
theorem dX4_weighLetter_34 : decode cX4_weighLetter 34 = .ok (.getfield 34, 3) := by decide +kernel
theorem dX4_weighLetter_37 : decode cX4_weighLetter 37 = .ok (.aload_n 0, 1) := by decide +kernel
theorem dX4_weighLetter_38 : decode cX4_weighLetter 38 = .ok (.getfield 30, 3) := by decide +kernel
theorem dX4_weighLetter_41 : decode cX4_weighLetter 41 = .ok (.iload_n 2, 1) := by decide +kernel
theorem dX4_weighLetter_42 : decode cX4_weighLetter 42 = .ok (.iload 4, 2) := by decide +kernel
theorem dX4_weighLetter_44 : decode cX4_weighLetter 44 = .ok (.invokevirtual 91, 3) := by decide +kernel
theorem dX4_weighLetter_47 : decode cX4_weighLetter 47 = .ok (.iload_n 3, 1) := by decide +kernel
theorem dX4_weighLetter_48 : decode cX4_weighLetter 48 = .ok (.invokevirtual 95, 3) := by decide +kernel
theorem dX4_weighLetter_51 : decode cX4_weighLetter 51 = .ok (.istore 6, 2) := by decide +kernel
theorem dX4_weighLetter_53 : decode cX4_weighLetter 53 = .ok (.aload_n 0, 1) := by decide +kernel
theorem dX4_weighLetter_54 : decode cX4_weighLetter 54 = .ok (.iload 5, 2) := by decide +kernel
theorem dX4_weighLetter_56 : decode cX4_weighLetter 56 = .ok (.iload_n 1, 1) := by decide +kernel
theorem dX4_weighLetter_57 : decode cX4_weighLetter 57 = .ok (.iload_n 2, 1) := by decide +kernel
theorem dX4_weighLetter_58 : decode cX4_weighLetter 58 = .ok (.iload 4, 2) := by decide +kernel
theorem dX4_weighLetter_60 : decode cX4_weighLetter 60 = .ok (.iconst 1, 1) := by decide +kernel
theorem dX4_weighLetter_61 : decode cX4_weighLetter 61 = .ok (.iadd, 1) := by decide +kernel
theorem dX4_weighLetter_62 : decode cX4_weighLetter 62 = .ok (.invokestatic 84, 3) := by decide +kernel
theorem dX4_weighLetter_65 : decode cX4_weighLetter 65 = .ok (.aload_n 0, 1) := by decide +kernel
theorem dX4_weighLetter_66 : decode cX4_weighLetter 66 = .ok (.getfield 34, 3) := by decide +kernel
theorem dX4_weighLetter_69 : decode cX4_weighLetter 69 = .ok (.getfield 88, 3) := by decide +kernel
theorem dX4_weighLetter_72 : decode cX4_weighLetter 72 = .ok (.invokevirtual 106, 3) := by decide +kernel
theorem dX4_weighLetter_75 : decode cX4_weighLetter 75 = .ok (.aload_n 0, 1) := by decide +kernel
theorem dX4_weighLetter_76 : decode cX4_weighLetter 76 = .ok (.iload 5, 2) := by decide +kernel
theorem dX4_weighLetter_78 : decode cX4_weighLetter 78 = .ok (.iload_n 1, 1) := by decide +kernel
theorem dX4_weighLetter_79 : decode cX4_weighLetter 79 = .ok (.iconst 1, 1) := by decide +kernel
theorem dX4_weighLetter_80 : decode cX4_weighLetter 80 = .ok (.iadd, 1) := by decide +kernel
theorem dX4_weighLetter_81 : decode cX4_weighLetter 81 = .ok (.iload_n 2, 1) := by decide +kernel
theorem dX4_weighLetter_82 : decode cX4_weighLetter 82 = .ok (.iload 4, 2) := by decide +kernel
theorem dX4_weighLetter_84 : decode cX4_weighLetter 84 = .ok (.invokestatic 84, 3) := by decide +kernel
theorem dX4_weighLetter_87 : decode cX4_weighLetter 87 = .ok (.aload_n 0, 1) := by decide +kernel
theorem dX4_weighLetter_88 : decode cX4_weighLetter 88 = .ok (.getfield 34, 3) := by decide +kernel
theorem dX4_weighLetter_91 : decode cX4_weighLetter 91 = .ok (.getfield 74, 3) := by decide +kernel
theorem dX4_weighLetter_94 : decode cX4_weighLetter 94 = .ok (.invokevirtual 106, 3) := by decide +kernel
theorem dX4_weighLetter_97 : decode cX4_weighLetter 97 = .ok (.aload_n 0, 1) := by decide +kernel
theorem dX4_weighLetter_98 : decode cX4_weighLetter 98 = .ok (.iload 5, 2) := by decide +kernel
theorem dX4_weighLetter_100 : decode cX4_weighLetter 100 = .ok (.iload_n 1, 1) := by decide +kernel
theorem dX4_weighLetter_101 : decode cX4_weighLetter 101 = .ok (.iconst 1, 1) := by decide +kernel
theorem dX4_weighLetter_102 : decode cX4_weighLetter 102 = .ok (.iadd, 1) := by decide +kernel
theorem dX4_weighLetter_103 : decode cX4_weighLetter 103 = .ok (.iload_n 2, 1) := by decide +kernel
theorem dX4_weighLetter_104 : decode cX4_weighLetter 104 = .ok (.iload 4, 2) := by decide +kernel
theorem dX4_weighLetter_106 : decode cX4_weighLetter 106 = .ok (.iconst 1, 1) := by decide +kernel
theorem dX4_weighLetter_107 : decode cX4_weighLetter 107 = .ok (.iadd, 1) := by decide +kernel
theorem dX4_weighLetter_108 : decode cX4_weighLetter 108 = .ok (.invokestatic 84, 3) := by decide +kernel
theorem dX4_weighLetter_111 : decode cX4_weighLetter 111 = .ok (.iload 6, 2) := by decide +kernel
theorem dX4_weighLetter_113 : decode cX4_weighLetter 113 = .ok (.invokevirtual 106, 3) := by decide +kernel
theorem dX4_weighLetter_116 : decode cX4_weighLetter 116 = .ok (.iinc 4 (-1), 3) := by decide +kernel
theorem dX4_weighLetter_119 : decode cX4_weighLetter 119 = .ok (.goto (-100), 3) := by decide +kernel
theorem dX4_weighLetter_122 : decode cX4_weighLetter 122 = .ok (.return_, 1) := by decide +kernel
theorem dX4_offerSlot_0 : decode cX4_offerSlot 0 = .ok (.aload_n 0, 1) := by decide +kernel
theorem dX4_offerSlot_1 : decode cX4_offerSlot 1 = .ok (.getfield 21, 3) := by decide +kernel
theorem dX4_offerSlot_4 : decode cX4_offerSlot 4 = .ok (.iload_n 2, 1) := by decide +kernel
theorem dX4_offerSlot_5 : decode cX4_offerSlot 5 = .ok (.iaload, 1) := by decide +kernel
theorem dX4_offerSlot_6 : decode cX4_offerSlot 6 = .ok (.bipush 64, 2) := by decide +kernel
theorem dX4_offerSlot_8 : decode cX4_offerSlot 8 = .ok (.iload_n 3, 1) := by decide +kernel
theorem dX4_offerSlot_9 : decode cX4_offerSlot 9 = .ok (.imul, 1) := by decide +kernel
theorem dX4_offerSlot_10 : decode cX4_offerSlot 10 = .ok (.iadd, 1) := by decide +kernel
theorem dX4_offerSlot_11 : decode cX4_offerSlot 11 = .ok (.istore 4, 2) := by decide +kernel
theorem dX4_offerSlot_13 : decode cX4_offerSlot 13 = .ok (.iload 4, 2) := by decide +kernel
theorem dX4_offerSlot_15 : decode cX4_offerSlot 15 = .ok (.aload_n 0, 1) := by decide +kernel
theorem dX4_offerSlot_16 : decode cX4_offerSlot 16 = .ok (.getfield 21, 3) := by decide +kernel
theorem dX4_offerSlot_19 : decode cX4_offerSlot 19 = .ok (.iload_n 1, 1) := by decide +kernel
theorem dX4_offerSlot_20 : decode cX4_offerSlot 20 = .ok (.iaload, 1) := by decide +kernel
theorem dX4_offerSlot_21 : decode cX4_offerSlot 21 = .ok (.if_icmp .lt 33, 3) := by decide +kernel
theorem dX4_offerSlot_24 : decode cX4_offerSlot 24 = .ok (.iload 4, 2) := by decide +kernel
theorem dX4_offerSlot_26 : decode cX4_offerSlot 26 = .ok (.aload_n 0, 1) := by decide +kernel
theorem dX4_offerSlot_27 : decode cX4_offerSlot 27 = .ok (.getfield 21, 3) := by decide +kernel
theorem dX4_offerSlot_30 : decode cX4_offerSlot 30 = .ok (.iload_n 1, 1) := by decide +kernel
theorem dX4_offerSlot_31 : decode cX4_offerSlot 31 = .ok (.iaload, 1) := by decide +kernel
