theorem dX0_init_0 : decode cX0_init 0 = .ok (.aload_n 0, 1) := by decide +kernel
theorem dX0_init_1 : decode cX0_init 1 = .ok (.invokespecial 3, 3) := by decide +kernel
theorem dX0_init_4 : decode cX0_init 4 = .ok (.aload_n 0, 1) := by decide +kernel
theorem dX0_init_5 : decode cX0_init 5 = .ok (.bipush 12, 2) := by decide +kernel
theorem dX0_init_7 : decode cX0_init 7 = .ok (.newarray .int, 2) := by decide +kernel
theorem dX0_init_9 : decode cX0_init 9 = .ok (.putfield 9, 3) := by decide +kernel
theorem dX0_init_12 : decode cX0_init 12 = .ok (.aload_n 0, 1) := by decide +kernel
theorem dX0_init_13 : decode cX0_init 13 = .ok (.bipush 12, 2) := by decide +kernel
theorem dX0_init_15 : decode cX0_init 15 = .ok (.newarray .int, 2) := by decide +kernel
theorem dX0_init_17 : decode cX0_init 17 = .ok (.putfield 15, 3) := by decide +kernel
theorem dX0_init_20 : decode cX0_init 20 = .ok (.aload_n 0, 1) := by decide +kernel
theorem dX0_init_21 : decode cX0_init 21 = .ok (.bipush 12, 2) := by decide +kernel
theorem dX0_init_23 : decode cX0_init 23 = .ok (.newarray .int, 2) := by decide +kernel
theorem dX0_init_25 : decode cX0_init 25 = .ok (.putfield 18, 3) := by decide +kernel
theorem dX0_init_28 : decode cX0_init 28 = .ok (.aload_n 0, 1) := by decide +kernel
theorem dX0_init_29 : decode cX0_init 29 = .ok (.bipush 48, 2) := by decide +kernel
theorem dX0_init_31 : decode cX0_init 31 = .ok (.newarray .int, 2) := by decide +kernel
theorem dX0_init_33 : decode cX0_init 33 = .ok (.putfield 21, 3) := by decide +kernel
theorem dX0_init_36 : decode cX0_init 36 = .ok (.aload_n 0, 1) := by decide +kernel
theorem dX0_init_37 : decode cX0_init 37 = .ok (.bipush 84, 2) := by decide +kernel
theorem dX0_init_39 : decode cX0_init 39 = .ok (.newarray .int, 2) := by decide +kernel
theorem dX0_init_41 : decode cX0_init 41 = .ok (.putfield 24, 3) := by decide +kernel
theorem dX0_init_44 : decode cX0_init 44 = .ok (.aload_n 0, 1) := by decide +kernel
theorem dX0_init_45 : decode cX0_init 45 = .ok (.sipush 445, 3) := by decide +kernel
theorem dX0_init_48 : decode cX0_init 48 = .ok (.newarray .int, 2) := by decide +kernel
theorem dX0_init_50 : decode cX0_init 50 = .ok (.putfield 27, 3) := by decide +kernel
theorem dX0_init_53 : decode cX0_init 53 = .ok (.return_, 1) := by decide +kernel
theorem dX0_isRow_0 : decode cX0_isRow 0 = .ok (.iload_n 0, 1) := by decide +kernel
theorem dX0_isRow_1 : decode cX0_isRow 1 = .ok (.iconst 1, 1) := by decide +kernel
theorem dX0_isRow_2 : decode cX0_isRow 2 = .ok (.if_icmp .lt 10, 3) := by decide +kernel
theorem dX0_isRow_5 : decode cX0_isRow 5 = .ok (.iload_n 0, 1) := by decide +kernel
theorem dX0_isRow_6 : decode cX0_isRow 6 = .ok (.sipush 4444, 3) := by decide +kernel
theorem dX0_isRow_9 : decode cX0_isRow 9 = .ok (.if_icmp .le 5, 3) := by decide +kernel
theorem dX0_isRow_12 : decode cX0_isRow 12 = .ok (.iconst 0, 1) := by decide +kernel
theorem dX0_isRow_13 : decode cX0_isRow 13 = .ok (.ireturn, 1) := by decide +kernel
theorem dX0_isRow_14 : decode cX0_isRow 14 = .ok (.iload_n 0, 1) := by decide +kernel
theorem dX0_isRow_15 : decode cX0_isRow 15 = .ok (.istore_n 1, 1) := by decide +kernel
theorem dX0_isRow_16 : decode cX0_isRow 16 = .ok (.iload_n 1, 1) := by decide +kernel
theorem dX0_isRow_17 : decode cX0_isRow 17 = .ok (.ifCond .le 23, 3) := by decide +kernel
theorem dX0_isRow_20 : decode cX0_isRow 20 = .ok (.iload_n 1, 1) := by decide +kernel
theorem dX0_isRow_21 : decode cX0_isRow 21 = .ok (.bipush 10, 2) := by decide +kernel
theorem dX0_isRow_23 : decode cX0_isRow 23 = .ok (.irem, 1) := by decide +kernel
theorem dX0_isRow_24 : decode cX0_isRow 24 = .ok (.invokestatic 30, 3) := by decide +kernel
theorem dX0_isRow_27 : decode cX0_isRow 27 = .ok (.ifCond .eq 5, 3) := by decide +kernel
theorem dX0_isRow_30 : decode cX0_isRow 30 = .ok (.iconst 0, 1) := by decide +kernel
theorem dX0_isRow_31 : decode cX0_isRow 31 = .ok (.ireturn, 1) := by decide +kernel
theorem dX0_isRow_32 : decode cX0_isRow 32 = .ok (.iload_n 1, 1) := by decide +kernel
theorem dX0_isRow_33 : decode cX0_isRow 33 = .ok (.bipush 10, 2) := by decide +kernel
theorem dX0_isRow_35 : decode cX0_isRow 35 = .ok (.idiv, 1) := by decide +kernel
theorem dX0_isRow_36 : decode cX0_isRow 36 = .ok (.istore_n 1, 1) := by decide +kernel
theorem dX0_isRow_37 : decode cX0_isRow 37 = .ok (.goto (-21), 3) := by decide +kernel
theorem dX0_isRow_40 : decode cX0_isRow 40 = .ok (.iconst 1, 1) := by decide +kernel
theorem dX0_isRow_41 : decode cX0_isRow 41 = .ok (.ireturn, 1) := by decide +kernel
theorem dX0_rowOfRank_0 : decode cX0_rowOfRank 0 = .ok (.iconst 0, 1) := by decide +kernel
theorem dX0_rowOfRank_1 : decode cX0_rowOfRank 1 = .ok (.istore_n 1, 1) := by decide +kernel
theorem dX0_rowOfRank_2 : decode cX0_rowOfRank 2 = .ok (.iconst 1, 1) := by decide +kernel
theorem dX0_rowOfRank_3 : decode cX0_rowOfRank 3 = .ok (.istore_n 2, 1) := by decide +kernel
theorem dX0_rowOfRank_4 : decode cX0_rowOfRank 4 = .ok (.iload_n 0, 1) := by decide +kernel
theorem dX0_rowOfRank_5 : decode cX0_rowOfRank 5 = .ok (.istore_n 3, 1) := by decide +kernel
theorem dX0_rowOfRank_6 : decode cX0_rowOfRank 6 = .ok (.iload_n 3, 1) := by decide +kernel
theorem dX0_rowOfRank_7 : decode cX0_rowOfRank 7 = .ok (.ifCond .le 29, 3) := by decide +kernel
theorem dX0_rowOfRank_10 : decode cX0_rowOfRank 10 = .ok (.iload_n 1, 1) := by decide +kernel
theorem dX0_rowOfRank_11 : decode cX0_rowOfRank 11 = .ok (.iload_n 2, 1) := by decide +kernel
theorem dX0_rowOfRank_12 : decode cX0_rowOfRank 12 = .ok (.iload_n 3, 1) := by decide +kernel
theorem dX0_rowOfRank_13 : decode cX0_rowOfRank 13 = .ok (.iconst 1, 1) := by decide +kernel
theorem dX0_rowOfRank_14 : decode cX0_rowOfRank 14 = .ok (.isub, 1) := by decide +kernel
theorem dX0_rowOfRank_15 : decode cX0_rowOfRank 15 = .ok (.iconst 4, 1) := by decide +kernel
theorem dX0_rowOfRank_16 : decode cX0_rowOfRank 16 = .ok (.irem, 1) := by decide +kernel
theorem dX0_rowOfRank_17 : decode cX0_rowOfRank 17 = .ok (.iconst 1, 1) := by decide +kernel
theorem dX0_rowOfRank_18 : decode cX0_rowOfRank 18 = .ok (.iadd, 1) := by decide +kernel
theorem dX0_rowOfRank_19 : decode cX0_rowOfRank 19 = .ok (.imul, 1) := by decide +kernel
theorem dX0_rowOfRank_20 : decode cX0_rowOfRank 20 = .ok (.iadd, 1) := by decide +kernel
theorem dX0_rowOfRank_21 : decode cX0_rowOfRank 21 = .ok (.istore_n 1, 1) := by decide +kernel
theorem dX0_rowOfRank_22 : decode cX0_rowOfRank 22 = .ok (.iload_n 2, 1) := by decide +kernel
theorem dX0_rowOfRank_23 : decode cX0_rowOfRank 23 = .ok (.bipush 10, 2) := by decide +kernel
theorem dX0_rowOfRank_25 : decode cX0_rowOfRank 25 = .ok (.imul, 1) := by decide +kernel
theorem dX0_rowOfRank_26 : decode cX0_rowOfRank 26 = .ok (.istore_n 2, 1) := by decide +kernel
theorem dX0_rowOfRank_27 : decode cX0_rowOfRank 27 = .ok (.iload_n 3, 1) := by decide +kernel
theorem dX0_rowOfRank_28 : decode cX0_rowOfRank 28 = .ok (.iconst 1, 1) := by decide +kernel
theorem dX0_rowOfRank_29 : decode cX0_rowOfRank 29 = .ok (.isub, 1) := by decide +kernel
theorem dX0_rowOfRank_30 : decode cX0_rowOfRank 30 = .ok (.iconst 4, 1) := by decide +kernel
theorem dX0_rowOfRank_31 : decode cX0_rowOfRank 31 = .ok (.idiv, 1) := by decide +kernel
theorem dX0_rowOfRank_32 : decode cX0_rowOfRank 32 = .ok (.istore_n 3, 1) := by decide +kernel
theorem dX0_rowOfRank_33 : decode cX0_rowOfRank 33 = .ok (.goto (-27), 3) := by decide +kernel
theorem dX0_rowOfRank_36 : decode cX0_rowOfRank 36 = .ok (.iload_n 1, 1) := by decide +kernel
theorem dX0_rowOfRank_37 : decode cX0_rowOfRank 37 = .ok (.ireturn, 1) := by decide +kernel
theorem dX0_restBehind_0 : decode cX0_restBehind 0 = .ok (.iload_n 0, 1) := by decide +kernel
theorem dX0_restBehind_1 : decode cX0_restBehind 1 = .ok (.iload_n 1, 1) := by decide +kernel
theorem dX0_restBehind_2 : decode cX0_restBehind 2 = .ok (.invokestatic 34, 3) := by decide +kernel
theorem dX0_restBehind_5 : decode cX0_restBehind 5 = .ok (.istore_n 2, 1) := by decide +kernel
theorem dX0_restBehind_6 : decode cX0_restBehind 6 = .ok (.iload_n 0, 1) := by decide +kernel
theorem dX0_restBehind_7 : decode cX0_restBehind 7 = .ok (.iload_n 1, 1) := by decide +kernel
theorem dX0_restBehind_8 : decode cX0_restBehind 8 = .ok (.invokestatic 40, 3) := by decide +kernel
theorem dX0_restBehind_11 : decode cX0_restBehind 11 = .ok (.istore_n 3, 1) := by decide +kernel
theorem dX0_restBehind_12 : decode cX0_restBehind 12 = .ok (.iconst 1, 1) := by decide +kernel
theorem dX0_restBehind_13 : decode cX0_restBehind 13 = .ok (.istore 4, 2) := by decide +kernel
theorem dX0_restBehind_15 : decode cX0_restBehind 15 = .ok (.iload_n 3, 1) := by decide +kernel
theorem dX0_restBehind_16 : decode cX0_restBehind 16 = .ok (.istore 5, 2) := by decide +kernel
theorem dX0_restBehind_18 : decode cX0_restBehind 18 = .ok (.iload 5, 2) := by decide +kernel
theorem dX0_restBehind_20 : decode cX0_restBehind 20 = .ok (.iload_n 2, 1) := by decide +kernel
theorem dX0_restBehind_21 : decode cX0_restBehind 21 = .ok (.if_icmp .lt 39, 3) := by decide +kernel
theorem dX0_restBehind_24 : decode cX0_restBehind 24 = .ok (.iload 5, 2) := by decide +kernel
theorem dX0_restBehind_26 : decode cX0_restBehind 26 = .ok (.ifCond .le 34, 3) := by decide +kernel
theorem dX0_restBehind_29 : decode cX0_restBehind 29 = .ok (.iload 5, 2) := by decide +kernel
theorem dX0_restBehind_31 : decode cX0_restBehind 31 = .ok (.iload_n 2, 1) := by decide +kernel
theorem dX0_restBehind_32 : decode cX0_restBehind 32 = .ok (.if_icmp .ne 11, 3) := by decide +kernel
theorem dX0_restBehind_35 : decode cX0_restBehind 35 = .ok (.iload_n 3, 1) := by decide +kernel
theorem dX0_restBehind_36 : decode cX0_restBehind 36 = .ok (.iload 5, 2) := by decide +kernel
theorem dX0_restBehind_38 : decode cX0_restBehind 38 = .ok (.iload 4, 2) := by decide +kernel
theorem dX0_restBehind_40 : decode cX0_restBehind 40 = .ok (.imul, 1) := by decide +kernel
theorem dX0_restBehind_41 : decode cX0_restBehind 41 = .ok (.isub, 1) := by decide +kernel
theorem dX0_restBehind_42 : decode cX0_restBehind 42 = .ok (.ireturn, 1) := by decide +kernel
theorem dX0_restBehind_43 : decode cX0_restBehind 43 = .ok (.iload 4, 2) := by decide +kernel
theorem dX0_restBehind_45 : decode cX0_restBehind 45 = .ok (.bipush 10, 2) := by decide +kernel
theorem dX0_restBehind_47 : decode cX0_restBehind 47 = .ok (.imul, 1) := by decide +kernel
theorem dX0_restBehind_48 : decode cX0_restBehind 48 = .ok (.istore 4, 2) := by decide +kernel
theorem dX0_restBehind_50 : decode cX0_restBehind 50 = .ok (.iload 5, 2) := by decide +kernel
theorem dX0_restBehind_52 : decode cX0_restBehind 52 = .ok (.bipush 10, 2) := by decide +kernel
theorem dX0_restBehind_54 : decode cX0_restBehind 54 = .ok (.idiv, 1) := by decide +kernel
theorem dX0_restBehind_55 : decode cX0_restBehind 55 = .ok (.istore 5, 2) := by decide +kernel
theorem dX0_restBehind_57 : decode cX0_restBehind 57 = .ok (.goto (-39), 3) := by decide +kernel
theorem dX0_restBehind_60 : decode cX0_restBehind 60 = .ok (.iconst (-1), 1) := by decide +kernel
theorem dX0_restBehind_61 : decode cX0_restBehind 61 = .ok (.ireturn, 1) := by decide +kernel
theorem dX0_put_0 : decode cX0_put 0 = .ok (.aload_n 0, 1) := by decide +kernel
theorem dX0_put_1 : decode cX0_put 1 = .ok (.getfield 9, 3) := by decide +kernel
theorem dX0_put_4 : decode cX0_put 4 = .ok (.iload_n 1, 1) := by decide +kernel
theorem dX0_put_5 : decode cX0_put 5 = .ok (.iload_n 2, 1) := by decide +kernel
theorem dX0_put_6 : decode cX0_put 6 = .ok (.iastore, 1) := by decide +kernel
theorem dX0_put_7 : decode cX0_put 7 = .ok (.iconst 0, 1) := by decide +kernel
theorem dX0_put_8 : decode cX0_put 8 = .ok (.istore_n 3, 1) := by decide +kernel
theorem dX0_put_9 : decode cX0_put 9 = .ok (.iload_n 2, 1) := by decide +kernel
theorem dX0_put_10 : decode cX0_put 10 = .ok (.istore 4, 2) := by decide +kernel
theorem dX0_put_12 : decode cX0_put 12 = .ok (.iload 4, 2) := by decide +kernel
theorem dX0_put_14 : decode cX0_put 14 = .ok (.ifCond .le 16, 3) := by decide +kernel
theorem dX0_put_17 : decode cX0_put 17 = .ok (.iinc 3 1, 3) := by decide +kernel
theorem dX0_put_20 : decode cX0_put 20 = .ok (.iload 4, 2) := by decide +kernel
theorem dX0_put_22 : decode cX0_put 22 = .ok (.bipush 10, 2) := by decide +kernel
theorem dX0_put_24 : decode cX0_put 24 = .ok (.idiv, 1) := by decide +kernel
theorem dX0_put_25 : decode cX0_put 25 = .ok (.istore 4, 2) := by decide +kernel
theorem dX0_put_27 : decode cX0_put 27 = .ok (.goto (-15), 3) := by decide +kernel
theorem dX0_put_30 : decode cX0_put 30 = .ok (.aload_n 0, 1) := by decide +kernel
theorem dX0_put_31 : decode cX0_put 31 = .ok (.getfield 15, 3) := by decide +kernel
theorem dX0_put_34 : decode cX0_put 34 = .ok (.iload_n 1, 1) := by decide +kernel
theorem dX0_put_35 : decode cX0_put 35 = .ok (.iload_n 3, 1) := by decide +kernel
theorem dX0_put_36 : decode cX0_put 36 = .ok (.iastore, 1) := by decide +kernel
theorem dX0_put_37 : decode cX0_put 37 = .ok (.iload_n 2, 1) := by decide +kernel
theorem dX0_put_38 : decode cX0_put 38 = .ok (.istore 4, 2) := by decide +kernel
theorem dX0_put_40 : decode cX0_put 40 = .ok (.iload_n 3, 1) := by decide +kernel
theorem dX0_put_41 : decode cX0_put 41 = .ok (.iconst 1, 1) := by decide +kernel
theorem dX0_put_42 : decode cX0_put 42 = .ok (.isub, 1) := by decide +kernel
theorem dX0_put_43 : decode cX0_put 43 = .ok (.istore 5, 2) := by decide +kernel
theorem dX0_put_45 : decode cX0_put 45 = .ok (.iload 5, 2) := by decide +kernel
theorem dX0_put_47 : decode cX0_put 47 = .ok (.ifCond .lt 32, 3) := by decide +kernel
theorem dX0_put_50 : decode cX0_put 50 = .ok (.aload_n 0, 1) := by decide +kernel
theorem dX0_put_51 : decode cX0_put 51 = .ok (.getfield 21, 3) := by decide +kernel
theorem dX0_put_54 : decode cX0_put 54 = .ok (.iload_n 1, 1) := by decide +kernel
theorem dX0_put_55 : decode cX0_put 55 = .ok (.iconst 4, 1) := by decide +kernel
theorem dX0_put_56 : decode cX0_put 56 = .ok (.imul, 1) := by decide +kernel
theorem dX0_put_57 : decode cX0_put 57 = .ok (.iload 5, 2) := by decide +kernel
theorem dX0_put_59 : decode cX0_put 59 = .ok (.iadd, 1) := by decide +kernel
theorem dX0_put_60 : decode cX0_put 60 = .ok (.iload 4, 2) := by decide +kernel
theorem dX0_put_62 : decode cX0_put 62 = .ok (.bipush 10, 2) := by decide +kernel
theorem dX0_put_64 : decode cX0_put 64 = .ok (.irem, 1) := by decide +kernel
theorem dX0_put_65 : decode cX0_put 65 = .ok (.iastore, 1) := by decide +kernel
theorem dX0_put_66 : decode cX0_put 66 = .ok (.iload 4, 2) := by decide +kernel
theorem dX0_put_68 : decode cX0_put 68 = .ok (.bipush 10, 2) := by decide +kernel
theorem dX0_put_70 : decode cX0_put 70 = .ok (.idiv, 1) := by decide +kernel
theorem dX0_put_71 : decode cX0_put 71 = .ok (.istore 4, 2) := by decide +kernel
theorem dX0_put_73 : decode cX0_put 73 = .ok (.iinc 5 (-1), 3) := by decide +kernel
theorem dX0_put_76 : decode cX0_put 76 = .ok (.goto (-31), 3) := by decide +kernel
theorem dX0_put_79 : decode cX0_put 79 = .ok (.return_, 1) := by decide +kernel
theorem dX0_kindAt_0 : decode cX0_kindAt 0 = .ok (.aload_n 0, 1) := by decide +kernel
theorem dX0_kindAt_1 : decode cX0_kindAt 1 = .ok (.getfield 21, 3) := by decide +kernel
theorem dX0_kindAt_4 : decode cX0_kindAt 4 = .ok (.iload_n 1, 1) := by decide +kernel
theorem dX0_kindAt_5 : decode cX0_kindAt 5 = .ok (.iconst 4, 1) := by decide +kernel
theorem dX0_kindAt_6 : decode cX0_kindAt 6 = .ok (.imul, 1) := by decide +kernel
theorem dX0_kindAt_7 : decode cX0_kindAt 7 = .ok (.iload_n 2, 1) := by decide +kernel
theorem dX0_kindAt_8 : decode cX0_kindAt 8 = .ok (.iadd, 1) := by decide +kernel
theorem dX0_kindAt_9 : decode cX0_kindAt 9 = .ok (.iaload, 1) := by decide +kernel
theorem dX0_kindAt_10 : decode cX0_kindAt 10 = .ok (.ireturn, 1) := by decide +kernel
theorem dX0_lettersWithKnots_0 : decode cX0_lettersWithKnots 0 = .ok (.iconst 0, 1) := by decide +kernel
theorem dX0_lettersWithKnots_1 : decode cX0_lettersWithKnots 1 = .ok (.istore_n 1, 1) := by decide +kernel
theorem dX0_lettersWithKnots_2 : decode cX0_lettersWithKnots 2 = .ok (.iconst 0, 1) := by decide +kernel
theorem dX0_lettersWithKnots_3 : decode cX0_lettersWithKnots 3 = .ok (.istore_n 2, 1) := by decide +kernel
theorem dX0_lettersWithKnots_4 : decode cX0_lettersWithKnots 4 = .ok (.iload_n 2, 1) := by decide +kernel
theorem dX0_lettersWithKnots_5 : decode cX0_lettersWithKnots 5 = .ok (.bipush 12, 2) := by decide +kernel
theorem dX0_lettersWithKnots_7 : decode cX0_lettersWithKnots 7 = .ok (.if_icmp .ge 21, 3) := by decide +kernel
theorem dX0_lettersWithKnots_10 : decode cX0_lettersWithKnots 10 = .ok (.aload_n 0, 1) := by decide +kernel
theorem dX0_lettersWithKnots_11 : decode cX0_lettersWithKnots 11 = .ok (.getfield 9, 3) := by decide +kernel
theorem dX0_lettersWithKnots_14 : decode cX0_lettersWithKnots 14 = .ok (.iload_n 2, 1) := by decide +kernel
theorem dX0_lettersWithKnots_15 : decode cX0_lettersWithKnots 15 = .ok (.iaload, 1) := by decide +kernel
theorem dX0_lettersWithKnots_16 : decode cX0_lettersWithKnots 16 = .ok (.ifCond .eq 6, 3) := by decide +kernel
theorem dX0_lettersWithKnots_19 : decode cX0_lettersWithKnots 19 = .ok (.iinc 1 1, 3) := by decide +kernel
theorem dX0_lettersWithKnots_22 : decode cX0_lettersWithKnots 22 = .ok (.iinc 2 1, 3) := by decide +kernel
theorem dX0_lettersWithKnots_25 : decode cX0_lettersWithKnots 25 = .ok (.goto (-21), 3) := by decide +kernel
theorem dX0_lettersWithKnots_28 : decode cX0_lettersWithKnots 28 = .ok (.iload_n 1, 1) := by decide +kernel
theorem dX0_lettersWithKnots_29 : decode cX0_lettersWithKnots 29 = .ok (.ireturn, 1) := by decide +kernel
theorem dX0_clashes_0 : decode cX0_clashes 0 = .ok (.iload_n 2, 1) := by decide +kernel
theorem dX0_clashes_1 : decode cX0_clashes 1 = .ok (.istore_n 3, 1) := by decide +kernel
theorem dX0_clashes_2 : decode cX0_clashes 2 = .ok (.iload_n 3, 1) := by decide +kernel
theorem dX0_clashes_3 : decode cX0_clashes 3 = .ok (.bipush 12, 2) := by decide +kernel
theorem dX0_clashes_5 : decode cX0_clashes 5 = .ok (.if_icmp .ge 34, 3) := by decide +kernel
theorem dX0_clashes_8 : decode cX0_clashes 8 = .ok (.aload_n 0, 1) := by decide +kernel
theorem dX0_clashes_9 : decode cX0_clashes 9 = .ok (.getfield 9, 3) := by decide +kernel
theorem dX0_clashes_12 : decode cX0_clashes 12 = .ok (.iload_n 3, 1) := by decide +kernel
theorem dX0_clashes_13 : decode cX0_clashes 13 = .ok (.iaload, 1) := by decide +kernel
theorem dX0_clashes_14 : decode cX0_clashes 14 = .ok (.ifCond .eq 19, 3) := by decide +kernel
theorem dX0_clashes_17 : decode cX0_clashes 17 = .ok (.iload_n 1, 1) := by decide +kernel
theorem dX0_clashes_18 : decode cX0_clashes 18 = .ok (.aload_n 0, 1) := by decide +kernel
theorem dX0_clashes_19 : decode cX0_clashes 19 = .ok (.getfield 9, 3) := by decide +kernel
theorem dX0_clashes_22 : decode cX0_clashes 22 = .ok (.iload_n 3, 1) := by decide +kernel
theorem dX0_clashes_23 : decode cX0_clashes 23 = .ok (.iaload, 1) := by decide +kernel
theorem dX0_clashes_24 : decode cX0_clashes 24 = .ok (.invokestatic 43, 3) := by decide +kernel
theorem dX0_clashes_27 : decode cX0_clashes 27 = .ok (.iconst (-1), 1) := by decide +kernel
theorem dX0_clashes_28 : decode cX0_clashes 28 = .ok (.if_icmp .eq 5, 3) := by decide +kernel
theorem dX0_clashes_31 : decode cX0_clashes 31 = .ok (.iconst 1, 1) := by decide +kernel
theorem dX0_clashes_32 : decode cX0_clashes 32 = .ok (.ireturn, 1) := by decide +kernel
theorem dX0_clashes_33 : decode cX0_clashes 33 = .ok (.iinc 3 1, 3) := by decide +kernel
theorem dX0_clashes_36 : decode cX0_clashes 36 = .ok (.goto (-34), 3) := by decide +kernel
theorem dX0_clashes_39 : decode cX0_clashes 39 = .ok (.iconst 0, 1) := by decide +kernel
theorem dX0_clashes_40 : decode cX0_clashes 40 = .ok (.ireturn, 1) := by decide +kernel
theorem dX0_hasOneReading_0 : decode cX0_hasOneReading 0 = .ok (.aload_n 0, 1) := by decide +kernel
theorem dX0_hasOneReading_1 : decode cX0_hasOneReading 1 = .ok (.iconst 0, 1) := by decide +kernel
theorem dX0_hasOneReading_2 : decode cX0_hasOneReading 2 = .ok (.putfield 46, 3) := by decide +kernel
theorem dX0_hasOneReading_5 : decode cX0_hasOneReading 5 = .ok (.aload_n 0, 1) := by decide +kernel
theorem dX0_hasOneReading_6 : decode cX0_hasOneReading 6 = .ok (.getfield 27, 3) := by decide +kernel
theorem dX0_hasOneReading_9 : decode cX0_hasOneReading 9 = .ok (.iconst 0, 1) := by decide +kernel
theorem dX0_hasOneReading_10 : decode cX0_hasOneReading 10 = .ok (.invokestatic 50, 3) := by decide +kernel
theorem dX0_hasOneReading_13 : decode cX0_hasOneReading 13 = .ok (.iconst 0, 1) := by decide +kernel
theorem dX0_hasOneReading_14 : decode cX0_hasOneReading 14 = .ok (.istore_n 1, 1) := by decide +kernel
theorem dX0_hasOneReading_15 : decode cX0_hasOneReading 15 = .ok (.iload_n 1, 1) := by decide +kernel
theorem dX0_hasOneReading_16 : decode cX0_hasOneReading 16 = .ok (.bipush 12, 2) := by decide +kernel
theorem dX0_hasOneReading_18 : decode cX0_hasOneReading 18 = .ok (.if_icmp .ge 36, 3) := by decide +kernel
theorem dX0_hasOneReading_21 : decode cX0_hasOneReading 21 = .ok (.aload_n 0, 1) := by decide +kernel
theorem dX0_hasOneReading_22 : decode cX0_hasOneReading 22 = .ok (.getfield 9, 3) := by decide +kernel
theorem dX0_hasOneReading_25 : decode cX0_hasOneReading 25 = .ok (.iload_n 1, 1) := by decide +kernel
theorem dX0_hasOneReading_26 : decode cX0_hasOneReading 26 = .ok (.iaload, 1) := by decide +kernel
theorem dX0_hasOneReading_27 : decode cX0_hasOneReading 27 = .ok (.ifCond .eq 21, 3) := by decide +kernel
theorem dX0_hasOneReading_30 : decode cX0_hasOneReading 30 = .ok (.aload_n 0, 1) := by decide +kernel
theorem dX0_hasOneReading_31 : decode cX0_hasOneReading 31 = .ok (.aload_n 0, 1) := by decide +kernel
theorem dX0_hasOneReading_32 : decode cX0_hasOneReading 32 = .ok (.getfield 9, 3) := by decide +kernel
theorem dX0_hasOneReading_35 : decode cX0_hasOneReading 35 = .ok (.iload_n 1, 1) := by decide +kernel
theorem dX0_hasOneReading_36 : decode cX0_hasOneReading 36 = .ok (.iaload, 1) := by decide +kernel
theorem dX0_hasOneReading_37 : decode cX0_hasOneReading 37 = .ok (.iload_n 1, 1) := by decide +kernel
theorem dX0_hasOneReading_38 : decode cX0_hasOneReading 38 = .ok (.iconst 1, 1) := by decide +kernel
theorem dX0_hasOneReading_39 : decode cX0_hasOneReading 39 = .ok (.iadd, 1) := by decide +kernel
theorem dX0_hasOneReading_40 : decode cX0_hasOneReading 40 = .ok (.invokevirtual 56, 3) := by decide +kernel
theorem dX0_hasOneReading_43 : decode cX0_hasOneReading 43 = .ok (.ifCond .eq 5, 3) := by decide +kernel
theorem dX0_hasOneReading_46 : decode cX0_hasOneReading 46 = .ok (.iconst 0, 1) := by decide +kernel
theorem dX0_hasOneReading_47 : decode cX0_hasOneReading 47 = .ok (.ireturn, 1) := by decide +kernel
theorem dX0_hasOneReading_48 : decode cX0_hasOneReading 48 = .ok (.iinc 1 1, 3) := by decide +kernel
theorem dX0_hasOneReading_51 : decode cX0_hasOneReading 51 = .ok (.goto (-36), 3) := by decide +kernel
theorem dX0_hasOneReading_54 : decode cX0_hasOneReading 54 = .ok (.iconst 0, 1) := by decide +kernel
theorem dX0_hasOneReading_55 : decode cX0_hasOneReading 55 = .ok (.istore_n 1, 1) := by decide +kernel
theorem dX0_hasOneReading_56 : decode cX0_hasOneReading 56 = .ok (.iload_n 1, 1) := by decide +kernel
theorem dX0_hasOneReading_57 : decode cX0_hasOneReading 57 = .ok (.aload_n 0, 1) := by decide +kernel
theorem dX0_hasOneReading_58 : decode cX0_hasOneReading 58 = .ok (.getfield 46, 3) := by decide +kernel
theorem dX0_hasOneReading_61 : decode cX0_hasOneReading 61 = .ok (.if_icmp .ge 31, 3) := by decide +kernel
theorem dX0_hasOneReading_64 : decode cX0_hasOneReading 64 = .ok (.iload_n 1, 1) := by decide +kernel
theorem dX0_hasOneReading_65 : decode cX0_hasOneReading 65 = .ok (.bipush 84, 2) := by decide +kernel
theorem dX0_hasOneReading_67 : decode cX0_hasOneReading 67 = .ok (.if_icmp .ge 25, 3) := by decide +kernel
theorem dX0_hasOneReading_70 : decode cX0_hasOneReading 70 = .ok (.aload_n 0, 1) := by decide +kernel
theorem dX0_hasOneReading_71 : decode cX0_hasOneReading 71 = .ok (.aload_n 0, 1) := by decide +kernel
theorem dX0_hasOneReading_72 : decode cX0_hasOneReading 72 = .ok (.getfield 24, 3) := by decide +kernel
theorem dX0_hasOneReading_75 : decode cX0_hasOneReading 75 = .ok (.iload_n 1, 1) := by decide +kernel
theorem dX0_hasOneReading_76 : decode cX0_hasOneReading 76 = .ok (.iaload, 1) := by decide +kernel
theorem dX0_hasOneReading_77 : decode cX0_hasOneReading 77 = .ok (.iconst 0, 1) := by decide +kernel
theorem dX0_hasOneReading_78 : decode cX0_hasOneReading 78 = .ok (.invokevirtual 56, 3) := by decide +kernel
theorem dX0_hasOneReading_81 : decode cX0_hasOneReading 81 = .ok (.ifCond .eq 5, 3) := by decide +kernel
theorem dX0_hasOneReading_84 : decode cX0_hasOneReading 84 = .ok (.iconst 0, 1) := by decide +kernel
theorem dX0_hasOneReading_85 : decode cX0_hasOneReading 85 = .ok (.ireturn, 1) := by decide +kernel
theorem dX0_hasOneReading_86 : decode cX0_hasOneReading 86 = .ok (.iinc 1 1, 3) := by decide +kernel
theorem dX0_hasOneReading_89 : decode cX0_hasOneReading 89 = .ok (.goto (-33), 3) := by decide +kernel
theorem dX0_hasOneReading_92 : decode cX0_hasOneReading 92 = .ok (.iconst 1, 1) := by decide +kernel
theorem dX0_hasOneReading_93 : decode cX0_hasOneReading 93 = .ok (.ireturn, 1) := by decide +kernel
theorem dX0_meetsSameRow_0 : decode cX0_meetsSameRow 0 = .ok (.iload_n 2, 1) := by decide +kernel
theorem dX0_meetsSameRow_1 : decode cX0_meetsSameRow 1 = .ok (.istore_n 3, 1) := by decide +kernel
theorem dX0_meetsSameRow_2 : decode cX0_meetsSameRow 2 = .ok (.iload_n 3, 1) := by decide +kernel
theorem dX0_meetsSameRow_3 : decode cX0_meetsSameRow 3 = .ok (.bipush 12, 2) := by decide +kernel
theorem dX0_meetsSameRow_5 : decode cX0_meetsSameRow 5 = .ok (.if_icmp .ge 43, 3) := by decide +kernel
theorem dX0_meetsSameRow_8 : decode cX0_meetsSameRow 8 = .ok (.aload_n 0, 1) := by decide +kernel
theorem dX0_meetsSameRow_9 : decode cX0_meetsSameRow 9 = .ok (.getfield 9, 3) := by decide +kernel
theorem dX0_meetsSameRow_12 : decode cX0_meetsSameRow 12 = .ok (.iload_n 3, 1) := by decide +kernel
theorem dX0_meetsSameRow_13 : decode cX0_meetsSameRow 13 = .ok (.iaload, 1) := by decide +kernel
theorem dX0_meetsSameRow_14 : decode cX0_meetsSameRow 14 = .ok (.ifCond .eq 28, 3) := by decide +kernel
theorem dX0_meetsSameRow_17 : decode cX0_meetsSameRow 17 = .ok (.iload_n 1, 1) := by decide +kernel
theorem dX0_meetsSameRow_18 : decode cX0_meetsSameRow 18 = .ok (.aload_n 0, 1) := by decide +kernel
theorem dX0_meetsSameRow_19 : decode cX0_meetsSameRow 19 = .ok (.getfield 9, 3) := by decide +kernel
theorem dX0_meetsSameRow_22 : decode cX0_meetsSameRow 22 = .ok (.iload_n 3, 1) := by decide +kernel
theorem dX0_meetsSameRow_23 : decode cX0_meetsSameRow 23 = .ok (.iaload, 1) := by decide +kernel
theorem dX0_meetsSameRow_24 : decode cX0_meetsSameRow 24 = .ok (.invokestatic 43, 3) := by decide +kernel
theorem dX0_meetsSameRow_27 : decode cX0_meetsSameRow 27 = .ok (.istore 4, 2) := by decide +kernel
theorem dX0_meetsSameRow_29 : decode cX0_meetsSameRow 29 = .ok (.iload 4, 2) := by decide +kernel
theorem dX0_meetsSameRow_31 : decode cX0_meetsSameRow 31 = .ok (.ifCond .ne 5, 3) := by decide +kernel
theorem dX0_meetsSameRow_34 : decode cX0_meetsSameRow 34 = .ok (.iconst 1, 1) := by decide +kernel
theorem dX0_meetsSameRow_35 : decode cX0_meetsSameRow 35 = .ok (.ireturn, 1) := by decide +kernel
theorem dX0_meetsSameRow_36 : decode cX0_meetsSameRow 36 = .ok (.aload_n 0, 1) := by decide +kernel
theorem dX0_meetsSameRow_37 : decode cX0_meetsSameRow 37 = .ok (.iload 4, 2) := by decide +kernel
theorem dX0_meetsSameRow_39 : decode cX0_meetsSameRow 39 = .ok (.invokevirtual 60, 3) := by decide +kernel
theorem dX0_meetsSameRow_42 : decode cX0_meetsSameRow 42 = .ok (.iinc 3 1, 3) := by decide +kernel
theorem dX0_meetsSameRow_45 : decode cX0_meetsSameRow 45 = .ok (.goto (-43), 3) := by decide +kernel
theorem dX0_meetsSameRow_48 : decode cX0_meetsSameRow 48 = .ok (.iconst 0, 1) := by decide +kernel
theorem dX0_meetsSameRow_49 : decode cX0_meetsSameRow 49 = .ok (.ireturn, 1) := by decide +kernel
theorem dX0_noteRest_0 : decode cX0_noteRest 0 = .ok (.iload_n 1, 1) := by decide +kernel
theorem dX0_noteRest_1 : decode cX0_noteRest 1 = .ok (.ifCond .le 55, 3) := by decide +kernel
theorem dX0_noteRest_4 : decode cX0_noteRest 4 = .ok (.iload_n 1, 1) := by decide +kernel
theorem dX0_noteRest_5 : decode cX0_noteRest 5 = .ok (.sipush 444, 3) := by decide +kernel
theorem dX0_noteRest_8 : decode cX0_noteRest 8 = .ok (.if_icmp .gt 48, 3) := by decide +kernel
theorem dX0_noteRest_11 : decode cX0_noteRest 11 = .ok (.aload_n 0, 1) := by decide +kernel
theorem dX0_noteRest_12 : decode cX0_noteRest 12 = .ok (.getfield 27, 3) := by decide +kernel
theorem dX0_noteRest_15 : decode cX0_noteRest 15 = .ok (.iload_n 1, 1) := by decide +kernel
theorem dX0_noteRest_16 : decode cX0_noteRest 16 = .ok (.iaload, 1) := by decide +kernel
theorem dX0_noteRest_17 : decode cX0_noteRest 17 = .ok (.ifCond .ne 39, 3) := by decide +kernel
theorem dX0_noteRest_20 : decode cX0_noteRest 20 = .ok (.aload_n 0, 1) := by decide +kernel
theorem dX0_noteRest_21 : decode cX0_noteRest 21 = .ok (.getfield 46, 3) := by decide +kernel
theorem dX0_noteRest_24 : decode cX0_noteRest 24 = .ok (.bipush 84, 2) := by decide +kernel
theorem dX0_noteRest_26 : decode cX0_noteRest 26 = .ok (.if_icmp .ge 30, 3) := by decide +kernel
theorem dX0_noteRest_29 : decode cX0_noteRest 29 = .ok (.aload_n 0, 1) := by decide +kernel
theorem dX0_noteRest_30 : decode cX0_noteRest 30 = .ok (.getfield 27, 3) := by decide +kernel
theorem dX0_noteRest_33 : decode cX0_noteRest 33 = .ok (.iload_n 1, 1) := by decide +kernel
theorem dX0_noteRest_34 : decode cX0_noteRest 34 = .ok (.iconst 1, 1) := by decide +kernel
theorem dX0_noteRest_35 : decode cX0_noteRest 35 = .ok (.iastore, 1) := by decide +kernel
theorem dX0_noteRest_36 : decode cX0_noteRest 36 = .ok (.aload_n 0, 1) := by decide +kernel
theorem dX0_noteRest_37 : decode cX0_noteRest 37 = .ok (.getfield 24, 3) := by decide +kernel
theorem dX0_noteRest_40 : decode cX0_noteRest 40 = .ok (.aload_n 0, 1) := by decide +kernel
theorem dX0_noteRest_41 : decode cX0_noteRest 41 = .ok (.getfield 46, 3) := by decide +kernel
theorem dX0_noteRest_44 : decode cX0_noteRest 44 = .ok (.iload_n 1, 1) := by decide +kernel
theorem dX0_noteRest_45 : decode cX0_noteRest 45 = .ok (.iastore, 1) := by decide +kernel
theorem dX0_noteRest_46 : decode cX0_noteRest 46 = .ok (.aload_n 0, 1) := by decide +kernel
theorem dX0_noteRest_47 : decode cX0_noteRest 47 = .ok (.dup, 1) := by decide +kernel
theorem dX0_noteRest_48 : decode cX0_noteRest 48 = .ok (.getfield 46, 3) := by decide +kernel
theorem dX0_noteRest_51 : decode cX0_noteRest 51 = .ok (.iconst 1, 1) := by decide +kernel
theorem dX0_noteRest_52 : decode cX0_noteRest 52 = .ok (.iadd, 1) := by decide +kernel
theorem dX0_noteRest_53 : decode cX0_noteRest 53 = .ok (.putfield 46, 3) := by decide +kernel
theorem dX0_noteRest_56 : decode cX0_noteRest 56 = .ok (.return_, 1) := by decide +kernel
theorem dX1_init_0 : decode cX1_init 0 = .ok (.aload_n 0, 1) := by decide +kernel
theorem dX1_init_1 : decode cX1_init 1 = .ok (.invokespecial 3, 3) := by decide +kernel
theorem dX1_init_4 : decode cX1_init 4 = .ok (.aload_n 0, 1) := by decide +kernel
theorem dX1_init_5 : decode cX1_init 5 = .ok (.bipush 40, 2) := by decide +kernel
theorem dX1_init_7 : decode cX1_init 7 = .ok (.newarray .int, 2) := by decide +kernel
theorem dX1_init_9 : decode cX1_init 9 = .ok (.putfield 9, 3) := by decide +kernel
theorem dX1_init_12 : decode cX1_init 12 = .ok (.return_, 1) := by decide +kernel
theorem dX1_add_0 : decode cX1_add 0 = .ok (.aload_n 0, 1) := by decide +kernel
theorem dX1_add_1 : decode cX1_add 1 = .ok (.getfield 15, 3) := by decide +kernel
theorem dX1_add_4 : decode cX1_add 4 = .ok (.bipush 40, 2) := by decide +kernel
theorem dX1_add_6 : decode cX1_add 6 = .ok (.if_icmp .ge 23, 3) := by decide +kernel
theorem dX1_add_9 : decode cX1_add 9 = .ok (.aload_n 0, 1) := by decide +kernel
theorem dX1_add_10 : decode cX1_add 10 = .ok (.getfield 9, 3) := by decide +kernel
theorem dX1_add_13 : decode cX1_add 13 = .ok (.aload_n 0, 1) := by decide +kernel
theorem dX1_add_14 : decode cX1_add 14 = .ok (.getfield 15, 3) := by decide +kernel
theorem dX1_add_17 : decode cX1_add 17 = .ok (.iload_n 1, 1) := by decide +kernel
theorem dX1_add_18 : decode cX1_add 18 = .ok (.iastore, 1) := by decide +kernel
theorem dX1_add_19 : decode cX1_add 19 = .ok (.aload_n 0, 1) := by decide +kernel
theorem dX1_add_20 : decode cX1_add 20 = .ok (.dup, 1) := by decide +kernel
theorem dX1_add_21 : decode cX1_add 21 = .ok (.getfield 15, 3) := by decide +kernel
theorem dX1_add_24 : decode cX1_add 24 = .ok (.iconst 1, 1) := by decide +kernel
theorem dX1_add_25 : decode cX1_add 25 = .ok (.iadd, 1) := by decide +kernel
theorem dX1_add_26 : decode cX1_add 26 = .ok (.putfield 15, 3) := by decide +kernel
theorem dX1_add_29 : decode cX1_add 29 = .ok (.return_, 1) := by decide +kernel
theorem dX1_addGap_0 : decode cX1_addGap 0 = .ok (.aload_n 0, 1) := by decide +kernel
theorem dX1_addGap_1 : decode cX1_addGap 1 = .ok (.dup, 1) := by decide +kernel
theorem dX1_addGap_2 : decode cX1_addGap 2 = .ok (.getfield 19, 3) := by decide +kernel
theorem dX1_addGap_5 : decode cX1_addGap 5 = .ok (.iconst 1, 1) := by decide +kernel
theorem dX1_addGap_6 : decode cX1_addGap 6 = .ok (.iadd, 1) := by decide +kernel
theorem dX1_addGap_7 : decode cX1_addGap 7 = .ok (.putfield 19, 3) := by decide +kernel
theorem dX1_addGap_10 : decode cX1_addGap 10 = .ok (.aload_n 0, 1) := by decide +kernel
theorem dX1_addGap_11 : decode cX1_addGap 11 = .ok (.iconst 5, 1) := by decide +kernel
theorem dX1_addGap_12 : decode cX1_addGap 12 = .ok (.invokevirtual 22, 3) := by decide +kernel
theorem dX1_addGap_15 : decode cX1_addGap 15 = .ok (.return_, 1) := by decide +kernel
theorem dX1_endsWord_0 : decode cX1_endsWord 0 = .ok (.iload_n 1, 1) := by decide +kernel
theorem dX1_endsWord_1 : decode cX1_endsWord 1 = .ok (.aload_n 0, 1) := by decide +kernel
theorem dX1_endsWord_2 : decode cX1_endsWord 2 = .ok (.getfield 15, 3) := by decide +kernel
theorem dX1_endsWord_5 : decode cX1_endsWord 5 = .ok (.if_icmp .ge 13, 3) := by decide +kernel
theorem dX1_endsWord_8 : decode cX1_endsWord 8 = .ok (.aload_n 0, 1) := by decide +kernel
theorem dX1_endsWord_9 : decode cX1_endsWord 9 = .ok (.getfield 9, 3) := by decide +kernel
theorem dX1_endsWord_12 : decode cX1_endsWord 12 = .ok (.iload_n 1, 1) := by decide +kernel
theorem dX1_endsWord_13 : decode cX1_endsWord 13 = .ok (.iaload, 1) := by decide +kernel
theorem dX1_endsWord_14 : decode cX1_endsWord 14 = .ok (.iconst 5, 1) := by decide +kernel
theorem dX1_endsWord_15 : decode cX1_endsWord 15 = .ok (.if_icmp .ne 7, 3) := by decide +kernel
theorem dX1_endsWord_18 : decode cX1_endsWord 18 = .ok (.iconst 1, 1) := by decide +kernel
theorem dX1_endsWord_19 : decode cX1_endsWord 19 = .ok (.goto 4, 3) := by decide +kernel
theorem dX1_endsWord_22 : decode cX1_endsWord 22 = .ok (.iconst 0, 1) := by decide +kernel
theorem dX1_endsWord_23 : decode cX1_endsWord 23 = .ok (.ireturn, 1) := by decide +kernel
theorem dX2_init_0 : decode cX2_init 0 = .ok (.aload_n 0, 1) := by decide +kernel
theorem dX2_init_1 : decode cX2_init 1 = .ok (.invokespecial 3, 3) := by decide +kernel
theorem dX2_init_4 : decode cX2_init 4 = .ok (.aload_n 0, 1) := by decide +kernel
theorem dX2_init_5 : decode cX2_init 5 = .ok (.iconst 4, 1) := by decide +kernel
theorem dX2_init_6 : decode cX2_init 6 = .ok (.putfield 11, 3) := by decide +kernel
theorem dX2_init_9 : decode cX2_init 9 = .ok (.aload_n 0, 1) := by decide +kernel
theorem dX2_init_10 : decode cX2_init 10 = .ok (.iconst 4, 1) := by decide +kernel
theorem dX2_init_11 : decode cX2_init 11 = .ok (.putfield 15, 3) := by decide +kernel
theorem dX2_init_14 : decode cX2_init 14 = .ok (.aload_n 0, 1) := by decide +kernel
theorem dX2_init_15 : decode cX2_init 15 = .ok (.bipush 25, 2) := by decide +kernel
theorem dX2_init_17 : decode cX2_init 17 = .ok (.newarray .int, 2) := by decide +kernel
theorem dX2_init_19 : decode cX2_init 19 = .ok (.putfield 18, 3) := by decide +kernel
theorem dX2_init_22 : decode cX2_init 22 = .ok (.aload_n 0, 1) := by decide +kernel
theorem dX2_init_23 : decode cX2_init 23 = .ok (.bipush 41, 2) := by decide +kernel
theorem dX2_init_25 : decode cX2_init 25 = .ok (.newarray .int, 2) := by decide +kernel
theorem dX2_init_27 : decode cX2_init 27 = .ok (.putfield 22, 3) := by decide +kernel
theorem dX2_init_30 : decode cX2_init 30 = .ok (.aload_n 0, 1) := by decide +kernel
theorem dX2_init_31 : decode cX2_init 31 = .ok (.getfield 18, 3) := by decide +kernel
theorem dX2_init_34 : decode cX2_init 34 = .ok (.iconst 3, 1) := by decide +kernel
theorem dX2_init_35 : decode cX2_init 35 = .ok (.invokestatic 25, 3) := by decide +kernel
theorem dX2_init_38 : decode cX2_init 38 = .ok (.return_, 1) := by decide +kernel
theorem dX2_taking_0 : decode cX2_taking 0 = .ok (.iload_n 1, 1) := by decide +kernel
theorem dX2_taking_1 : decode cX2_taking 1 = .ok (.iload_n 2, 1) := by decide +kernel
theorem dX2_taking_2 : decode cX2_taking 2 = .ok (.if_icmp .ne 5, 3) := by decide +kernel
theorem dX2_taking_5 : decode cX2_taking 5 = .ok (.iconst 0, 1) := by decide +kernel
theorem dX2_taking_6 : decode cX2_taking 6 = .ok (.ireturn, 1) := by decide +kernel
theorem dX2_taking_7 : decode cX2_taking 7 = .ok (.iload_n 1, 1) := by decide +kernel
theorem dX2_taking_8 : decode cX2_taking 8 = .ok (.iconst 5, 1) := by decide +kernel
theorem dX2_taking_9 : decode cX2_taking 9 = .ok (.if_icmp .eq 8, 3) := by decide +kernel
theorem dX2_taking_12 : decode cX2_taking 12 = .ok (.iload_n 2, 1) := by decide +kernel
theorem dX2_taking_13 : decode cX2_taking 13 = .ok (.iconst 5, 1) := by decide +kernel
theorem dX2_taking_14 : decode cX2_taking 14 = .ok (.if_icmp .ne 8, 3) := by decide +kernel
theorem dX2_taking_17 : decode cX2_taking 17 = .ok (.ldc 31, 2) := by decide +kernel
theorem dX2_taking_19 : decode cX2_taking 19 = .ok (.goto 13, 3) := by decide +kernel
theorem dX2_taking_22 : decode cX2_taking 22 = .ok (.aload_n 0, 1) := by decide +kernel
theorem dX2_taking_23 : decode cX2_taking 23 = .ok (.getfield 18, 3) := by decide +kernel
theorem dX2_taking_26 : decode cX2_taking 26 = .ok (.iload_n 1, 1) := by decide +kernel
theorem dX2_taking_27 : decode cX2_taking 27 = .ok (.iconst 5, 1) := by decide +kernel
theorem dX2_taking_28 : decode cX2_taking 28 = .ok (.imul, 1) := by decide +kernel
theorem dX2_taking_29 : decode cX2_taking 29 = .ok (.iload_n 2, 1) := by decide +kernel
theorem dX2_taking_30 : decode cX2_taking 30 = .ok (.iadd, 1) := by decide +kernel
theorem dX2_taking_31 : decode cX2_taking 31 = .ok (.iaload, 1) := by decide +kernel
theorem dX2_taking_32 : decode cX2_taking 32 = .ok (.ireturn, 1) := by decide +kernel
theorem dX2_missing_0 : decode cX2_missing 0 = .ok (.iload_n 1, 1) := by decide +kernel
theorem dX2_missing_1 : decode cX2_missing 1 = .ok (.iconst 5, 1) := by decide +kernel
theorem dX2_missing_2 : decode cX2_missing 2 = .ok (.if_icmp .ne 8, 3) := by decide +kernel
theorem dX2_missing_5 : decode cX2_missing 5 = .ok (.bipush 9, 2) := by decide +kernel
theorem dX2_missing_7 : decode cX2_missing 7 = .ok (.goto 7, 3) := by decide +kernel
theorem dX2_missing_10 : decode cX2_missing 10 = .ok (.aload_n 0, 1) := by decide +kernel
theorem dX2_missing_11 : decode cX2_missing 11 = .ok (.getfield 11, 3) := by decide +kernel
theorem dX2_missing_14 : decode cX2_missing 14 = .ok (.ireturn, 1) := by decide +kernel
theorem dX2_ghostOf_0 : decode cX2_ghostOf 0 = .ok (.iload_n 1, 1) := by decide +kernel
theorem dX2_ghostOf_1 : decode cX2_ghostOf 1 = .ok (.iconst 5, 1) := by decide +kernel
theorem dX2_ghostOf_2 : decode cX2_ghostOf 2 = .ok (.if_icmp .ne 8, 3) := by decide +kernel
theorem dX2_ghostOf_5 : decode cX2_ghostOf 5 = .ok (.bipush 9, 2) := by decide +kernel
theorem dX2_ghostOf_7 : decode cX2_ghostOf 7 = .ok (.goto 7, 3) := by decide +kernel
theorem dX2_ghostOf_10 : decode cX2_ghostOf 10 = .ok (.aload_n 0, 1) := by decide +kernel
theorem dX2_ghostOf_11 : decode cX2_ghostOf 11 = .ok (.getfield 15, 3) := by decide +kernel
theorem dX2_ghostOf_14 : decode cX2_ghostOf 14 = .ok (.ireturn, 1) := by decide +kernel
theorem dX2_fromRowToRow_0 : decode cX2_fromRowToRow 0 = .ok (.aload_n 0, 1) := by decide +kernel
theorem dX2_fromRowToRow_1 : decode cX2_fromRowToRow 1 = .ok (.getfield 22, 3) := by decide +kernel
theorem dX2_fromRowToRow_4 : decode cX2_fromRowToRow 4 = .ok (.iconst 0, 1) := by decide +kernel
theorem dX2_fromRowToRow_5 : decode cX2_fromRowToRow 5 = .ok (.iconst 0, 1) := by decide +kernel
theorem dX2_fromRowToRow_6 : decode cX2_fromRowToRow 6 = .ok (.iastore, 1) := by decide +kernel
theorem dX2_fromRowToRow_7 : decode cX2_fromRowToRow 7 = .ok (.iconst 0, 1) := by decide +kernel
theorem dX2_fromRowToRow_8 : decode cX2_fromRowToRow 8 = .ok (.istore 7, 2) := by decide +kernel
theorem dX2_fromRowToRow_10 : decode cX2_fromRowToRow 10 = .ok (.iload 7, 2) := by decide +kernel
theorem dX2_fromRowToRow_12 : decode cX2_fromRowToRow 12 = .ok (.iload 6, 2) := by decide +kernel
theorem dX2_fromRowToRow_14 : decode cX2_fromRowToRow 14 = .ok (.if_icmp .ge 38, 3) := by decide +kernel
theorem dX2_fromRowToRow_17 : decode cX2_fromRowToRow 17 = .ok (.aload_n 0, 1) := by decide +kernel
theorem dX2_fromRowToRow_18 : decode cX2_fromRowToRow 18 = .ok (.getfield 22, 3) := by decide +kernel
theorem dX2_fromRowToRow_21 : decode cX2_fromRowToRow 21 = .ok (.iload 7, 2) := by decide +kernel
theorem dX2_fromRowToRow_23 : decode cX2_fromRowToRow 23 = .ok (.iconst 1, 1) := by decide +kernel
theorem dX2_fromRowToRow_24 : decode cX2_fromRowToRow 24 = .ok (.iadd, 1) := by decide +kernel
theorem dX2_fromRowToRow_25 : decode cX2_fromRowToRow 25 = .ok (.aload_n 0, 1) := by decide +kernel
theorem dX2_fromRowToRow_26 : decode cX2_fromRowToRow 26 = .ok (.getfield 22, 3) := by decide +kernel
theorem dX2_fromRowToRow_29 : decode cX2_fromRowToRow 29 = .ok (.iload 7, 2) := by decide +kernel
theorem dX2_fromRowToRow_31 : decode cX2_fromRowToRow 31 = .ok (.iaload, 1) := by decide +kernel
theorem dX2_fromRowToRow_32 : decode cX2_fromRowToRow 32 = .ok (.aload_n 0, 1) := by decide +kernel
theorem dX2_fromRowToRow_33 : decode cX2_fromRowToRow 33 = .ok (.aload 4, 2) := by decide +kernel
theorem dX2_fromRowToRow_35 : decode cX2_fromRowToRow 35 = .ok (.iload 5, 2) := by decide +kernel
theorem dX2_fromRowToRow_37 : decode cX2_fromRowToRow 37 = .ok (.iload 7, 2) := by decide +kernel
theorem dX2_fromRowToRow_39 : decode cX2_fromRowToRow 39 = .ok (.iadd, 1) := by decide +kernel
theorem dX2_fromRowToRow_40 : decode cX2_fromRowToRow 40 = .ok (.iaload, 1) := by decide +kernel
theorem dX2_fromRowToRow_41 : decode cX2_fromRowToRow 41 = .ok (.invokevirtual 32, 3) := by decide +kernel
theorem dX2_fromRowToRow_44 : decode cX2_fromRowToRow 44 = .ok (.iadd, 1) := by decide +kernel
theorem dX2_fromRowToRow_45 : decode cX2_fromRowToRow 45 = .ok (.iastore, 1) := by decide +kernel
theorem dX2_fromRowToRow_46 : decode cX2_fromRowToRow 46 = .ok (.iinc 7 1, 3) := by decide +kernel
theorem dX2_fromRowToRow_49 : decode cX2_fromRowToRow 49 = .ok (.goto (-39), 3) := by decide +kernel
theorem dX2_fromRowToRow_52 : decode cX2_fromRowToRow 52 = .ok (.iconst 0, 1) := by decide +kernel
theorem dX2_fromRowToRow_53 : decode cX2_fromRowToRow 53 = .ok (.istore 7, 2) := by decide +kernel
theorem dX2_fromRowToRow_55 : decode cX2_fromRowToRow 55 = .ok (.iload 7, 2) := by decide +kernel
theorem dX2_fromRowToRow_57 : decode cX2_fromRowToRow 57 = .ok (.iload_n 3, 1) := by decide +kernel
theorem dX2_fromRowToRow_58 : decode cX2_fromRowToRow 58 = .ok (.if_icmp .ge 145, 3) := by decide +kernel
theorem dX2_fromRowToRow_61 : decode cX2_fromRowToRow 61 = .ok (.aload_n 1, 1) := by decide +kernel
theorem dX2_fromRowToRow_62 : decode cX2_fromRowToRow 62 = .ok (.iload_n 2, 1) := by decide +kernel
theorem dX2_fromRowToRow_63 : decode cX2_fromRowToRow 63 = .ok (.iload 7, 2) := by decide +kernel
theorem dX2_fromRowToRow_65 : decode cX2_fromRowToRow 65 = .ok (.iadd, 1) := by decide +kernel
theorem dX2_fromRowToRow_66 : decode cX2_fromRowToRow 66 = .ok (.iaload, 1) := by decide +kernel
theorem dX2_fromRowToRow_67 : decode cX2_fromRowToRow 67 = .ok (.istore 8, 2) := by decide +kernel
theorem dX2_fromRowToRow_69 : decode cX2_fromRowToRow 69 = .ok (.aload_n 0, 1) := by decide +kernel
theorem dX2_fromRowToRow_70 : decode cX2_fromRowToRow 70 = .ok (.getfield 22, 3) := by decide +kernel
theorem dX2_fromRowToRow_73 : decode cX2_fromRowToRow 73 = .ok (.iconst 0, 1) := by decide +kernel
theorem dX2_fromRowToRow_74 : decode cX2_fromRowToRow 74 = .ok (.iaload, 1) := by decide +kernel
theorem dX2_fromRowToRow_75 : decode cX2_fromRowToRow 75 = .ok (.istore 9, 2) := by decide +kernel
theorem dX2_fromRowToRow_77 : decode cX2_fromRowToRow 77 = .ok (.aload_n 0, 1) := by decide +kernel
theorem dX2_fromRowToRow_78 : decode cX2_fromRowToRow 78 = .ok (.getfield 22, 3) := by decide +kernel
theorem dX2_fromRowToRow_81 : decode cX2_fromRowToRow 81 = .ok (.iconst 0, 1) := by decide +kernel
theorem dX2_fromRowToRow_82 : decode cX2_fromRowToRow 82 = .ok (.dup2, 1) := by decide +kernel
theorem dX2_fromRowToRow_83 : decode cX2_fromRowToRow 83 = .ok (.iaload, 1) := by decide +kernel
theorem dX2_fromRowToRow_84 : decode cX2_fromRowToRow 84 = .ok (.aload_n 0, 1) := by decide +kernel
theorem dX2_fromRowToRow_85 : decode cX2_fromRowToRow 85 = .ok (.iload 8, 2) := by decide +kernel
theorem dX2_fromRowToRow_87 : decode cX2_fromRowToRow 87 = .ok (.invokevirtual 36, 3) := by decide +kernel
theorem dX2_fromRowToRow_90 : decode cX2_fromRowToRow 90 = .ok (.iadd, 1) := by decide +kernel
theorem dX2_fromRowToRow_91 : decode cX2_fromRowToRow 91 = .ok (.iastore, 1) := by decide +kernel
theorem dX2_fromRowToRow_92 : decode cX2_fromRowToRow 92 = .ok (.iconst 0, 1) := by decide +kernel
theorem dX2_fromRowToRow_93 : decode cX2_fromRowToRow 93 = .ok (.istore 10, 2) := by decide +kernel
theorem dX2_fromRowToRow_95 : decode cX2_fromRowToRow 95 = .ok (.iload 10, 2) := by decide +kernel
theorem dX2_fromRowToRow_97 : decode cX2_fromRowToRow 97 = .ok (.iload 6, 2) := by decide +kernel
theorem dX2_fromRowToRow_99 : decode cX2_fromRowToRow 99 = .ok (.if_icmp .ge 98, 3) := by decide +kernel
theorem dX2_fromRowToRow_102 : decode cX2_fromRowToRow 102 = .ok (.aload 4, 2) := by decide +kernel
theorem dX2_fromRowToRow_104 : decode cX2_fromRowToRow 104 = .ok (.iload 5, 2) := by decide +kernel
theorem dX2_fromRowToRow_106 : decode cX2_fromRowToRow 106 = .ok (.iload 10, 2) := by decide +kernel
theorem dX2_fromRowToRow_108 : decode cX2_fromRowToRow 108 = .ok (.iadd, 1) := by decide +kernel
theorem dX2_fromRowToRow_109 : decode cX2_fromRowToRow 109 = .ok (.iaload, 1) := by decide +kernel
theorem dX2_fromRowToRow_110 : decode cX2_fromRowToRow 110 = .ok (.istore 11, 2) := by decide +kernel
theorem dX2_fromRowToRow_112 : decode cX2_fromRowToRow 112 = .ok (.iload 9, 2) := by decide +kernel
theorem dX2_fromRowToRow_114 : decode cX2_fromRowToRow 114 = .ok (.aload_n 0, 1) := by decide +kernel
theorem dX2_fromRowToRow_115 : decode cX2_fromRowToRow 115 = .ok (.iload 8, 2) := by decide +kernel
theorem dX2_fromRowToRow_117 : decode cX2_fromRowToRow 117 = .ok (.iload 11, 2) := by decide +kernel
theorem dX2_fromRowToRow_119 : decode cX2_fromRowToRow 119 = .ok (.invokevirtual 39, 3) := by decide +kernel
theorem dX2_fromRowToRow_122 : decode cX2_fromRowToRow 122 = .ok (.iadd, 1) := by decide +kernel
theorem dX2_fromRowToRow_123 : decode cX2_fromRowToRow 123 = .ok (.istore 12, 2) := by decide +kernel
theorem dX2_fromRowToRow_125 : decode cX2_fromRowToRow 125 = .ok (.aload_n 0, 1) := by decide +kernel
theorem dX2_fromRowToRow_126 : decode cX2_fromRowToRow 126 = .ok (.getfield 22, 3) := by decide +kernel
theorem dX2_fromRowToRow_129 : decode cX2_fromRowToRow 129 = .ok (.iload 10, 2) := by decide +kernel
theorem dX2_fromRowToRow_131 : decode cX2_fromRowToRow 131 = .ok (.iaload, 1) := by decide +kernel
theorem dX2_fromRowToRow_132 : decode cX2_fromRowToRow 132 = .ok (.aload_n 0, 1) := by decide +kernel
theorem dX2_fromRowToRow_133 : decode cX2_fromRowToRow 133 = .ok (.iload 11, 2) := by decide +kernel
theorem dX2_fromRowToRow_135 : decode cX2_fromRowToRow 135 = .ok (.invokevirtual 32, 3) := by decide +kernel
theorem dX2_fromRowToRow_138 : decode cX2_fromRowToRow 138 = .ok (.iadd, 1) := by decide +kernel
theorem dX2_fromRowToRow_139 : decode cX2_fromRowToRow 139 = .ok (.istore 13, 2) := by decide +kernel
theorem dX2_fromRowToRow_141 : decode cX2_fromRowToRow 141 = .ok (.aload_n 0, 1) := by decide +kernel
theorem dX2_fromRowToRow_142 : decode cX2_fromRowToRow 142 = .ok (.getfield 22, 3) := by decide +kernel
theorem dX2_fromRowToRow_145 : decode cX2_fromRowToRow 145 = .ok (.iload 10, 2) := by decide +kernel
theorem dX2_fromRowToRow_147 : decode cX2_fromRowToRow 147 = .ok (.iconst 1, 1) := by decide +kernel
theorem dX2_fromRowToRow_148 : decode cX2_fromRowToRow 148 = .ok (.iadd, 1) := by decide +kernel
theorem dX2_fromRowToRow_149 : decode cX2_fromRowToRow 149 = .ok (.iaload, 1) := by decide +kernel
theorem dX2_fromRowToRow_150 : decode cX2_fromRowToRow 150 = .ok (.aload_n 0, 1) := by decide +kernel
theorem dX2_fromRowToRow_151 : decode cX2_fromRowToRow 151 = .ok (.iload 8, 2) := by decide +kernel
theorem dX2_fromRowToRow_153 : decode cX2_fromRowToRow 153 = .ok (.invokevirtual 36, 3) := by decide +kernel
theorem dX2_fromRowToRow_156 : decode cX2_fromRowToRow 156 = .ok (.iadd, 1) := by decide +kernel
theorem dX2_fromRowToRow_157 : decode cX2_fromRowToRow 157 = .ok (.istore 14, 2) := by decide +kernel
theorem dX2_fromRowToRow_159 : decode cX2_fromRowToRow 159 = .ok (.aload_n 0, 1) := by decide +kernel
theorem dX2_fromRowToRow_160 : decode cX2_fromRowToRow 160 = .ok (.getfield 22, 3) := by decide +kernel
theorem dX2_fromRowToRow_163 : decode cX2_fromRowToRow 163 = .ok (.iload 10, 2) := by decide +kernel
theorem dX2_fromRowToRow_165 : decode cX2_fromRowToRow 165 = .ok (.iconst 1, 1) := by decide +kernel
theorem dX2_fromRowToRow_166 : decode cX2_fromRowToRow 166 = .ok (.iadd, 1) := by decide +kernel
theorem dX2_fromRowToRow_167 : decode cX2_fromRowToRow 167 = .ok (.iaload, 1) := by decide +kernel
theorem dX2_fromRowToRow_168 : decode cX2_fromRowToRow 168 = .ok (.istore 9, 2) := by decide +kernel
theorem dX2_fromRowToRow_170 : decode cX2_fromRowToRow 170 = .ok (.aload_n 0, 1) := by decide +kernel
theorem dX2_fromRowToRow_171 : decode cX2_fromRowToRow 171 = .ok (.getfield 22, 3) := by decide +kernel
theorem dX2_fromRowToRow_174 : decode cX2_fromRowToRow 174 = .ok (.iload 10, 2) := by decide +kernel
theorem dX2_fromRowToRow_176 : decode cX2_fromRowToRow 176 = .ok (.iconst 1, 1) := by decide +kernel
theorem dX2_fromRowToRow_177 : decode cX2_fromRowToRow 177 = .ok (.iadd, 1) := by decide +kernel
theorem dX2_fromRowToRow_178 : decode cX2_fromRowToRow 178 = .ok (.iload 12, 2) := by decide +kernel
theorem dX2_fromRowToRow_180 : decode cX2_fromRowToRow 180 = .ok (.iload 13, 2) := by decide +kernel
theorem dX2_fromRowToRow_182 : decode cX2_fromRowToRow 182 = .ok (.iload 14, 2) := by decide +kernel
theorem dX2_fromRowToRow_184 : decode cX2_fromRowToRow 184 = .ok (.invokestatic 43, 3) := by decide +kernel
theorem dX2_fromRowToRow_187 : decode cX2_fromRowToRow 187 = .ok (.invokestatic 43, 3) := by decide +kernel
theorem dX2_fromRowToRow_190 : decode cX2_fromRowToRow 190 = .ok (.iastore, 1) := by decide +kernel
theorem dX2_fromRowToRow_191 : decode cX2_fromRowToRow 191 = .ok (.iinc 10 1, 3) := by decide +kernel
theorem dX2_fromRowToRow_194 : decode cX2_fromRowToRow 194 = .ok (.goto (-99), 3) := by decide +kernel
theorem dX2_fromRowToRow_197 : decode cX2_fromRowToRow 197 = .ok (.iinc 7 1, 3) := by decide +kernel
theorem dX2_fromRowToRow_200 : decode cX2_fromRowToRow 200 = .ok (.goto (-145), 3) := by decide +kernel
theorem dX2_fromRowToRow_203 : decode cX2_fromRowToRow 203 = .ok (.aload_n 0, 1) := by decide +kernel
theorem dX2_fromRowToRow_204 : decode cX2_fromRowToRow 204 = .ok (.getfield 22, 3) := by decide +kernel
theorem dX2_fromRowToRow_207 : decode cX2_fromRowToRow 207 = .ok (.iload 6, 2) := by decide +kernel
theorem dX2_fromRowToRow_209 : decode cX2_fromRowToRow 209 = .ok (.iaload, 1) := by decide +kernel
theorem dX2_fromRowToRow_210 : decode cX2_fromRowToRow 210 = .ok (.ireturn, 1) := by decide +kernel
theorem dX3_init_0 : decode cX3_init 0 = .ok (.aload_n 0, 1) := by decide +kernel
theorem dX3_init_1 : decode cX3_init 1 = .ok (.invokespecial 3, 3) := by decide +kernel
theorem dX3_init_4 : decode cX3_init 4 = .ok (.return_, 1) := by decide +kernel
theorem dX3_tieKnot_0 : decode cX3_tieKnot 0 = .ok (.aload_n 0, 1) := by decide +kernel
theorem dX3_tieKnot_1 : decode cX3_tieKnot 1 = .ok (.dup, 1) := by decide +kernel
theorem dX3_tieKnot_2 : decode cX3_tieKnot 2 = .ok (.getfield 9, 3) := by decide +kernel
theorem dX3_tieKnot_5 : decode cX3_tieKnot 5 = .ok (.iconst 1, 1) := by decide +kernel
theorem dX3_tieKnot_6 : decode cX3_tieKnot 6 = .ok (.iadd, 1) := by decide +kernel
theorem dX3_tieKnot_7 : decode cX3_tieKnot 7 = .ok (.putfield 9, 3) := by decide +kernel
theorem dX3_tieKnot_10 : decode cX3_tieKnot 10 = .ok (.aload_n 0, 1) := by decide +kernel
theorem dX3_tieKnot_11 : decode cX3_tieKnot 11 = .ok (.getfield 15, 3) := by decide +kernel
theorem dX3_tieKnot_14 : decode cX3_tieKnot 14 = .ok (.ifCond .eq 38, 3) := by decide +kernel
theorem dX3_tieKnot_17 : decode cX3_tieKnot 17 = .ok (.aload_n 0, 1) := by decide +kernel
theorem dX3_tieKnot_18 : decode cX3_tieKnot 18 = .ok (.getfield 9, 3) := by decide +kernel
theorem dX3_tieKnot_21 : decode cX3_tieKnot 21 = .ok (.aload_n 0, 1) := by decide +kernel
theorem dX3_tieKnot_22 : decode cX3_tieKnot 22 = .ok (.getfield 15, 3) := by decide +kernel
theorem dX3_tieKnot_25 : decode cX3_tieKnot 25 = .ok (.irem, 1) := by decide +kernel
theorem dX3_tieKnot_26 : decode cX3_tieKnot 26 = .ok (.ifCond .ne 26, 3) := by decide +kernel
theorem dX3_tieKnot_29 : decode cX3_tieKnot 29 = .ok (.aload_n 0, 1) := by decide +kernel
theorem dX3_tieKnot_30 : decode cX3_tieKnot 30 = .ok (.dup, 1) := by decide +kernel
theorem dX3_tieKnot_31 : decode cX3_tieKnot 31 = .ok (.getfield 18, 3) := by decide +kernel
theorem dX3_tieKnot_34 : decode cX3_tieKnot 34 = .ok (.iconst 1, 1) := by decide +kernel
theorem dX3_tieKnot_35 : decode cX3_tieKnot 35 = .ok (.iadd, 1) := by decide +kernel
theorem dX3_tieKnot_36 : decode cX3_tieKnot 36 = .ok (.putfield 18, 3) := by decide +kernel
theorem dX3_tieKnot_39 : decode cX3_tieKnot 39 = .ok (.aload_n 1, 1) := by decide +kernel
theorem dX3_tieKnot_40 : decode cX3_tieKnot 40 = .ok (.dup, 1) := by decide +kernel
theorem dX3_tieKnot_41 : decode cX3_tieKnot 41 = .ok (.getfield 21, 3) := by decide +kernel
theorem dX3_tieKnot_44 : decode cX3_tieKnot 44 = .ok (.iconst 1, 1) := by decide +kernel
theorem dX3_tieKnot_45 : decode cX3_tieKnot 45 = .ok (.iadd, 1) := by decide +kernel
theorem dX3_tieKnot_46 : decode cX3_tieKnot 46 = .ok (.putfield 21, 3) := by decide +kernel
