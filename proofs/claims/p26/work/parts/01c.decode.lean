theorem dX4_offerSlot_32 : decode cX4_offerSlot 32 = .ok (.if_icmp .ne 42, 3) := by decide +kernel
theorem dX4_offerSlot_35 : decode cX4_offerSlot 35 = .ok (.aload_n 0, 1) := by decide +kernel
theorem dX4_offerSlot_36 : decode cX4_offerSlot 36 = .ok (.aload_n 0, 1) := by decide +kernel
theorem dX4_offerSlot_37 : decode cX4_offerSlot 37 = .ok (.getfield 24, 3) := by decide +kernel
theorem dX4_offerSlot_40 : decode cX4_offerSlot 40 = .ok (.iload_n 2, 1) := by decide +kernel
theorem dX4_offerSlot_41 : decode cX4_offerSlot 41 = .ok (.iaload, 1) := by decide +kernel
theorem dX4_offerSlot_42 : decode cX4_offerSlot 42 = .ok (.aload_n 0, 1) := by decide +kernel
theorem dX4_offerSlot_43 : decode cX4_offerSlot 43 = .ok (.getfield 24, 3) := by decide +kernel
theorem dX4_offerSlot_46 : decode cX4_offerSlot 46 = .ok (.iload_n 1, 1) := by decide +kernel
theorem dX4_offerSlot_47 : decode cX4_offerSlot 47 = .ok (.iaload, 1) := by decide +kernel
theorem dX4_offerSlot_48 : decode cX4_offerSlot 48 = .ok (.invokevirtual 102, 3) := by decide +kernel
theorem dX4_offerSlot_51 : decode cX4_offerSlot 51 = .ok (.ifCond .eq 23, 3) := by decide +kernel
theorem dX4_offerSlot_54 : decode cX4_offerSlot 54 = .ok (.aload_n 0, 1) := by decide +kernel
theorem dX4_offerSlot_55 : decode cX4_offerSlot 55 = .ok (.getfield 21, 3) := by decide +kernel
theorem dX4_offerSlot_58 : decode cX4_offerSlot 58 = .ok (.iload_n 1, 1) := by decide +kernel
theorem dX4_offerSlot_59 : decode cX4_offerSlot 59 = .ok (.iload 4, 2) := by decide +kernel
theorem dX4_offerSlot_61 : decode cX4_offerSlot 61 = .ok (.iastore, 1) := by decide +kernel
theorem dX4_offerSlot_62 : decode cX4_offerSlot 62 = .ok (.aload_n 0, 1) := by decide +kernel
theorem dX4_offerSlot_63 : decode cX4_offerSlot 63 = .ok (.getfield 24, 3) := by decide +kernel
theorem dX4_offerSlot_66 : decode cX4_offerSlot 66 = .ok (.iload_n 1, 1) := by decide +kernel
theorem dX4_offerSlot_67 : decode cX4_offerSlot 67 = .ok (.aload_n 0, 1) := by decide +kernel
theorem dX4_offerSlot_68 : decode cX4_offerSlot 68 = .ok (.getfield 24, 3) := by decide +kernel
theorem dX4_offerSlot_71 : decode cX4_offerSlot 71 = .ok (.iload_n 2, 1) := by decide +kernel
theorem dX4_offerSlot_72 : decode cX4_offerSlot 72 = .ok (.iaload, 1) := by decide +kernel
theorem dX4_offerSlot_73 : decode cX4_offerSlot 73 = .ok (.iastore, 1) := by decide +kernel
theorem dX4_offerSlot_74 : decode cX4_offerSlot 74 = .ok (.return_, 1) := by decide +kernel
theorem dX4_exactRowsOf_0 : decode cX4_exactRowsOf 0 = .ok (.lconst 1, 1) := by decide +kernel
theorem dX4_exactRowsOf_1 : decode cX4_exactRowsOf 1 = .ok (.lstore_n 2, 1) := by decide +kernel
theorem dX4_exactRowsOf_2 : decode cX4_exactRowsOf 2 = .ok (.iconst 0, 1) := by decide +kernel
theorem dX4_exactRowsOf_3 : decode cX4_exactRowsOf 3 = .ok (.istore 4, 2) := by decide +kernel
theorem dX4_exactRowsOf_5 : decode cX4_exactRowsOf 5 = .ok (.iconst 0, 1) := by decide +kernel
theorem dX4_exactRowsOf_6 : decode cX4_exactRowsOf 6 = .ok (.istore 5, 2) := by decide +kernel
theorem dX4_exactRowsOf_8 : decode cX4_exactRowsOf 8 = .ok (.iload 5, 2) := by decide +kernel
theorem dX4_exactRowsOf_10 : decode cX4_exactRowsOf 10 = .ok (.aload_n 1, 1) := by decide +kernel
theorem dX4_exactRowsOf_11 : decode cX4_exactRowsOf 11 = .ok (.getfield 38, 3) := by decide +kernel
theorem dX4_exactRowsOf_14 : decode cX4_exactRowsOf 14 = .ok (.if_icmp .gt 43, 3) := by decide +kernel
theorem dX4_exactRowsOf_17 : decode cX4_exactRowsOf 17 = .ok (.aload_n 1, 1) := by decide +kernel
theorem dX4_exactRowsOf_18 : decode cX4_exactRowsOf 18 = .ok (.iload 5, 2) := by decide +kernel
theorem dX4_exactRowsOf_20 : decode cX4_exactRowsOf 20 = .ok (.invokevirtual 44, 3) := by decide +kernel
theorem dX4_exactRowsOf_23 : decode cX4_exactRowsOf 23 = .ok (.ifCond .eq 28, 3) := by decide +kernel
theorem dX4_exactRowsOf_26 : decode cX4_exactRowsOf 26 = .ok (.lload_n 2, 1) := by decide +kernel
theorem dX4_exactRowsOf_27 : decode cX4_exactRowsOf 27 = .ok (.aload_n 0, 1) := by decide +kernel
theorem dX4_exactRowsOf_28 : decode cX4_exactRowsOf 28 = .ok (.aload_n 1, 1) := by decide +kernel
theorem dX4_exactRowsOf_29 : decode cX4_exactRowsOf 29 = .ok (.iload 4, 2) := by decide +kernel
theorem dX4_exactRowsOf_31 : decode cX4_exactRowsOf 31 = .ok (.iload 5, 2) := by decide +kernel
theorem dX4_exactRowsOf_33 : decode cX4_exactRowsOf 33 = .ok (.invokevirtual 109, 3) := by decide +kernel
theorem dX4_exactRowsOf_36 : decode cX4_exactRowsOf 36 = .ok (.i2l, 1) := by decide +kernel
theorem dX4_exactRowsOf_37 : decode cX4_exactRowsOf 37 = .ok (.lmul, 1) := by decide +kernel
theorem dX4_exactRowsOf_38 : decode cX4_exactRowsOf 38 = .ok (.ldc2_w 113, 3) := by decide +kernel
theorem dX4_exactRowsOf_41 : decode cX4_exactRowsOf 41 = .ok (.invokestatic 115, 3) := by decide +kernel
theorem dX4_exactRowsOf_44 : decode cX4_exactRowsOf 44 = .ok (.lstore_n 2, 1) := by decide +kernel
theorem dX4_exactRowsOf_45 : decode cX4_exactRowsOf 45 = .ok (.iload 5, 2) := by decide +kernel
theorem dX4_exactRowsOf_47 : decode cX4_exactRowsOf 47 = .ok (.iconst 1, 1) := by decide +kernel
theorem dX4_exactRowsOf_48 : decode cX4_exactRowsOf 48 = .ok (.iadd, 1) := by decide +kernel
theorem dX4_exactRowsOf_49 : decode cX4_exactRowsOf 49 = .ok (.istore 4, 2) := by decide +kernel
theorem dX4_exactRowsOf_51 : decode cX4_exactRowsOf 51 = .ok (.iinc 5 1, 3) := by decide +kernel
theorem dX4_exactRowsOf_54 : decode cX4_exactRowsOf 54 = .ok (.goto (-46), 3) := by decide +kernel
theorem dX4_exactRowsOf_57 : decode cX4_exactRowsOf 57 = .ok (.lload_n 2, 1) := by decide +kernel
theorem dX4_exactRowsOf_58 : decode cX4_exactRowsOf 58 = .ok (.l2i, 1) := by decide +kernel
theorem dX4_exactRowsOf_59 : decode cX4_exactRowsOf 59 = .ok (.ireturn, 1) := by decide +kernel
theorem dX4_exactRowsOfWord_0 : decode cX4_exactRowsOfWord 0 = .ok (.aload_n 0, 1) := by decide +kernel
theorem dX4_exactRowsOfWord_1 : decode cX4_exactRowsOfWord 1 = .ok (.getfield 27, 3) := by decide +kernel
theorem dX4_exactRowsOfWord_4 : decode cX4_exactRowsOfWord 4 = .ok (.iload_n 3, 1) := by decide +kernel
theorem dX4_exactRowsOfWord_5 : decode cX4_exactRowsOfWord 5 = .ok (.iconst 1, 1) := by decide +kernel
theorem dX4_exactRowsOfWord_6 : decode cX4_exactRowsOfWord 6 = .ok (.iastore, 1) := by decide +kernel
theorem dX4_exactRowsOfWord_7 : decode cX4_exactRowsOfWord 7 = .ok (.iload_n 3, 1) := by decide +kernel
theorem dX4_exactRowsOfWord_8 : decode cX4_exactRowsOfWord 8 = .ok (.iconst 1, 1) := by decide +kernel
theorem dX4_exactRowsOfWord_9 : decode cX4_exactRowsOfWord 9 = .ok (.isub, 1) := by decide +kernel
theorem dX4_exactRowsOfWord_10 : decode cX4_exactRowsOfWord 10 = .ok (.istore 4, 2) := by decide +kernel
theorem dX4_exactRowsOfWord_12 : decode cX4_exactRowsOfWord 12 = .ok (.iload 4, 2) := by decide +kernel
theorem dX4_exactRowsOfWord_14 : decode cX4_exactRowsOfWord 14 = .ok (.iload_n 2, 1) := by decide +kernel
theorem dX4_exactRowsOfWord_15 : decode cX4_exactRowsOfWord 15 = .ok (.if_icmp .lt 78, 3) := by decide +kernel
theorem dX4_exactRowsOfWord_18 : decode cX4_exactRowsOfWord 18 = .ok (.iconst 0, 1) := by decide +kernel
theorem dX4_exactRowsOfWord_19 : decode cX4_exactRowsOfWord 19 = .ok (.istore 5, 2) := by decide +kernel
theorem dX4_exactRowsOfWord_21 : decode cX4_exactRowsOfWord 21 = .ok (.iconst 0, 1) := by decide +kernel
theorem dX4_exactRowsOfWord_22 : decode cX4_exactRowsOfWord 22 = .ok (.istore 6, 2) := by decide +kernel
theorem dX4_exactRowsOfWord_24 : decode cX4_exactRowsOfWord 24 = .ok (.iload 6, 2) := by decide +kernel
theorem dX4_exactRowsOfWord_26 : decode cX4_exactRowsOfWord 26 = .ok (.bipush 12, 2) := by decide +kernel
theorem dX4_exactRowsOfWord_28 : decode cX4_exactRowsOfWord 28 = .ok (.if_icmp .ge 45, 3) := by decide +kernel
theorem dX4_exactRowsOfWord_31 : decode cX4_exactRowsOfWord 31 = .ok (.aload_n 0, 1) := by decide +kernel
theorem dX4_exactRowsOfWord_32 : decode cX4_exactRowsOfWord 32 = .ok (.iload 6, 2) := by decide +kernel
theorem dX4_exactRowsOfWord_34 : decode cX4_exactRowsOfWord 34 = .ok (.aload_n 1, 1) := by decide +kernel
theorem dX4_exactRowsOfWord_35 : decode cX4_exactRowsOfWord 35 = .ok (.iload 4, 2) := by decide +kernel
theorem dX4_exactRowsOfWord_37 : decode cX4_exactRowsOfWord 37 = .ok (.iload_n 3, 1) := by decide +kernel
theorem dX4_exactRowsOfWord_38 : decode cX4_exactRowsOfWord 38 = .ok (.invokevirtual 121, 3) := by decide +kernel
theorem dX4_exactRowsOfWord_41 : decode cX4_exactRowsOfWord 41 = .ok (.ifCond .eq 26, 3) := by decide +kernel
theorem dX4_exactRowsOfWord_44 : decode cX4_exactRowsOfWord 44 = .ok (.iload 5, 2) := by decide +kernel
theorem dX4_exactRowsOfWord_46 : decode cX4_exactRowsOfWord 46 = .ok (.aload_n 0, 1) := by decide +kernel
theorem dX4_exactRowsOfWord_47 : decode cX4_exactRowsOfWord 47 = .ok (.getfield 27, 3) := by decide +kernel
theorem dX4_exactRowsOfWord_50 : decode cX4_exactRowsOfWord 50 = .ok (.iload 4, 2) := by decide +kernel
theorem dX4_exactRowsOfWord_52 : decode cX4_exactRowsOfWord 52 = .ok (.aload_n 0, 1) := by decide +kernel
theorem dX4_exactRowsOfWord_53 : decode cX4_exactRowsOfWord 53 = .ok (.getfield 30, 3) := by decide +kernel
theorem dX4_exactRowsOfWord_56 : decode cX4_exactRowsOfWord 56 = .ok (.getfield 79, 3) := by decide +kernel
theorem dX4_exactRowsOfWord_59 : decode cX4_exactRowsOfWord 59 = .ok (.iload 6, 2) := by decide +kernel
theorem dX4_exactRowsOfWord_61 : decode cX4_exactRowsOfWord 61 = .ok (.iaload, 1) := by decide +kernel
theorem dX4_exactRowsOfWord_62 : decode cX4_exactRowsOfWord 62 = .ok (.iadd, 1) := by decide +kernel
theorem dX4_exactRowsOfWord_63 : decode cX4_exactRowsOfWord 63 = .ok (.iaload, 1) := by decide +kernel
theorem dX4_exactRowsOfWord_64 : decode cX4_exactRowsOfWord 64 = .ok (.iadd, 1) := by decide +kernel
theorem dX4_exactRowsOfWord_65 : decode cX4_exactRowsOfWord 65 = .ok (.istore 5, 2) := by decide +kernel
theorem dX4_exactRowsOfWord_67 : decode cX4_exactRowsOfWord 67 = .ok (.iinc 6 1, 3) := by decide +kernel
theorem dX4_exactRowsOfWord_70 : decode cX4_exactRowsOfWord 70 = .ok (.goto (-46), 3) := by decide +kernel
theorem dX4_exactRowsOfWord_73 : decode cX4_exactRowsOfWord 73 = .ok (.aload_n 0, 1) := by decide +kernel
theorem dX4_exactRowsOfWord_74 : decode cX4_exactRowsOfWord 74 = .ok (.getfield 27, 3) := by decide +kernel
theorem dX4_exactRowsOfWord_77 : decode cX4_exactRowsOfWord 77 = .ok (.iload 4, 2) := by decide +kernel
theorem dX4_exactRowsOfWord_79 : decode cX4_exactRowsOfWord 79 = .ok (.iload 5, 2) := by decide +kernel
theorem dX4_exactRowsOfWord_81 : decode cX4_exactRowsOfWord 81 = .ok (.ldc 125, 2) := by decide +kernel
theorem dX4_exactRowsOfWord_83 : decode cX4_exactRowsOfWord 83 = .ok (.invokestatic 126, 3) := by decide +kernel
theorem dX4_exactRowsOfWord_86 : decode cX4_exactRowsOfWord 86 = .ok (.iastore, 1) := by decide +kernel
theorem dX4_exactRowsOfWord_87 : decode cX4_exactRowsOfWord 87 = .ok (.iinc 4 (-1), 3) := by decide +kernel
theorem dX4_exactRowsOfWord_90 : decode cX4_exactRowsOfWord 90 = .ok (.goto (-78), 3) := by decide +kernel
theorem dX4_exactRowsOfWord_93 : decode cX4_exactRowsOfWord 93 = .ok (.aload_n 0, 1) := by decide +kernel
theorem dX4_exactRowsOfWord_94 : decode cX4_exactRowsOfWord 94 = .ok (.getfield 27, 3) := by decide +kernel
theorem dX4_exactRowsOfWord_97 : decode cX4_exactRowsOfWord 97 = .ok (.iload_n 2, 1) := by decide +kernel
theorem dX4_exactRowsOfWord_98 : decode cX4_exactRowsOfWord 98 = .ok (.iaload, 1) := by decide +kernel
theorem dX4_exactRowsOfWord_99 : decode cX4_exactRowsOfWord 99 = .ok (.ireturn, 1) := by decide +kernel
theorem dX4_stands_0 : decode cX4_stands 0 = .ok (.aload_n 0, 1) := by decide +kernel
theorem dX4_stands_1 : decode cX4_stands 1 = .ok (.getfield 30, 3) := by decide +kernel
theorem dX4_stands_4 : decode cX4_stands 4 = .ok (.getfield 79, 3) := by decide +kernel
theorem dX4_stands_7 : decode cX4_stands 7 = .ok (.iload_n 1, 1) := by decide +kernel
theorem dX4_stands_8 : decode cX4_stands 8 = .ok (.iaload, 1) := by decide +kernel
theorem dX4_stands_9 : decode cX4_stands 9 = .ok (.istore 5, 2) := by decide +kernel
theorem dX4_stands_11 : decode cX4_stands 11 = .ok (.iload 5, 2) := by decide +kernel
theorem dX4_stands_13 : decode cX4_stands 13 = .ok (.ifCond .eq 12, 3) := by decide +kernel
theorem dX4_stands_16 : decode cX4_stands 16 = .ok (.iload_n 3, 1) := by decide +kernel
theorem dX4_stands_17 : decode cX4_stands 17 = .ok (.iload 5, 2) := by decide +kernel
theorem dX4_stands_19 : decode cX4_stands 19 = .ok (.iadd, 1) := by decide +kernel
theorem dX4_stands_20 : decode cX4_stands 20 = .ok (.iload 4, 2) := by decide +kernel
theorem dX4_stands_22 : decode cX4_stands 22 = .ok (.if_icmp .le 5, 3) := by decide +kernel
theorem dX4_stands_25 : decode cX4_stands 25 = .ok (.iconst 0, 1) := by decide +kernel
theorem dX4_stands_26 : decode cX4_stands 26 = .ok (.ireturn, 1) := by decide +kernel
theorem dX4_stands_27 : decode cX4_stands 27 = .ok (.iconst 0, 1) := by decide +kernel
theorem dX4_stands_28 : decode cX4_stands 28 = .ok (.istore 6, 2) := by decide +kernel
theorem dX4_stands_30 : decode cX4_stands 30 = .ok (.iload 6, 2) := by decide +kernel
theorem dX4_stands_32 : decode cX4_stands 32 = .ok (.iload 5, 2) := by decide +kernel
theorem dX4_stands_34 : decode cX4_stands 34 = .ok (.if_icmp .ge 33, 3) := by decide +kernel
theorem dX4_stands_37 : decode cX4_stands 37 = .ok (.aload_n 0, 1) := by decide +kernel
theorem dX4_stands_38 : decode cX4_stands 38 = .ok (.getfield 30, 3) := by decide +kernel
theorem dX4_stands_41 : decode cX4_stands 41 = .ok (.iload_n 1, 1) := by decide +kernel
theorem dX4_stands_42 : decode cX4_stands 42 = .ok (.iload 6, 2) := by decide +kernel
theorem dX4_stands_44 : decode cX4_stands 44 = .ok (.invokevirtual 91, 3) := by decide +kernel
theorem dX4_stands_47 : decode cX4_stands 47 = .ok (.aload_n 2, 1) := by decide +kernel
theorem dX4_stands_48 : decode cX4_stands 48 = .ok (.getfield 64, 3) := by decide +kernel
theorem dX4_stands_51 : decode cX4_stands 51 = .ok (.iload_n 3, 1) := by decide +kernel
theorem dX4_stands_52 : decode cX4_stands 52 = .ok (.iload 6, 2) := by decide +kernel
theorem dX4_stands_54 : decode cX4_stands 54 = .ok (.iadd, 1) := by decide +kernel
theorem dX4_stands_55 : decode cX4_stands 55 = .ok (.iaload, 1) := by decide +kernel
theorem dX4_stands_56 : decode cX4_stands 56 = .ok (.if_icmp .eq 5, 3) := by decide +kernel
theorem dX4_stands_59 : decode cX4_stands 59 = .ok (.iconst 0, 1) := by decide +kernel
theorem dX4_stands_60 : decode cX4_stands 60 = .ok (.ireturn, 1) := by decide +kernel
theorem dX4_stands_61 : decode cX4_stands 61 = .ok (.iinc 6 1, 3) := by decide +kernel
theorem dX4_stands_64 : decode cX4_stands 64 = .ok (.goto (-34), 3) := by decide +kernel
theorem dX4_stands_67 : decode cX4_stands 67 = .ok (.iconst 1, 1) := by decide +kernel
theorem dX4_stands_68 : decode cX4_stands 68 = .ok (.ireturn, 1) := by decide +kernel
theorem dX5_init_0 : decode cX5_init 0 = .ok (.aload_n 0, 1) := by decide +kernel
theorem dX5_init_1 : decode cX5_init 1 = .ok (.invokespecial 1, 3) := by decide +kernel
theorem dX5_init_4 : decode cX5_init 4 = .ok (.aload_n 0, 1) := by decide +kernel
theorem dX5_init_5 : decode cX5_init 5 = .ok (.new 7, 3) := by decide +kernel
theorem dX5_init_8 : decode cX5_init 8 = .ok (.dup, 1) := by decide +kernel
theorem dX5_init_9 : decode cX5_init 9 = .ok (.invokespecial 9, 3) := by decide +kernel
theorem dX5_init_12 : decode cX5_init 12 = .ok (.putfield 10, 3) := by decide +kernel
theorem dX5_init_15 : decode cX5_init 15 = .ok (.aload_n 0, 1) := by decide +kernel
theorem dX5_init_16 : decode cX5_init 16 = .ok (.new 16, 3) := by decide +kernel
theorem dX5_init_19 : decode cX5_init 19 = .ok (.dup, 1) := by decide +kernel
theorem dX5_init_20 : decode cX5_init 20 = .ok (.invokespecial 18, 3) := by decide +kernel
theorem dX5_init_23 : decode cX5_init 23 = .ok (.putfield 19, 3) := by decide +kernel
theorem dX5_init_26 : decode cX5_init 26 = .ok (.aload_n 0, 1) := by decide +kernel
theorem dX5_init_27 : decode cX5_init 27 = .ok (.new 23, 3) := by decide +kernel
theorem dX5_init_30 : decode cX5_init 30 = .ok (.dup, 1) := by decide +kernel
theorem dX5_init_31 : decode cX5_init 31 = .ok (.invokespecial 25, 3) := by decide +kernel
theorem dX5_init_34 : decode cX5_init 34 = .ok (.putfield 26, 3) := by decide +kernel
theorem dX5_init_37 : decode cX5_init 37 = .ok (.aload_n 0, 1) := by decide +kernel
theorem dX5_init_38 : decode cX5_init 38 = .ok (.new 30, 3) := by decide +kernel
theorem dX5_init_41 : decode cX5_init 41 = .ok (.dup, 1) := by decide +kernel
theorem dX5_init_42 : decode cX5_init 42 = .ok (.aload_n 0, 1) := by decide +kernel
theorem dX5_init_43 : decode cX5_init 43 = .ok (.getfield 10, 3) := by decide +kernel
theorem dX5_init_46 : decode cX5_init 46 = .ok (.aload_n 0, 1) := by decide +kernel
theorem dX5_init_47 : decode cX5_init 47 = .ok (.getfield 26, 3) := by decide +kernel
theorem dX5_init_50 : decode cX5_init 50 = .ok (.invokespecial 32, 3) := by decide +kernel
theorem dX5_init_53 : decode cX5_init 53 = .ok (.putfield 35, 3) := by decide +kernel
theorem dX5_init_56 : decode cX5_init 56 = .ok (.aload_n 0, 1) := by decide +kernel
theorem dX5_init_57 : decode cX5_init 57 = .ok (.bipush 10, 2) := by decide +kernel
theorem dX5_init_59 : decode cX5_init 59 = .ok (.anewarray 39, 3) := by decide +kernel
theorem dX5_init_62 : decode cX5_init 62 = .ok (.putfield 41, 3) := by decide +kernel
theorem dX5_init_65 : decode cX5_init 65 = .ok (.iconst 0, 1) := by decide +kernel
theorem dX5_init_66 : decode cX5_init 66 = .ok (.istore_n 1, 1) := by decide +kernel
theorem dX5_init_67 : decode cX5_init 67 = .ok (.iload_n 1, 1) := by decide +kernel
theorem dX5_init_68 : decode cX5_init 68 = .ok (.bipush 10, 2) := by decide +kernel
theorem dX5_init_70 : decode cX5_init 70 = .ok (.if_icmp .ge 22, 3) := by decide +kernel
theorem dX5_init_73 : decode cX5_init 73 = .ok (.aload_n 0, 1) := by decide +kernel
theorem dX5_init_74 : decode cX5_init 74 = .ok (.getfield 41, 3) := by decide +kernel
theorem dX5_init_77 : decode cX5_init 77 = .ok (.iload_n 1, 1) := by decide +kernel
theorem dX5_init_78 : decode cX5_init 78 = .ok (.new 39, 3) := by decide +kernel
theorem dX5_init_81 : decode cX5_init 81 = .ok (.dup, 1) := by decide +kernel
theorem dX5_init_82 : decode cX5_init 82 = .ok (.invokespecial 45, 3) := by decide +kernel
theorem dX5_init_85 : decode cX5_init 85 = .ok (.aastore, 1) := by decide +kernel
theorem dX5_init_86 : decode cX5_init 86 = .ok (.iinc 1 1, 3) := by decide +kernel
theorem dX5_init_89 : decode cX5_init 89 = .ok (.goto (-22), 3) := by decide +kernel
theorem dX5_init_92 : decode cX5_init 92 = .ok (.aload_n 0, 1) := by decide +kernel
theorem dX5_init_93 : decode cX5_init 93 = .ok (.bipush 80, 2) := by decide +kernel
theorem dX5_init_95 : decode cX5_init 95 = .ok (.newarray .int, 2) := by decide +kernel
theorem dX5_init_97 : decode cX5_init 97 = .ok (.putfield 46, 3) := by decide +kernel
theorem dX5_init_100 : decode cX5_init 100 = .ok (.aload_n 0, 1) := by decide +kernel
theorem dX5_init_101 : decode cX5_init 101 = .ok (.bipush 40, 2) := by decide +kernel
theorem dX5_init_103 : decode cX5_init 103 = .ok (.newarray .int, 2) := by decide +kernel
theorem dX5_init_105 : decode cX5_init 105 = .ok (.putfield 50, 3) := by decide +kernel
theorem dX5_init_108 : decode cX5_init 108 = .ok (.return_, 1) := by decide +kernel
theorem dX5_setLetter_0 : decode cX5_setLetter 0 = .ok (.iload_n 1, 1) := by decide +kernel
theorem dX5_setLetter_1 : decode cX5_setLetter 1 = .ok (.invokestatic 53, 3) := by decide +kernel
theorem dX5_setLetter_4 : decode cX5_setLetter 4 = .ok (.ifCond .eq 13, 3) := by decide +kernel
theorem dX5_setLetter_7 : decode cX5_setLetter 7 = .ok (.new 57, 3) := by decide +kernel
theorem dX5_setLetter_10 : decode cX5_setLetter 10 = .ok (.dup, 1) := by decide +kernel
theorem dX5_setLetter_11 : decode cX5_setLetter 11 = .ok (.ldc 59, 2) := by decide +kernel
theorem dX5_setLetter_13 : decode cX5_setLetter 13 = .ok (.invokespecial 61, 3) := by decide +kernel
theorem dX5_setLetter_16 : decode cX5_setLetter 16 = .ok (.athrow, 1) := by decide +kernel
theorem dX5_setLetter_17 : decode cX5_setLetter 17 = .ok (.iload_n 2, 1) := by decide +kernel
theorem dX5_setLetter_18 : decode cX5_setLetter 18 = .ok (.ifCond .eq 20, 3) := by decide +kernel
theorem dX5_setLetter_21 : decode cX5_setLetter 21 = .ok (.iload_n 2, 1) := by decide +kernel
theorem dX5_setLetter_22 : decode cX5_setLetter 22 = .ok (.invokestatic 64, 3) := by decide +kernel
theorem dX5_setLetter_25 : decode cX5_setLetter 25 = .ok (.ifCond .ne 13, 3) := by decide +kernel
theorem dX5_setLetter_28 : decode cX5_setLetter 28 = .ok (.new 67, 3) := by decide +kernel
theorem dX5_setLetter_31 : decode cX5_setLetter 31 = .ok (.dup, 1) := by decide +kernel
theorem dX5_setLetter_32 : decode cX5_setLetter 32 = .ok (.ldc 69, 2) := by decide +kernel
theorem dX5_setLetter_34 : decode cX5_setLetter 34 = .ok (.invokespecial 71, 3) := by decide +kernel
theorem dX5_setLetter_37 : decode cX5_setLetter 37 = .ok (.athrow, 1) := by decide +kernel
theorem dX5_setLetter_38 : decode cX5_setLetter 38 = .ok (.aload_n 0, 1) := by decide +kernel
theorem dX5_setLetter_39 : decode cX5_setLetter 39 = .ok (.getfield 10, 3) := by decide +kernel
theorem dX5_setLetter_42 : decode cX5_setLetter 42 = .ok (.getfield 72, 3) := by decide +kernel
theorem dX5_setLetter_45 : decode cX5_setLetter 45 = .ok (.iload_n 1, 1) := by decide +kernel
theorem dX5_setLetter_46 : decode cX5_setLetter 46 = .ok (.iaload, 1) := by decide +kernel
theorem dX5_setLetter_47 : decode cX5_setLetter 47 = .ok (.istore_n 3, 1) := by decide +kernel
theorem dX5_setLetter_48 : decode cX5_setLetter 48 = .ok (.aload_n 0, 1) := by decide +kernel
theorem dX5_setLetter_49 : decode cX5_setLetter 49 = .ok (.getfield 10, 3) := by decide +kernel
theorem dX5_setLetter_52 : decode cX5_setLetter 52 = .ok (.iload_n 1, 1) := by decide +kernel
theorem dX5_setLetter_53 : decode cX5_setLetter 53 = .ok (.iload_n 2, 1) := by decide +kernel
theorem dX5_setLetter_54 : decode cX5_setLetter 54 = .ok (.invokevirtual 75, 3) := by decide +kernel
theorem dX5_setLetter_57 : decode cX5_setLetter 57 = .ok (.iload_n 3, 1) := by decide +kernel
theorem dX5_setLetter_58 : decode cX5_setLetter 58 = .ok (.ireturn, 1) := by decide +kernel
theorem dX5_letter_0 : decode cX5_letter 0 = .ok (.iload_n 1, 1) := by decide +kernel
theorem dX5_letter_1 : decode cX5_letter 1 = .ok (.invokestatic 53, 3) := by decide +kernel
theorem dX5_letter_4 : decode cX5_letter 4 = .ok (.ifCond .ne 12, 3) := by decide +kernel
theorem dX5_letter_7 : decode cX5_letter 7 = .ok (.iload_n 2, 1) := by decide +kernel
theorem dX5_letter_8 : decode cX5_letter 8 = .ok (.ifCond .lt 8, 3) := by decide +kernel
theorem dX5_letter_11 : decode cX5_letter 11 = .ok (.iload_n 2, 1) := by decide +kernel
theorem dX5_letter_12 : decode cX5_letter 12 = .ok (.iconst 3, 1) := by decide +kernel
theorem dX5_letter_13 : decode cX5_letter 13 = .ok (.if_icmp .lt 13, 3) := by decide +kernel
theorem dX5_letter_16 : decode cX5_letter 16 = .ok (.new 57, 3) := by decide +kernel
theorem dX5_letter_19 : decode cX5_letter 19 = .ok (.dup, 1) := by decide +kernel
theorem dX5_letter_20 : decode cX5_letter 20 = .ok (.ldc 79, 2) := by decide +kernel
theorem dX5_letter_22 : decode cX5_letter 22 = .ok (.invokespecial 61, 3) := by decide +kernel
theorem dX5_letter_25 : decode cX5_letter 25 = .ok (.athrow, 1) := by decide +kernel
theorem dX5_letter_26 : decode cX5_letter 26 = .ok (.iload_n 2, 1) := by decide +kernel
theorem dX5_letter_27 : decode cX5_letter 27 = .ok (.lookupswitch 45 #[(0, 25), (1, 35)], 25) := by decide +kernel
theorem dX5_letter_52 : decode cX5_letter 52 = .ok (.aload_n 0, 1) := by decide +kernel
theorem dX5_letter_53 : decode cX5_letter 53 = .ok (.getfield 10, 3) := by decide +kernel
theorem dX5_letter_56 : decode cX5_letter 56 = .ok (.getfield 72, 3) := by decide +kernel
theorem dX5_letter_59 : decode cX5_letter 59 = .ok (.iload_n 1, 1) := by decide +kernel
theorem dX5_letter_60 : decode cX5_letter 60 = .ok (.iaload, 1) := by decide +kernel
theorem dX5_letter_61 : decode cX5_letter 61 = .ok (.ireturn, 1) := by decide +kernel
theorem dX5_letter_62 : decode cX5_letter 62 = .ok (.aload_n 0, 1) := by decide +kernel
theorem dX5_letter_63 : decode cX5_letter 63 = .ok (.getfield 10, 3) := by decide +kernel
theorem dX5_letter_66 : decode cX5_letter 66 = .ok (.getfield 81, 3) := by decide +kernel
theorem dX5_letter_69 : decode cX5_letter 69 = .ok (.iload_n 1, 1) := by decide +kernel
theorem dX5_letter_70 : decode cX5_letter 70 = .ok (.iaload, 1) := by decide +kernel
theorem dX5_letter_71 : decode cX5_letter 71 = .ok (.ireturn, 1) := by decide +kernel
theorem dX5_letter_72 : decode cX5_letter 72 = .ok (.aload_n 0, 1) := by decide +kernel
theorem dX5_letter_73 : decode cX5_letter 73 = .ok (.getfield 10, 3) := by decide +kernel
theorem dX5_letter_76 : decode cX5_letter 76 = .ok (.getfield 84, 3) := by decide +kernel
theorem dX5_letter_79 : decode cX5_letter 79 = .ok (.iload_n 1, 1) := by decide +kernel
theorem dX5_letter_80 : decode cX5_letter 80 = .ok (.iaload, 1) := by decide +kernel
theorem dX5_letter_81 : decode cX5_letter 81 = .ok (.ireturn, 1) := by decide +kernel
theorem dX5_isFree_0 : decode cX5_isFree 0 = .ok (.iconst 0, 1) := by decide +kernel
theorem dX5_isFree_1 : decode cX5_isFree 1 = .ok (.istore_n 1, 1) := by decide +kernel
theorem dX5_isFree_2 : decode cX5_isFree 2 = .ok (.iload_n 1, 1) := by decide +kernel
theorem dX5_isFree_3 : decode cX5_isFree 3 = .ok (.bipush 12, 2) := by decide +kernel
theorem dX5_isFree_5 : decode cX5_isFree 5 = .ok (.if_icmp .ge 45, 3) := by decide +kernel
theorem dX5_isFree_8 : decode cX5_isFree 8 = .ok (.aload_n 0, 1) := by decide +kernel
theorem dX5_isFree_9 : decode cX5_isFree 9 = .ok (.getfield 10, 3) := by decide +kernel
theorem dX5_isFree_12 : decode cX5_isFree 12 = .ok (.getfield 72, 3) := by decide +kernel
theorem dX5_isFree_15 : decode cX5_isFree 15 = .ok (.iload_n 1, 1) := by decide +kernel
theorem dX5_isFree_16 : decode cX5_isFree 16 = .ok (.iaload, 1) := by decide +kernel
theorem dX5_isFree_17 : decode cX5_isFree 17 = .ok (.ifCond .eq 27, 3) := by decide +kernel
theorem dX5_isFree_20 : decode cX5_isFree 20 = .ok (.aload_n 0, 1) := by decide +kernel
theorem dX5_isFree_21 : decode cX5_isFree 21 = .ok (.getfield 10, 3) := by decide +kernel
theorem dX5_isFree_24 : decode cX5_isFree 24 = .ok (.aload_n 0, 1) := by decide +kernel
theorem dX5_isFree_25 : decode cX5_isFree 25 = .ok (.getfield 10, 3) := by decide +kernel
theorem dX5_isFree_28 : decode cX5_isFree 28 = .ok (.getfield 72, 3) := by decide +kernel
theorem dX5_isFree_31 : decode cX5_isFree 31 = .ok (.iload_n 1, 1) := by decide +kernel
theorem dX5_isFree_32 : decode cX5_isFree 32 = .ok (.iaload, 1) := by decide +kernel
theorem dX5_isFree_33 : decode cX5_isFree 33 = .ok (.iload_n 1, 1) := by decide +kernel
theorem dX5_isFree_34 : decode cX5_isFree 34 = .ok (.iconst 1, 1) := by decide +kernel
theorem dX5_isFree_35 : decode cX5_isFree 35 = .ok (.iadd, 1) := by decide +kernel
theorem dX5_isFree_36 : decode cX5_isFree 36 = .ok (.invokevirtual 87, 3) := by decide +kernel
theorem dX5_isFree_39 : decode cX5_isFree 39 = .ok (.ifCond .eq 5, 3) := by decide +kernel
theorem dX5_isFree_42 : decode cX5_isFree 42 = .ok (.iconst 0, 1) := by decide +kernel
theorem dX5_isFree_43 : decode cX5_isFree 43 = .ok (.ireturn, 1) := by decide +kernel
theorem dX5_isFree_44 : decode cX5_isFree 44 = .ok (.iinc 1 1, 3) := by decide +kernel
theorem dX5_isFree_47 : decode cX5_isFree 47 = .ok (.goto (-45), 3) := by decide +kernel
theorem dX5_isFree_50 : decode cX5_isFree 50 = .ok (.iconst 1, 1) := by decide +kernel
theorem dX5_isFree_51 : decode cX5_isFree 51 = .ok (.ireturn, 1) := by decide +kernel
theorem dX5_isClear_0 : decode cX5_isClear 0 = .ok (.aload_n 0, 1) := by decide +kernel
theorem dX5_isClear_1 : decode cX5_isClear 1 = .ok (.getfield 10, 3) := by decide +kernel
theorem dX5_isClear_4 : decode cX5_isClear 4 = .ok (.invokevirtual 91, 3) := by decide +kernel
theorem dX5_isClear_7 : decode cX5_isClear 7 = .ok (.ireturn, 1) := by decide +kernel
theorem dX5_closest_0 : decode cX5_closest 0 = .ok (.iconst (-1), 1) := by decide +kernel
theorem dX5_closest_1 : decode cX5_closest 1 = .ok (.istore_n 1, 1) := by decide +kernel
theorem dX5_closest_2 : decode cX5_closest 2 = .ok (.iconst 0, 1) := by decide +kernel
theorem dX5_closest_3 : decode cX5_closest 3 = .ok (.istore_n 2, 1) := by decide +kernel
theorem dX5_closest_4 : decode cX5_closest 4 = .ok (.iconst 0, 1) := by decide +kernel
theorem dX5_closest_5 : decode cX5_closest 5 = .ok (.istore_n 3, 1) := by decide +kernel
theorem dX5_closest_6 : decode cX5_closest 6 = .ok (.iload_n 3, 1) := by decide +kernel
theorem dX5_closest_7 : decode cX5_closest 7 = .ok (.bipush 12, 2) := by decide +kernel
theorem dX5_closest_9 : decode cX5_closest 9 = .ok (.if_icmp .ge 64, 3) := by decide +kernel
theorem dX5_closest_12 : decode cX5_closest 12 = .ok (.iload_n 3, 1) := by decide +kernel
theorem dX5_closest_13 : decode cX5_closest 13 = .ok (.iconst 1, 1) := by decide +kernel
theorem dX5_closest_14 : decode cX5_closest 14 = .ok (.iadd, 1) := by decide +kernel
theorem dX5_closest_15 : decode cX5_closest 15 = .ok (.istore 4, 2) := by decide +kernel
theorem dX5_closest_17 : decode cX5_closest 17 = .ok (.iload 4, 2) := by decide +kernel
theorem dX5_closest_19 : decode cX5_closest 19 = .ok (.bipush 12, 2) := by decide +kernel
theorem dX5_closest_21 : decode cX5_closest 21 = .ok (.if_icmp .ge 46, 3) := by decide +kernel
theorem dX5_closest_24 : decode cX5_closest 24 = .ok (.aload_n 0, 1) := by decide +kernel
theorem dX5_closest_25 : decode cX5_closest 25 = .ok (.iload_n 3, 1) := by decide +kernel
theorem dX5_closest_26 : decode cX5_closest 26 = .ok (.iload 4, 2) := by decide +kernel
theorem dX5_closest_28 : decode cX5_closest 28 = .ok (.invokevirtual 97, 3) := by decide +kernel
theorem dX5_closest_31 : decode cX5_closest 31 = .ok (.istore 5, 2) := by decide +kernel
theorem dX5_closest_33 : decode cX5_closest 33 = .ok (.iload 5, 2) := by decide +kernel
theorem dX5_closest_35 : decode cX5_closest 35 = .ok (.iconst (-1), 1) := by decide +kernel
theorem dX5_closest_36 : decode cX5_closest 36 = .ok (.if_icmp .eq 25, 3) := by decide +kernel
theorem dX5_closest_39 : decode cX5_closest 39 = .ok (.iload_n 1, 1) := by decide +kernel
theorem dX5_closest_40 : decode cX5_closest 40 = .ok (.iconst (-1), 1) := by decide +kernel
theorem dX5_closest_41 : decode cX5_closest 41 = .ok (.if_icmp .eq 9, 3) := by decide +kernel
theorem dX5_closest_44 : decode cX5_closest 44 = .ok (.iload 5, 2) := by decide +kernel
theorem dX5_closest_46 : decode cX5_closest 46 = .ok (.iload_n 2, 1) := by decide +kernel
theorem dX5_closest_47 : decode cX5_closest 47 = .ok (.if_icmp .ge 14, 3) := by decide +kernel
theorem dX5_closest_50 : decode cX5_closest 50 = .ok (.bipush 12, 2) := by decide +kernel
theorem dX5_closest_52 : decode cX5_closest 52 = .ok (.iload_n 3, 1) := by decide +kernel
theorem dX5_closest_53 : decode cX5_closest 53 = .ok (.imul, 1) := by decide +kernel
theorem dX5_closest_54 : decode cX5_closest 54 = .ok (.iload 4, 2) := by decide +kernel
theorem dX5_closest_56 : decode cX5_closest 56 = .ok (.iadd, 1) := by decide +kernel
theorem dX5_closest_57 : decode cX5_closest 57 = .ok (.istore_n 1, 1) := by decide +kernel
theorem dX5_closest_58 : decode cX5_closest 58 = .ok (.iload 5, 2) := by decide +kernel
theorem dX5_closest_60 : decode cX5_closest 60 = .ok (.istore_n 2, 1) := by decide +kernel
theorem dX5_closest_61 : decode cX5_closest 61 = .ok (.iinc 4 1, 3) := by decide +kernel
theorem dX5_closest_64 : decode cX5_closest 64 = .ok (.goto (-47), 3) := by decide +kernel
theorem dX5_closest_67 : decode cX5_closest 67 = .ok (.iinc 3 1, 3) := by decide +kernel
theorem dX5_closest_70 : decode cX5_closest 70 = .ok (.goto (-64), 3) := by decide +kernel
theorem dX5_closest_73 : decode cX5_closest 73 = .ok (.iload_n 1, 1) := by decide +kernel
theorem dX5_closest_74 : decode cX5_closest 74 = .ok (.ireturn, 1) := by decide +kernel
theorem dX5_advise_0 : decode cX5_advise 0 = .ok (.iconst 1, 1) := by decide +kernel
theorem dX5_advise_1 : decode cX5_advise 1 = .ok (.istore_n 1, 1) := by decide +kernel
theorem dX5_advise_2 : decode cX5_advise 2 = .ok (.iload_n 1, 1) := by decide +kernel
theorem dX5_advise_3 : decode cX5_advise 3 = .ok (.sipush 340, 3) := by decide +kernel
theorem dX5_advise_6 : decode cX5_advise 6 = .ok (.if_icmp .gt 28, 3) := by decide +kernel
theorem dX5_advise_9 : decode cX5_advise 9 = .ok (.iload_n 1, 1) := by decide +kernel
theorem dX5_advise_10 : decode cX5_advise 10 = .ok (.invokestatic 101, 3) := by decide +kernel
theorem dX5_advise_13 : decode cX5_advise 13 = .ok (.istore_n 2, 1) := by decide +kernel
theorem dX5_advise_14 : decode cX5_advise 14 = .ok (.aload_n 0, 1) := by decide +kernel
theorem dX5_advise_15 : decode cX5_advise 15 = .ok (.getfield 10, 3) := by decide +kernel
theorem dX5_advise_18 : decode cX5_advise 18 = .ok (.iload_n 2, 1) := by decide +kernel
theorem dX5_advise_19 : decode cX5_advise 19 = .ok (.iconst 0, 1) := by decide +kernel
theorem dX5_advise_20 : decode cX5_advise 20 = .ok (.invokevirtual 87, 3) := by decide +kernel
theorem dX5_advise_23 : decode cX5_advise 23 = .ok (.ifCond .ne 5, 3) := by decide +kernel
theorem dX5_advise_26 : decode cX5_advise 26 = .ok (.iload_n 2, 1) := by decide +kernel
theorem dX5_advise_27 : decode cX5_advise 27 = .ok (.ireturn, 1) := by decide +kernel
theorem dX5_advise_28 : decode cX5_advise 28 = .ok (.iinc 1 1, 3) := by decide +kernel
theorem dX5_advise_31 : decode cX5_advise 31 = .ok (.goto (-29), 3) := by decide +kernel
theorem dX5_advise_34 : decode cX5_advise 34 = .ok (.iconst 0, 1) := by decide +kernel
theorem dX5_advise_35 : decode cX5_advise 35 = .ok (.ireturn, 1) := by decide +kernel
theorem dX5_setKnotter_0 : decode cX5_setKnotter 0 = .ok (.iload_n 1, 1) := by decide +kernel
theorem dX5_setKnotter_1 : decode cX5_setKnotter 1 = .ok (.ifCond .lt 19, 3) := by decide +kernel
theorem dX5_setKnotter_4 : decode cX5_setKnotter 4 = .ok (.iload_n 1, 1) := by decide +kernel
theorem dX5_setKnotter_5 : decode cX5_setKnotter 5 = .ok (.bipush 99, 2) := by decide +kernel
theorem dX5_setKnotter_7 : decode cX5_setKnotter 7 = .ok (.if_icmp .gt 13, 3) := by decide +kernel
theorem dX5_setKnotter_10 : decode cX5_setKnotter 10 = .ok (.iload_n 2, 1) := by decide +kernel
theorem dX5_setKnotter_11 : decode cX5_setKnotter 11 = .ok (.ifCond .lt 9, 3) := by decide +kernel
theorem dX5_setKnotter_14 : decode cX5_setKnotter 14 = .ok (.iload_n 2, 1) := by decide +kernel
theorem dX5_setKnotter_15 : decode cX5_setKnotter 15 = .ok (.bipush 99, 2) := by decide +kernel
theorem dX5_setKnotter_17 : decode cX5_setKnotter 17 = .ok (.if_icmp .le 13, 3) := by decide +kernel
theorem dX5_setKnotter_20 : decode cX5_setKnotter 20 = .ok (.new 67, 3) := by decide +kernel
theorem dX5_setKnotter_23 : decode cX5_setKnotter 23 = .ok (.dup, 1) := by decide +kernel
theorem dX5_setKnotter_24 : decode cX5_setKnotter 24 = .ok (.ldc 105, 2) := by decide +kernel
theorem dX5_setKnotter_26 : decode cX5_setKnotter 26 = .ok (.invokespecial 71, 3) := by decide +kernel
theorem dX5_setKnotter_29 : decode cX5_setKnotter 29 = .ok (.athrow, 1) := by decide +kernel
theorem dX5_setKnotter_30 : decode cX5_setKnotter 30 = .ok (.bipush 100, 2) := by decide +kernel
theorem dX5_setKnotter_32 : decode cX5_setKnotter 32 = .ok (.aload_n 0, 1) := by decide +kernel
theorem dX5_setKnotter_33 : decode cX5_setKnotter 33 = .ok (.getfield 19, 3) := by decide +kernel
theorem dX5_setKnotter_36 : decode cX5_setKnotter 36 = .ok (.getfield 107, 3) := by decide +kernel
theorem dX5_setKnotter_39 : decode cX5_setKnotter 39 = .ok (.imul, 1) := by decide +kernel
theorem dX5_setKnotter_40 : decode cX5_setKnotter 40 = .ok (.aload_n 0, 1) := by decide +kernel
theorem dX5_setKnotter_41 : decode cX5_setKnotter 41 = .ok (.getfield 19, 3) := by decide +kernel
theorem dX5_setKnotter_44 : decode cX5_setKnotter 44 = .ok (.getfield 111, 3) := by decide +kernel
theorem dX5_setKnotter_47 : decode cX5_setKnotter 47 = .ok (.iadd, 1) := by decide +kernel
theorem dX5_setKnotter_48 : decode cX5_setKnotter 48 = .ok (.istore_n 3, 1) := by decide +kernel
theorem dX5_setKnotter_49 : decode cX5_setKnotter 49 = .ok (.aload_n 0, 1) := by decide +kernel
theorem dX5_setKnotter_50 : decode cX5_setKnotter 50 = .ok (.getfield 19, 3) := by decide +kernel
theorem dX5_setKnotter_53 : decode cX5_setKnotter 53 = .ok (.iload_n 1, 1) := by decide +kernel
theorem dX5_setKnotter_54 : decode cX5_setKnotter 54 = .ok (.putfield 107, 3) := by decide +kernel
theorem dX5_setKnotter_57 : decode cX5_setKnotter 57 = .ok (.aload_n 0, 1) := by decide +kernel
theorem dX5_setKnotter_58 : decode cX5_setKnotter 58 = .ok (.getfield 19, 3) := by decide +kernel
theorem dX5_setKnotter_61 : decode cX5_setKnotter 61 = .ok (.iload_n 2, 1) := by decide +kernel
theorem dX5_setKnotter_62 : decode cX5_setKnotter 62 = .ok (.putfield 111, 3) := by decide +kernel
theorem dX5_setKnotter_65 : decode cX5_setKnotter 65 = .ok (.iload_n 3, 1) := by decide +kernel
theorem dX5_setKnotter_66 : decode cX5_setKnotter 66 = .ok (.ireturn, 1) := by decide +kernel
theorem dX5_setCosts_0 : decode cX5_setCosts 0 = .ok (.iload_n 1, 1) := by decide +kernel
theorem dX5_setCosts_1 : decode cX5_setCosts 1 = .ok (.iconst 1, 1) := by decide +kernel
theorem dX5_setCosts_2 : decode cX5_setCosts 2 = .ok (.if_icmp .lt 20, 3) := by decide +kernel
theorem dX5_setCosts_5 : decode cX5_setCosts 5 = .ok (.iload_n 1, 1) := by decide +kernel
theorem dX5_setCosts_6 : decode cX5_setCosts 6 = .ok (.bipush 9, 2) := by decide +kernel
theorem dX5_setCosts_8 : decode cX5_setCosts 8 = .ok (.if_icmp .gt 14, 3) := by decide +kernel
theorem dX5_setCosts_11 : decode cX5_setCosts 11 = .ok (.iload_n 2, 1) := by decide +kernel
theorem dX5_setCosts_12 : decode cX5_setCosts 12 = .ok (.iconst 1, 1) := by decide +kernel
theorem dX5_setCosts_13 : decode cX5_setCosts 13 = .ok (.if_icmp .lt 9, 3) := by decide +kernel
theorem dX5_setCosts_16 : decode cX5_setCosts 16 = .ok (.iload_n 2, 1) := by decide +kernel
theorem dX5_setCosts_17 : decode cX5_setCosts 17 = .ok (.bipush 9, 2) := by decide +kernel
theorem dX5_setCosts_19 : decode cX5_setCosts 19 = .ok (.if_icmp .le 13, 3) := by decide +kernel
theorem dX5_setCosts_22 : decode cX5_setCosts 22 = .ok (.new 67, 3) := by decide +kernel
theorem dX5_setCosts_25 : decode cX5_setCosts 25 = .ok (.dup, 1) := by decide +kernel
theorem dX5_setCosts_26 : decode cX5_setCosts 26 = .ok (.ldc 126, 2) := by decide +kernel
theorem dX5_setCosts_28 : decode cX5_setCosts 28 = .ok (.invokespecial 71, 3) := by decide +kernel
theorem dX5_setCosts_31 : decode cX5_setCosts 31 = .ok (.athrow, 1) := by decide +kernel
theorem dX5_setCosts_32 : decode cX5_setCosts 32 = .ok (.bipush 10, 2) := by decide +kernel
theorem dX5_setCosts_34 : decode cX5_setCosts 34 = .ok (.aload_n 0, 1) := by decide +kernel
theorem dX5_setCosts_35 : decode cX5_setCosts 35 = .ok (.getfield 26, 3) := by decide +kernel
theorem dX5_setCosts_38 : decode cX5_setCosts 38 = .ok (.getfield 128, 3) := by decide +kernel
theorem dX5_setCosts_41 : decode cX5_setCosts 41 = .ok (.imul, 1) := by decide +kernel
theorem dX5_setCosts_42 : decode cX5_setCosts 42 = .ok (.aload_n 0, 1) := by decide +kernel
theorem dX5_setCosts_43 : decode cX5_setCosts 43 = .ok (.getfield 26, 3) := by decide +kernel
theorem dX5_setCosts_46 : decode cX5_setCosts 46 = .ok (.getfield 131, 3) := by decide +kernel
theorem dX5_setCosts_49 : decode cX5_setCosts 49 = .ok (.iadd, 1) := by decide +kernel
theorem dX5_setCosts_50 : decode cX5_setCosts 50 = .ok (.istore_n 3, 1) := by decide +kernel
theorem dX5_setCosts_51 : decode cX5_setCosts 51 = .ok (.aload_n 0, 1) := by decide +kernel
theorem dX5_setCosts_52 : decode cX5_setCosts 52 = .ok (.getfield 26, 3) := by decide +kernel
theorem dX5_setCosts_55 : decode cX5_setCosts 55 = .ok (.iload_n 1, 1) := by decide +kernel
theorem dX5_setCosts_56 : decode cX5_setCosts 56 = .ok (.putfield 128, 3) := by decide +kernel
theorem dX5_setCosts_59 : decode cX5_setCosts 59 = .ok (.aload_n 0, 1) := by decide +kernel
theorem dX5_setCosts_60 : decode cX5_setCosts 60 = .ok (.getfield 26, 3) := by decide +kernel
theorem dX5_setCosts_63 : decode cX5_setCosts 63 = .ok (.iload_n 2, 1) := by decide +kernel
theorem dX5_setCosts_64 : decode cX5_setCosts 64 = .ok (.putfield 131, 3) := by decide +kernel
theorem dX5_setCosts_67 : decode cX5_setCosts 67 = .ok (.iload_n 3, 1) := by decide +kernel
theorem dX5_setCosts_68 : decode cX5_setCosts 68 = .ok (.ireturn, 1) := by decide +kernel
theorem dX5_feed_0 : decode cX5_feed 0 = .ok (.aload_n 0, 1) := by decide +kernel
theorem dX5_feed_1 : decode cX5_feed 1 = .ok (.getfield 134, 3) := by decide +kernel
theorem dX5_feed_4 : decode cX5_feed 4 = .ok (.bipush 20, 2) := by decide +kernel
theorem dX5_feed_6 : decode cX5_feed 6 = .ok (.iadd, 1) := by decide +kernel
theorem dX5_feed_7 : decode cX5_feed 7 = .ok (.bipush 80, 2) := by decide +kernel
theorem dX5_feed_9 : decode cX5_feed 9 = .ok (.if_icmp .le 13, 3) := by decide +kernel
theorem dX5_feed_12 : decode cX5_feed 12 = .ok (.new 137, 3) := by decide +kernel
theorem dX5_feed_15 : decode cX5_feed 15 = .ok (.dup, 1) := by decide +kernel
theorem dX5_feed_16 : decode cX5_feed 16 = .ok (.ldc 139, 2) := by decide +kernel
theorem dX5_feed_18 : decode cX5_feed 18 = .ok (.invokespecial 141, 3) := by decide +kernel
theorem dX5_feed_21 : decode cX5_feed 21 = .ok (.athrow, 1) := by decide +kernel
theorem dX5_feed_22 : decode cX5_feed 22 = .ok (.aload_n 0, 1) := by decide +kernel
theorem dX5_feed_23 : decode cX5_feed 23 = .ok (.iload_n 1, 1) := by decide +kernel
theorem dX5_feed_24 : decode cX5_feed 24 = .ok (.invokevirtual 142, 3) := by decide +kernel
theorem dX5_feed_27 : decode cX5_feed 27 = .ok (.aload_n 0, 1) := by decide +kernel
theorem dX5_feed_28 : decode cX5_feed 28 = .ok (.iload_n 2, 1) := by decide +kernel
theorem dX5_feed_29 : decode cX5_feed 29 = .ok (.invokevirtual 142, 3) := by decide +kernel
theorem dX5_feed_32 : decode cX5_feed 32 = .ok (.aload_n 0, 1) := by decide +kernel
theorem dX5_feed_33 : decode cX5_feed 33 = .ok (.iload_n 3, 1) := by decide +kernel
theorem dX5_feed_34 : decode cX5_feed 34 = .ok (.invokevirtual 142, 3) := by decide +kernel
theorem dX5_feed_37 : decode cX5_feed 37 = .ok (.aload_n 0, 1) := by decide +kernel
theorem dX5_feed_38 : decode cX5_feed 38 = .ok (.iload 4, 2) := by decide +kernel
theorem dX5_feed_40 : decode cX5_feed 40 = .ok (.invokevirtual 142, 3) := by decide +kernel
theorem dX5_feed_43 : decode cX5_feed 43 = .ok (.aload_n 0, 1) := by decide +kernel
theorem dX5_feed_44 : decode cX5_feed 44 = .ok (.iload 5, 2) := by decide +kernel
theorem dX5_feed_46 : decode cX5_feed 46 = .ok (.invokevirtual 142, 3) := by decide +kernel
theorem dX5_feed_49 : decode cX5_feed 49 = .ok (.aload_n 0, 1) := by decide +kernel
theorem dX5_feed_50 : decode cX5_feed 50 = .ok (.getfield 134, 3) := by decide +kernel
theorem dX5_feed_53 : decode cX5_feed 53 = .ok (.ireturn, 1) := by decide +kernel
theorem dX5_trim_0 : decode cX5_trim 0 = .ok (.iload_n 1, 1) := by decide +kernel
theorem dX5_trim_1 : decode cX5_trim 1 = .ok (.ifCond .lt 11, 3) := by decide +kernel
theorem dX5_trim_4 : decode cX5_trim 4 = .ok (.iload_n 1, 1) := by decide +kernel
theorem dX5_trim_5 : decode cX5_trim 5 = .ok (.aload_n 0, 1) := by decide +kernel
theorem dX5_trim_6 : decode cX5_trim 6 = .ok (.getfield 134, 3) := by decide +kernel
theorem dX5_trim_9 : decode cX5_trim 9 = .ok (.if_icmp .le 13, 3) := by decide +kernel
theorem dX5_trim_12 : decode cX5_trim 12 = .ok (.new 67, 3) := by decide +kernel
theorem dX5_trim_15 : decode cX5_trim 15 = .ok (.dup, 1) := by decide +kernel
theorem dX5_trim_16 : decode cX5_trim 16 = .ok (.ldc 146, 2) := by decide +kernel
theorem dX5_trim_18 : decode cX5_trim 18 = .ok (.invokespecial 71, 3) := by decide +kernel
theorem dX5_trim_21 : decode cX5_trim 21 = .ok (.athrow, 1) := by decide +kernel
theorem dX5_trim_22 : decode cX5_trim 22 = .ok (.aload_n 0, 1) := by decide +kernel
theorem dX5_trim_23 : decode cX5_trim 23 = .ok (.iload_n 1, 1) := by decide +kernel
theorem dX5_trim_24 : decode cX5_trim 24 = .ok (.putfield 134, 3) := by decide +kernel
theorem dX5_trim_27 : decode cX5_trim 27 = .ok (.iload_n 1, 1) := by decide +kernel
theorem dX5_trim_28 : decode cX5_trim 28 = .ok (.ireturn, 1) := by decide +kernel
theorem dX5_tie_0 : decode cX5_tie 0 = .ok (.aload_n 0, 1) := by decide +kernel
theorem dX5_tie_1 : decode cX5_tie 1 = .ok (.getfield 148, 3) := by decide +kernel
theorem dX5_tie_4 : decode cX5_tie 4 = .ok (.bipush 10, 2) := by decide +kernel
theorem dX5_tie_6 : decode cX5_tie 6 = .ok (.if_icmp .ge 12, 3) := by decide +kernel
theorem dX5_tie_9 : decode cX5_tie 9 = .ok (.aload_n 0, 1) := by decide +kernel
theorem dX5_tie_10 : decode cX5_tie 10 = .ok (.invokevirtual 151, 3) := by decide +kernel
theorem dX5_tie_13 : decode cX5_tie 13 = .ok (.bipush 40, 2) := by decide +kernel
theorem dX5_tie_15 : decode cX5_tie 15 = .ok (.if_icmp .le 13, 3) := by decide +kernel
theorem dX5_tie_18 : decode cX5_tie 18 = .ok (.new 137, 3) := by decide +kernel
theorem dX5_tie_21 : decode cX5_tie 21 = .ok (.dup, 1) := by decide +kernel
theorem dX5_tie_22 : decode cX5_tie 22 = .ok (.ldc 155, 2) := by decide +kernel
theorem dX5_tie_24 : decode cX5_tie 24 = .ok (.invokespecial 141, 3) := by decide +kernel
theorem dX5_tie_27 : decode cX5_tie 27 = .ok (.athrow, 1) := by decide +kernel
theorem dX5_tie_28 : decode cX5_tie 28 = .ok (.aload_n 0, 1) := by decide +kernel
theorem dX5_tie_29 : decode cX5_tie 29 = .ok (.invokevirtual 157, 3) := by decide +kernel
theorem dX5_tie_32 : decode cX5_tie 32 = .ok (.ifCond .ne 5, 3) := by decide +kernel
theorem dX5_tie_35 : decode cX5_tie 35 = .ok (.iconst (-1), 1) := by decide +kernel
theorem dX5_tie_36 : decode cX5_tie 36 = .ok (.ireturn, 1) := by decide +kernel
theorem dX5_tie_37 : decode cX5_tie 37 = .ok (.aload_n 0, 1) := by decide +kernel
theorem dX5_tie_38 : decode cX5_tie 38 = .ok (.getfield 41, 3) := by decide +kernel
theorem dX5_tie_41 : decode cX5_tie 41 = .ok (.aload_n 0, 1) := by decide +kernel
theorem dX5_tie_42 : decode cX5_tie 42 = .ok (.getfield 148, 3) := by decide +kernel
theorem dX5_tie_45 : decode cX5_tie 45 = .ok (.aaload, 1) := by decide +kernel
theorem dX5_tie_46 : decode cX5_tie 46 = .ok (.astore_n 1, 1) := by decide +kernel
theorem dX5_tie_47 : decode cX5_tie 47 = .ok (.iconst 0, 1) := by decide +kernel
theorem dX5_tie_48 : decode cX5_tie 48 = .ok (.istore_n 2, 1) := by decide +kernel
theorem dX5_tie_49 : decode cX5_tie 49 = .ok (.iload_n 2, 1) := by decide +kernel
theorem dX5_tie_50 : decode cX5_tie 50 = .ok (.aload_n 0, 1) := by decide +kernel
theorem dX5_tie_51 : decode cX5_tie 51 = .ok (.getfield 134, 3) := by decide +kernel
theorem dX5_tie_54 : decode cX5_tie 54 = .ok (.if_icmp .ge 20, 3) := by decide +kernel
theorem dX5_tie_57 : decode cX5_tie 57 = .ok (.aload_n 0, 1) := by decide +kernel
theorem dX5_tie_58 : decode cX5_tie 58 = .ok (.aload_n 1, 1) := by decide +kernel
theorem dX5_tie_59 : decode cX5_tie 59 = .ok (.aload_n 0, 1) := by decide +kernel
theorem dX5_tie_60 : decode cX5_tie 60 = .ok (.getfield 46, 3) := by decide +kernel
theorem dX5_tie_63 : decode cX5_tie 63 = .ok (.iload_n 2, 1) := by decide +kernel
theorem dX5_tie_64 : decode cX5_tie 64 = .ok (.iaload, 1) := by decide +kernel
theorem dX5_tie_65 : decode cX5_tie 65 = .ok (.invokevirtual 160, 3) := by decide +kernel
theorem dX5_tie_68 : decode cX5_tie 68 = .ok (.iinc 2 1, 3) := by decide +kernel
theorem dX5_tie_71 : decode cX5_tie 71 = .ok (.goto (-22), 3) := by decide +kernel
theorem dX5_tie_74 : decode cX5_tie 74 = .ok (.aload_n 0, 1) := by decide +kernel
theorem dX5_tie_75 : decode cX5_tie 75 = .ok (.iconst 0, 1) := by decide +kernel
theorem dX5_tie_76 : decode cX5_tie 76 = .ok (.putfield 134, 3) := by decide +kernel
theorem dX5_tie_79 : decode cX5_tie 79 = .ok (.aload_n 0, 1) := by decide +kernel
theorem dX5_tie_80 : decode cX5_tie 80 = .ok (.dup, 1) := by decide +kernel
theorem dX5_tie_81 : decode cX5_tie 81 = .ok (.getfield 148, 3) := by decide +kernel
theorem dX5_tie_84 : decode cX5_tie 84 = .ok (.iconst 1, 1) := by decide +kernel
theorem dX5_tie_85 : decode cX5_tie 85 = .ok (.iadd, 1) := by decide +kernel
theorem dX5_tie_86 : decode cX5_tie 86 = .ok (.putfield 148, 3) := by decide +kernel
theorem dX5_tie_89 : decode cX5_tie 89 = .ok (.aload_n 0, 1) := by decide +kernel
theorem dX5_tie_90 : decode cX5_tie 90 = .ok (.getfield 148, 3) := by decide +kernel
theorem dX5_tie_93 : decode cX5_tie 93 = .ok (.iconst 1, 1) := by decide +kernel
theorem dX5_tie_94 : decode cX5_tie 94 = .ok (.isub, 1) := by decide +kernel
theorem dX5_tie_95 : decode cX5_tie 95 = .ok (.ireturn, 1) := by decide +kernel
theorem dX5_cord_0 : decode cX5_cord 0 = .ok (.aload_n 0, 1) := by decide +kernel
theorem dX5_cord_1 : decode cX5_cord 1 = .ok (.iload_n 1, 1) := by decide +kernel
theorem dX5_cord_2 : decode cX5_cord 2 = .ok (.invokevirtual 164, 3) := by decide +kernel
theorem dX5_cord_5 : decode cX5_cord 5 = .ok (.ifCond .ne 13, 3) := by decide +kernel
theorem dX5_cord_8 : decode cX5_cord 8 = .ok (.iload_n 2, 1) := by decide +kernel
theorem dX5_cord_9 : decode cX5_cord 9 = .ok (.ifCond .lt 9, 3) := by decide +kernel
theorem dX5_cord_12 : decode cX5_cord 12 = .ok (.iload_n 2, 1) := by decide +kernel
theorem dX5_cord_13 : decode cX5_cord 13 = .ok (.bipush 7, 2) := by decide +kernel
theorem dX5_cord_15 : decode cX5_cord 15 = .ok (.if_icmp .lt 13, 3) := by decide +kernel
theorem dX5_cord_18 : decode cX5_cord 18 = .ok (.new 57, 3) := by decide +kernel
theorem dX5_cord_21 : decode cX5_cord 21 = .ok (.dup, 1) := by decide +kernel
theorem dX5_cord_22 : decode cX5_cord 22 = .ok (.ldc 167, 2) := by decide +kernel
theorem dX5_cord_24 : decode cX5_cord 24 = .ok (.invokespecial 61, 3) := by decide +kernel
theorem dX5_cord_27 : decode cX5_cord 27 = .ok (.athrow, 1) := by decide +kernel
theorem dX5_cord_28 : decode cX5_cord 28 = .ok (.iload_n 2, 1) := by decide +kernel
theorem dX5_cord_29 : decode cX5_cord 29 = .ok (.tableswitch 113 0 5 #[39, 49, 59, 69, 79, 96], 39) := by decide +kernel
theorem dX5_cord_68 : decode cX5_cord 68 = .ok (.aload_n 0, 1) := by decide +kernel
theorem dX5_cord_69 : decode cX5_cord 69 = .ok (.getfield 41, 3) := by decide +kernel
theorem dX5_cord_72 : decode cX5_cord 72 = .ok (.iload_n 1, 1) := by decide +kernel
theorem dX5_cord_73 : decode cX5_cord 73 = .ok (.aaload, 1) := by decide +kernel
theorem dX5_cord_74 : decode cX5_cord 74 = .ok (.getfield 169, 3) := by decide +kernel
theorem dX5_cord_77 : decode cX5_cord 77 = .ok (.ireturn, 1) := by decide +kernel
theorem dX5_cord_78 : decode cX5_cord 78 = .ok (.aload_n 0, 1) := by decide +kernel
theorem dX5_cord_79 : decode cX5_cord 79 = .ok (.getfield 41, 3) := by decide +kernel
theorem dX5_cord_82 : decode cX5_cord 82 = .ok (.iload_n 1, 1) := by decide +kernel
theorem dX5_cord_83 : decode cX5_cord 83 = .ok (.aaload, 1) := by decide +kernel
theorem dX5_cord_84 : decode cX5_cord 84 = .ok (.getfield 172, 3) := by decide +kernel
theorem dX5_cord_87 : decode cX5_cord 87 = .ok (.ireturn, 1) := by decide +kernel
theorem dX5_cord_88 : decode cX5_cord 88 = .ok (.aload_n 0, 1) := by decide +kernel
theorem dX5_cord_89 : decode cX5_cord 89 = .ok (.getfield 41, 3) := by decide +kernel
theorem dX5_cord_92 : decode cX5_cord 92 = .ok (.iload_n 1, 1) := by decide +kernel
theorem dX5_cord_93 : decode cX5_cord 93 = .ok (.aaload, 1) := by decide +kernel
theorem dX5_cord_94 : decode cX5_cord 94 = .ok (.getfield 175, 3) := by decide +kernel
theorem dX5_cord_97 : decode cX5_cord 97 = .ok (.ireturn, 1) := by decide +kernel
theorem dX5_cord_98 : decode cX5_cord 98 = .ok (.aload_n 0, 1) := by decide +kernel
theorem dX5_cord_99 : decode cX5_cord 99 = .ok (.getfield 41, 3) := by decide +kernel
theorem dX5_cord_102 : decode cX5_cord 102 = .ok (.iload_n 1, 1) := by decide +kernel
theorem dX5_cord_103 : decode cX5_cord 103 = .ok (.aaload, 1) := by decide +kernel
theorem dX5_cord_104 : decode cX5_cord 104 = .ok (.getfield 178, 3) := by decide +kernel
theorem dX5_cord_107 : decode cX5_cord 107 = .ok (.ireturn, 1) := by decide +kernel
theorem dX5_cord_108 : decode cX5_cord 108 = .ok (.aload_n 0, 1) := by decide +kernel
theorem dX5_cord_109 : decode cX5_cord 109 = .ok (.getfield 35, 3) := by decide +kernel
theorem dX5_cord_112 : decode cX5_cord 112 = .ok (.aload_n 0, 1) := by decide +kernel
theorem dX5_cord_113 : decode cX5_cord 113 = .ok (.getfield 41, 3) := by decide +kernel
theorem dX5_cord_116 : decode cX5_cord 116 = .ok (.iload_n 1, 1) := by decide +kernel
theorem dX5_cord_117 : decode cX5_cord 117 = .ok (.aaload, 1) := by decide +kernel
theorem dX5_cord_118 : decode cX5_cord 118 = .ok (.invokevirtual 181, 3) := by decide +kernel
theorem dX5_cord_121 : decode cX5_cord 121 = .ok (.invokestatic 185, 3) := by decide +kernel
theorem dX5_cord_124 : decode cX5_cord 124 = .ok (.ireturn, 1) := by decide +kernel
theorem dX5_cord_125 : decode cX5_cord 125 = .ok (.aload_n 0, 1) := by decide +kernel
theorem dX5_cord_126 : decode cX5_cord 126 = .ok (.getfield 35, 3) := by decide +kernel
theorem dX5_cord_129 : decode cX5_cord 129 = .ok (.aload_n 0, 1) := by decide +kernel
theorem dX5_cord_130 : decode cX5_cord 130 = .ok (.getfield 41, 3) := by decide +kernel
theorem dX5_cord_133 : decode cX5_cord 133 = .ok (.iload_n 1, 1) := by decide +kernel
theorem dX5_cord_134 : decode cX5_cord 134 = .ok (.aaload, 1) := by decide +kernel
theorem dX5_cord_135 : decode cX5_cord 135 = .ok (.invokevirtual 181, 3) := by decide +kernel
