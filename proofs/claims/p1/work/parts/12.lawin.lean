section LawIn
theorem in_at {ws : List Cond} (ps : List Nat) (h : ws = ps.filterMap (fun i => lw_tbl[i]?)) : ∀ w ∈ ws, w ∈ lw_tbl := by
  intro w hw
  rw [h] at hw
  obtain ⟨i, -, hi⟩ := List.mem_filterMap.mp hw
  exact List.mem_of_getElem? hi
set_option maxRecDepth 100000
theorem in_r1 : ∀ w ∈ wsL_law0_r1, w ∈ lw_tbl := in_at [58, 59, 43, 710, 711, 50, 977, 60, 61, 62, 63, 64, 65, 66, 67, 44, 214, 100, 101, 45, 215, 127, 128, 46] (by decide +kernel)
theorem in_r2 : ∀ w ∈ wsL_law0_r2, w ∈ lw_tbl := in_at [216, 153, 154, 48, 217, 184, 218, 186, 49, 99, 220, 222, 69, 70, 71, 72, 74, 77, 79, 81, 82, 103, 104, 105] (by decide +kernel)
theorem in_r3 : ∀ w ∈ wsL_law0_r3, w ∈ lw_tbl := in_at [129, 130, 131, 132, 136, 139, 142, 143, 133, 134, 47, 135, 155, 156, 157, 158, 161, 162, 163, 164, 165, 166, 159, 160] (by decide +kernel)
theorem in_r4 : ∀ w ∈ wsL_law0_r4, w ∈ lw_tbl := in_at [188, 189, 190, 191, 712, 713, 714, 715, 717, 718, 722, 723, 724, 726, 727, 728, 729, 730, 732, 734, 735, 736, 737, 738] (by decide +kernel)
theorem in_r5 : ∀ w ∈ wsL_law0_r5, w ∈ lw_tbl := in_at [486, 487, 42, 488, 489, 490, 491, 492, 493, 494, 329, 54, 502, 55, 73, 405, 406, 407, 496, 497, 498, 500, 501, 518] (by decide +kernel)
theorem in_r6 : ∀ w ∈ wsL_law0_r6, w ∈ lw_tbl := in_at [519, 520, 521, 790, 791, 792, 793, 716, 794, 795, 796, 797, 799, 24, 800, 801, 802, 803, 786, 787, 788, 789, 522, 523] (by decide +kernel)
theorem in_r7 : ∀ w ∈ wsL_law0_r7, w ∈ lw_tbl := in_at [524, 525, 402, 403, 404, 75, 78, 804, 805, 806, 807, 808, 810, 25, 811, 812, 813, 814, 245, 246, 247, 248, 249, 250] (by decide +kernel)
theorem in_r8 : ∀ w ∈ wsL_law0_r8, w ∈ lw_tbl := in_at [251, 252, 253, 254, 255, 256, 257, 56, 258, 259, 260, 261, 815, 816, 817, 818, 819, 820, 821, 262, 263, 264, 265, 266] (by decide +kernel)
theorem in_r9 : ∀ w ∈ wsL_law0_r9, w ∈ lw_tbl := in_at [267, 268, 269, 83, 270, 271, 273, 0, 274, 275, 277, 1, 278, 822, 823, 824, 825, 834, 826, 828, 26, 829, 830, 831] (by decide +kernel)
theorem in_r10 : ∀ w ∈ wsL_law0_r10, w ∈ lw_tbl := in_at [832, 833, 526, 527, 528, 529, 530, 531, 532, 283, 285, 2, 286, 80, 287, 288, 289, 290, 304, 291, 293, 3, 294, 295] (by decide +kernel)
theorem in_r11 : ∀ w ∈ wsL_law0_r11, w ∈ lw_tbl := in_at [297, 4, 298, 299, 300, 301, 302, 303, 835, 836, 837, 838, 839, 841, 27, 842, 843, 279, 280, 281, 282, 844, 845, 846] (by decide +kernel)
theorem in_r12 : ∀ w ∈ wsL_law0_r12, w ∈ lw_tbl := in_at [847, 305, 306, 307, 308, 309, 310, 311, 848, 849, 850, 851, 534, 535, 536, 537, 538, 539, 540, 107, 109, 852, 853, 854] (by decide +kernel)
theorem in_r13 : ∀ w ∈ wsL_law0_r13, w ∈ lw_tbl := in_at [855, 719, 720, 542, 543, 544, 545, 546, 547, 548, 549, 551, 552, 553, 554, 555, 856, 857, 858, 859, 556, 557, 558, 559] (by decide +kernel)
theorem in_r14 : ∀ w ∈ wsL_law0_r14, w ∈ lw_tbl := in_at [560, 561, 562, 138, 141, 860, 861, 862, 863, 564, 565, 566, 567, 568, 569, 570, 571, 572, 57, 221, 588, 590, 16, 591] (by decide +kernel)
theorem in_r15 : ∀ w ∈ wsL_law0_r15, w ∈ lw_tbl := in_at [864, 865, 866, 867, 731, 592, 593, 594, 595, 596, 597, 598, 868, 869, 870, 871, 600, 601, 602, 603, 604, 605, 606, 219] (by decide +kernel)
theorem in_r16 : ∀ w ∈ wsL_law0_r16, w ∈ lw_tbl := in_at [607, 609, 17, 610, 611, 613, 18, 614, 616, 618, 19, 619, 620, 622, 20, 623, 624, 625, 626, 627, 197, 628, 629, 630] (by decide +kernel)
theorem in_r17 : ∀ w ∈ wsL_law0_r17, w ∈ lw_tbl := in_at [631, 194, 632, 442, 443, 444, 633, 634, 635, 636, 110, 108, 114, 201, 106, 112, 199, 637, 872, 873, 874, 875, 725, 876] (by decide +kernel)
theorem in_r18 : ∀ w ∈ wsL_law0_r18, w ∈ lw_tbl := in_at [878, 28, 879, 880, 882, 29, 883, 884, 886, 30, 887, 721, 638, 639, 640, 641, 410, 411, 412, 196, 198, 200, 202, 413] (by decide +kernel)
theorem in_r19 : ∀ w ∈ wsL_law0_r19, w ∈ lw_tbl := in_at [415, 6, 416, 418, 419, 420, 421, 195, 422, 423, 424, 425, 426, 428, 7, 429, 192, 430, 432, 8, 433, 76, 137, 434] (by decide +kernel)
theorem in_r20 : ∀ w ∈ wsL_law0_r20, w ∈ lw_tbl := in_at [435, 436, 437, 439, 9, 440, 140, 441, 445, 446, 448, 10, 449, 450, 452, 11, 453, 454, 456, 12, 457, 458, 460, 13] (by decide +kernel)
theorem in_r21 : ∀ w ∈ wsL_law0_r21, w ∈ lw_tbl := in_at [461, 462, 463, 464, 465, 466, 467, 468, 469, 470, 471, 482, 483, 484, 485, 472, 474, 14, 475, 480, 481, 476, 478, 15] (by decide +kernel)
theorem in_r22 : ∀ w ∈ wsL_law0_r22, w ∈ lw_tbl := in_at [479, 888, 889, 890, 891, 892, 894, 31, 895, 896, 898, 32, 899, 900, 902, 33, 903, 904, 910, 905, 907, 34, 908, 909] (by decide +kernel)
theorem in_r23 : ∀ w ∈ wsL_law0_r23, w ∈ lw_tbl := in_at [911, 913, 35, 914, 915, 917, 36, 918, 919, 921, 37, 922, 923, 925, 38, 926, 927, 929, 39, 930, 733, 642, 643, 644] (by decide +kernel)
theorem in_r24 : ∀ w ∈ wsL_law0_r24, w ∈ lw_tbl := in_at [645, 646, 647, 648, 193, 649, 651, 21, 652, 931, 932, 933, 934, 654, 655, 656, 657, 658, 659, 660, 935, 936, 937, 938] (by decide +kernel)
theorem in_r25 : ∀ w ∈ wsL_law0_r25, w ∈ lw_tbl := in_at [663, 664, 665, 666, 667, 668, 669, 671, 673, 22, 674, 939, 940, 941, 942, 943, 945, 40, 946, 675, 676, 677, 678, 679] (by decide +kernel)
theorem in_r26 : ∀ w ∈ wsL_law0_r26, w ∈ lw_tbl := in_at [680, 681, 947, 948, 949, 950, 682, 683, 684, 685, 686, 687, 688, 223, 689, 690, 691, 692, 693, 695, 23, 696, 697, 951] (by decide +kernel)
theorem in_r27 : ∀ w ∈ wsL_law0_r27, w ∈ lw_tbl := in_at [952, 953, 954, 698, 699, 700, 701, 702, 703, 704, 955, 956, 957, 958, 706, 707, 708, 709, 326, 327, 328, 111, 113, 115] (by decide +kernel)
theorem in_r28 : ∀ w ∈ wsL_law0_r28, w ∈ lw_tbl := in_at [316, 317, 318, 319, 959, 960, 961, 962, 963, 965, 41, 966, 312, 313, 314, 315, 967, 968, 969, 970, 320, 321, 322, 323] (by decide +kernel)
theorem in_r29 : ∀ w ∈ wsL_law0_r29, w ∈ lw_tbl := in_at [324, 325, 397, 398, 399, 400, 401, 409, 971, 972, 973, 974, 975, 976] (by decide +kernel)
theorem in_X5 : ∀ w ∈ wsX50, w ∈ lw_tbl := in_at [224, 226, 228, 230, 232, 234, 236, 238, 240, 242] (by decide +kernel)
theorem in_X6 : ∀ w ∈ wsX60, w ∈ lw_tbl := in_at [739, 741, 743, 745, 747, 749, 751, 753, 755, 757, 759, 761, 763, 765, 767, 769, 771, 773, 775, 777, 779, 781, 783] (by decide +kernel)
theorem in_X0 : ∀ w ∈ wsX00, w ∈ lw_tbl := in_at [84, 86, 88, 90, 92, 94, 96] (by decide +kernel)
theorem in_X3 : ∀ w ∈ wsX30, w ∈ lw_tbl := in_at [116, 118, 120, 122, 124] (by decide +kernel)
theorem in_X2 : ∀ w ∈ wsX20, w ∈ lw_tbl := in_at [144, 146, 148, 150] (by decide +kernel)
theorem in_X4 : ∀ w ∈ wsX40, w ∈ lw_tbl := in_at [167, 169, 171, 173, 175, 177, 179, 181] (by decide +kernel)
theorem in_X1 : ∀ w ∈ wsX10, w ∈ lw_tbl := in_at [203, 205, 207, 209, 211] (by decide +kernel)
theorem wsL_law_in0 : ∀ w ∈ wsL_law0, w ∈ lw_tbl := by
  unfold wsL_law0
  simp only [List.forall_mem_append, List.append_nil]
  exact ⟨⟨⟨⟨⟨⟨⟨⟨in_r1, in_r2, in_r3, in_r4, in_r5, in_r6, in_r7, in_r8, in_r9, in_r10, in_r11, in_r12, in_r13, in_r14, in_r15, in_r16, in_r17, in_r18, in_r19, in_r20, in_r21, in_r22, in_r23, in_r24, in_r25, in_r26, in_r27, in_r28, in_r29⟩, in_X5⟩, in_X6⟩, in_X0⟩, in_X3⟩, in_X2⟩, in_X4⟩, in_X1⟩
theorem wsL_law_x0 : ∀ w ∈ (vx_atS RX5 61 "java/lang/IndexOutOfBoundsException" ["java/lang/RuntimeException", "java/lang/Exception"]).filter goodWord, w ∈ lw_tbl := by decide +kernel
theorem wsL_law_x1 : ∀ w ∈ (vx_atS RX5 71 "java/lang/IllegalArgumentException" ["java/lang/RuntimeException", "java/lang/Exception"]).filter goodWord, w ∈ lw_tbl := by decide +kernel
theorem wsL_law_x2 : ∀ w ∈ (vx_atS RX5 141 "java/lang/IllegalStateException" ["java/lang/RuntimeException", "java/lang/Exception"]).filter goodWord, w ∈ lw_tbl := by decide +kernel
theorem wsL_law_in : ∀ w ∈ wsL_law, w ∈ lw_tbl := fun w h => (List.mem_append.mp h).elim (fun h => (List.mem_append.mp h).elim (fun h => (List.mem_append.mp h).elim (fun h => wsL_law_in0 w h) (fun h => wsL_law_x0 w h)) (fun h => wsL_law_x1 w h)) (fun h => wsL_law_x2 w h)
end LawIn
