theorem dX13_answer_67 : decode cX13_answer 67 = .ok (.getfield 344, 3) := by decide +kernel
theorem dX13_answer_70 : decode cX13_answer 70 = .ok (.ifCond .eq 16, 3) := by decide +kernel
theorem dX13_answer_73 : decode cX13_answer 73 = .ok (.aload_n 0, 1) := by decide +kernel
theorem dX13_answer_74 : decode cX13_answer 74 = .ok (.iconst 3, 1) := by decide +kernel
theorem dX13_answer_75 : decode cX13_answer 75 = .ok (.iload_n 2, 1) := by decide +kernel
theorem dX13_answer_76 : decode cX13_answer 76 = .ok (.iload_n 3, 1) := by decide +kernel
theorem dX13_answer_77 : decode cX13_answer 77 = .ok (.iload 4, 2) := by decide +kernel
theorem dX13_answer_79 : decode cX13_answer 79 = .ok (.invokevirtual 347, 3) := by decide +kernel
theorem dX13_answer_82 : decode cX13_answer 82 = .ok (.iconst (-1), 1) := by decide +kernel
theorem dX13_answer_83 : decode cX13_answer 83 = .ok (.if_icmp .eq 6, 3) := by decide +kernel
theorem dX13_answer_86 : decode cX13_answer 86 = .ok (.bipush (-5), 2) := by decide +kernel
theorem dX13_answer_88 : decode cX13_answer 88 = .ok (.ireturn, 1) := by decide +kernel
theorem dX13_answer_89 : decode cX13_answer 89 = .ok (.aload_n 0, 1) := by decide +kernel
theorem dX13_answer_90 : decode cX13_answer 90 = .ok (.iload_n 2, 1) := by decide +kernel
theorem dX13_answer_91 : decode cX13_answer 91 = .ok (.iload_n 3, 1) := by decide +kernel
theorem dX13_answer_92 : decode cX13_answer 92 = .ok (.iload 4, 2) := by decide +kernel
theorem dX13_answer_94 : decode cX13_answer 94 = .ok (.invokevirtual 468, 3) := by decide +kernel
theorem dX13_answer_97 : decode cX13_answer 97 = .ok (.aload_n 0, 1) := by decide +kernel
theorem dX13_answer_98 : decode cX13_answer 98 = .ok (.getfield 413, 3) := by decide +kernel
theorem dX13_answer_101 : decode cX13_answer 101 = .ok (.sipush 1000, 3) := by decide +kernel
theorem dX13_answer_104 : decode cX13_answer 104 = .ok (.if_icmp .ne 6, 3) := by decide +kernel
theorem dX13_answer_107 : decode cX13_answer 107 = .ok (.bipush (-5), 2) := by decide +kernel
theorem dX13_answer_109 : decode cX13_answer 109 = .ok (.ireturn, 1) := by decide +kernel
theorem dX13_answer_110 : decode cX13_answer 110 = .ok (.aload_n 0, 1) := by decide +kernel
theorem dX13_answer_111 : decode cX13_answer 111 = .ok (.iload_n 2, 1) := by decide +kernel
theorem dX13_answer_112 : decode cX13_answer 112 = .ok (.iload_n 3, 1) := by decide +kernel
theorem dX13_answer_113 : decode cX13_answer 113 = .ok (.iload 4, 2) := by decide +kernel
theorem dX13_answer_115 : decode cX13_answer 115 = .ok (.invokevirtual 471, 3) := by decide +kernel
theorem dX13_answer_118 : decode cX13_answer 118 = .ok (.aload_n 0, 1) := by decide +kernel
theorem dX13_answer_119 : decode cX13_answer 119 = .ok (.iload_n 1, 1) := by decide +kernel
theorem dX13_answer_120 : decode cX13_answer 120 = .ok (.invokevirtual 474, 3) := by decide +kernel
theorem dX13_answer_123 : decode cX13_answer 123 = .ok (.aload_n 0, 1) := by decide +kernel
theorem dX13_answer_124 : decode cX13_answer 124 = .ok (.getfield 413, 3) := by decide +kernel
theorem dX13_answer_127 : decode cX13_answer 127 = .ok (.ireturn, 1) := by decide +kernel
theorem dX13_isLearner_0 : decode cX13_isLearner 0 = .ok (.iload_n 0, 1) := by decide +kernel
theorem dX13_isLearner_1 : decode cX13_isLearner 1 = .ok (.i2l, 1) := by decide +kernel
theorem dX13_isLearner_2 : decode cX13_isLearner 2 = .ok (.lconst 0, 1) := by decide +kernel
theorem dX13_isLearner_3 : decode cX13_isLearner 3 = .ok (.ldc2_w 451, 3) := by decide +kernel
theorem dX13_isLearner_6 : decode cX13_isLearner 6 = .ok (.invokestatic 301, 3) := by decide +kernel
theorem dX13_isLearner_9 : decode cX13_isLearner 9 = .ok (.ireturn, 1) := by decide +kernel
theorem dX13_change_0 : decode cX13_change 0 = .ok (.aload_n 0, 1) := by decide +kernel
theorem dX13_change_1 : decode cX13_change 1 = .ok (.getfield 313, 3) := by decide +kernel
theorem dX13_change_4 : decode cX13_change 4 = .ok (.ifCond .ne 6, 3) := by decide +kernel
theorem dX13_change_7 : decode cX13_change 7 = .ok (.bipush (-9), 2) := by decide +kernel
theorem dX13_change_9 : decode cX13_change 9 = .ok (.ireturn, 1) := by decide +kernel
theorem dX13_change_10 : decode cX13_change 10 = .ok (.iload_n 1, 1) := by decide +kernel
theorem dX13_change_11 : decode cX13_change 11 = .ok (.ifCond .ne 8, 3) := by decide +kernel
theorem dX13_change_14 : decode cX13_change 14 = .ok (.aload_n 0, 1) := by decide +kernel
theorem dX13_change_15 : decode cX13_change 15 = .ok (.getfield 445, 3) := by decide +kernel
theorem dX13_change_18 : decode cX13_change 18 = .ok (.ireturn, 1) := by decide +kernel
theorem dX13_change_19 : decode cX13_change 19 = .ok (.iload_n 1, 1) := by decide +kernel
theorem dX13_change_20 : decode cX13_change 20 = .ok (.i2l, 1) := by decide +kernel
theorem dX13_change_21 : decode cX13_change 21 = .ok (.ldc2_w 320, 3) := by decide +kernel
theorem dX13_change_24 : decode cX13_change 24 = .ok (.ldc2_w 322, 3) := by decide +kernel
theorem dX13_change_27 : decode cX13_change 27 = .ok (.aload_n 0, 1) := by decide +kernel
theorem dX13_change_28 : decode cX13_change 28 = .ok (.getfield 445, 3) := by decide +kernel
theorem dX13_change_31 : decode cX13_change 31 = .ok (.i2l, 1) := by decide +kernel
theorem dX13_change_32 : decode cX13_change 32 = .ok (.ladd, 1) := by decide +kernel
theorem dX13_change_33 : decode cX13_change 33 = .ok (.invokestatic 301, 3) := by decide +kernel
theorem dX13_change_36 : decode cX13_change 36 = .ok (.ifCond .eq 13, 3) := by decide +kernel
theorem dX13_change_39 : decode cX13_change 39 = .ok (.aload_n 0, 1) := by decide +kernel
theorem dX13_change_40 : decode cX13_change 40 = .ok (.getfield 283, 3) := by decide +kernel
theorem dX13_change_43 : decode cX13_change 43 = .ok (.iload_n 1, 1) := by decide +kernel
theorem dX13_change_44 : decode cX13_change 44 = .ok (.bipush 10, 2) := by decide +kernel
theorem dX13_change_46 : decode cX13_change 46 = .ok (.isub, 1) := by decide +kernel
theorem dX13_change_47 : decode cX13_change 47 = .ok (.iaload, 1) := by decide +kernel
theorem dX13_change_48 : decode cX13_change 48 = .ok (.ireturn, 1) := by decide +kernel
theorem dX13_change_49 : decode cX13_change 49 = .ok (.iload_n 1, 1) := by decide +kernel
theorem dX13_change_50 : decode cX13_change 50 = .ok (.i2l, 1) := by decide +kernel
theorem dX13_change_51 : decode cX13_change 51 = .ok (.ldc2_w 477, 3) := by decide +kernel
theorem dX13_change_54 : decode cX13_change 54 = .ok (.ldc2_w 479, 3) := by decide +kernel
theorem dX13_change_57 : decode cX13_change 57 = .ok (.aload_n 0, 1) := by decide +kernel
theorem dX13_change_58 : decode cX13_change 58 = .ok (.getfield 445, 3) := by decide +kernel
theorem dX13_change_61 : decode cX13_change 61 = .ok (.i2l, 1) := by decide +kernel
theorem dX13_change_62 : decode cX13_change 62 = .ok (.ladd, 1) := by decide +kernel
theorem dX13_change_63 : decode cX13_change 63 = .ok (.invokestatic 301, 3) := by decide +kernel
theorem dX13_change_66 : decode cX13_change 66 = .ok (.ifCond .eq 13, 3) := by decide +kernel
theorem dX13_change_69 : decode cX13_change 69 = .ok (.aload_n 0, 1) := by decide +kernel
theorem dX13_change_70 : decode cX13_change 70 = .ok (.getfield 286, 3) := by decide +kernel
theorem dX13_change_73 : decode cX13_change 73 = .ok (.iload_n 1, 1) := by decide +kernel
theorem dX13_change_74 : decode cX13_change 74 = .ok (.bipush 20, 2) := by decide +kernel
theorem dX13_change_76 : decode cX13_change 76 = .ok (.isub, 1) := by decide +kernel
theorem dX13_change_77 : decode cX13_change 77 = .ok (.iaload, 1) := by decide +kernel
theorem dX13_change_78 : decode cX13_change 78 = .ok (.ireturn, 1) := by decide +kernel
theorem dX13_change_79 : decode cX13_change 79 = .ok (.iload_n 1, 1) := by decide +kernel
theorem dX13_change_80 : decode cX13_change 80 = .ok (.i2l, 1) := by decide +kernel
theorem dX13_change_81 : decode cX13_change 81 = .ok (.ldc2_w 481, 3) := by decide +kernel
theorem dX13_change_84 : decode cX13_change 84 = .ok (.ldc2_w 483, 3) := by decide +kernel
theorem dX13_change_87 : decode cX13_change 87 = .ok (.aload_n 0, 1) := by decide +kernel
theorem dX13_change_88 : decode cX13_change 88 = .ok (.getfield 445, 3) := by decide +kernel
theorem dX13_change_91 : decode cX13_change 91 = .ok (.i2l, 1) := by decide +kernel
theorem dX13_change_92 : decode cX13_change 92 = .ok (.ladd, 1) := by decide +kernel
theorem dX13_change_93 : decode cX13_change 93 = .ok (.invokestatic 301, 3) := by decide +kernel
theorem dX13_change_96 : decode cX13_change 96 = .ok (.ifCond .eq 15, 3) := by decide +kernel
theorem dX13_change_99 : decode cX13_change 99 = .ok (.aload_n 0, 1) := by decide +kernel
theorem dX13_change_100 : decode cX13_change 100 = .ok (.getfield 289, 3) := by decide +kernel
theorem dX13_change_103 : decode cX13_change 103 = .ok (.iload_n 1, 1) := by decide +kernel
theorem dX13_change_104 : decode cX13_change 104 = .ok (.bipush 30, 2) := by decide +kernel
theorem dX13_change_106 : decode cX13_change 106 = .ok (.isub, 1) := by decide +kernel
theorem dX13_change_107 : decode cX13_change 107 = .ok (.iaload, 1) := by decide +kernel
theorem dX13_change_108 : decode cX13_change 108 = .ok (.goto 5, 3) := by decide +kernel
theorem dX13_change_111 : decode cX13_change 111 = .ok (.bipush (-9), 2) := by decide +kernel
theorem dX13_change_113 : decode cX13_change 113 = .ok (.ireturn, 1) := by decide +kernel
theorem dX13_misses_0 : decode cX13_misses 0 = .ok (.iload_n 1, 1) := by decide +kernel
theorem dX13_misses_1 : decode cX13_misses 1 = .ok (.invokestatic 456, 3) := by decide +kernel
theorem dX13_misses_4 : decode cX13_misses 4 = .ok (.ifCond .eq 25, 3) := by decide +kernel
theorem dX13_misses_7 : decode cX13_misses 7 = .ok (.aload_n 0, 1) := by decide +kernel
theorem dX13_misses_8 : decode cX13_misses 8 = .ok (.iload_n 2, 1) := by decide +kernel
theorem dX13_misses_9 : decode cX13_misses 9 = .ok (.invokevirtual 324, 3) := by decide +kernel
theorem dX13_misses_12 : decode cX13_misses 12 = .ok (.ifCond .eq 17, 3) := by decide +kernel
theorem dX13_misses_15 : decode cX13_misses 15 = .ok (.aload_n 0, 1) := by decide +kernel
theorem dX13_misses_16 : decode cX13_misses 16 = .ok (.getfield 277, 3) := by decide +kernel
theorem dX13_misses_19 : decode cX13_misses 19 = .ok (.bipush 60, 2) := by decide +kernel
theorem dX13_misses_21 : decode cX13_misses 21 = .ok (.iload_n 1, 1) := by decide +kernel
theorem dX13_misses_22 : decode cX13_misses 22 = .ok (.imul, 1) := by decide +kernel
theorem dX13_misses_23 : decode cX13_misses 23 = .ok (.iload_n 2, 1) := by decide +kernel
theorem dX13_misses_24 : decode cX13_misses 24 = .ok (.iadd, 1) := by decide +kernel
theorem dX13_misses_25 : decode cX13_misses 25 = .ok (.iaload, 1) := by decide +kernel
theorem dX13_misses_26 : decode cX13_misses 26 = .ok (.goto 5, 3) := by decide +kernel
theorem dX13_misses_29 : decode cX13_misses 29 = .ok (.bipush (-2), 2) := by decide +kernel
theorem dX13_misses_31 : decode cX13_misses 31 = .ok (.ireturn, 1) := by decide +kernel
theorem dX13_drill_0 : decode cX13_drill 0 = .ok (.iload_n 1, 1) := by decide +kernel
theorem dX13_drill_1 : decode cX13_drill 1 = .ok (.invokestatic 456, 3) := by decide +kernel
theorem dX13_drill_4 : decode cX13_drill 4 = .ok (.ifCond .ne 6, 3) := by decide +kernel
theorem dX13_drill_7 : decode cX13_drill 7 = .ok (.bipush (-2), 2) := by decide +kernel
theorem dX13_drill_9 : decode cX13_drill 9 = .ok (.ireturn, 1) := by decide +kernel
theorem dX13_drill_10 : decode cX13_drill 10 = .ok (.iconst (-1), 1) := by decide +kernel
theorem dX13_drill_11 : decode cX13_drill 11 = .ok (.istore_n 2, 1) := by decide +kernel
theorem dX13_drill_12 : decode cX13_drill 12 = .ok (.iconst (-1), 1) := by decide +kernel
theorem dX13_drill_13 : decode cX13_drill 13 = .ok (.istore_n 3, 1) := by decide +kernel
theorem dX13_drill_14 : decode cX13_drill 14 = .ok (.iconst 0, 1) := by decide +kernel
theorem dX13_drill_15 : decode cX13_drill 15 = .ok (.istore 4, 2) := by decide +kernel
theorem dX13_drill_17 : decode cX13_drill 17 = .ok (.iload 4, 2) := by decide +kernel
theorem dX13_drill_19 : decode cX13_drill 19 = .ok (.aload_n 0, 1) := by decide +kernel
theorem dX13_drill_20 : decode cX13_drill 20 = .ok (.getfield 7, 3) := by decide +kernel
theorem dX13_drill_23 : decode cX13_drill 23 = .ok (.iconst 0, 1) := by decide +kernel
theorem dX13_drill_24 : decode cX13_drill 24 = .ok (.iaload, 1) := by decide +kernel
theorem dX13_drill_25 : decode cX13_drill 25 = .ok (.if_icmp .ge 125, 3) := by decide +kernel
theorem dX13_drill_28 : decode cX13_drill 28 = .ok (.iconst 0, 1) := by decide +kernel
theorem dX13_drill_29 : decode cX13_drill 29 = .ok (.istore 5, 2) := by decide +kernel
theorem dX13_drill_31 : decode cX13_drill 31 = .ok (.iload 5, 2) := by decide +kernel
theorem dX13_drill_33 : decode cX13_drill 33 = .ok (.iconst 5, 1) := by decide +kernel
theorem dX13_drill_34 : decode cX13_drill 34 = .ok (.if_icmp .ge 110, 3) := by decide +kernel
theorem dX13_drill_37 : decode cX13_drill 37 = .ok (.iconst 0, 1) := by decide +kernel
theorem dX13_drill_38 : decode cX13_drill 38 = .ok (.istore 6, 2) := by decide +kernel
theorem dX13_drill_40 : decode cX13_drill 40 = .ok (.iload 6, 2) := by decide +kernel
theorem dX13_drill_42 : decode cX13_drill 42 = .ok (.bipush 6, 2) := by decide +kernel
theorem dX13_drill_44 : decode cX13_drill 44 = .ok (.if_icmp .ge 94, 3) := by decide +kernel
theorem dX13_drill_47 : decode cX13_drill 47 = .ok (.iload 4, 2) := by decide +kernel
theorem dX13_drill_49 : decode cX13_drill 49 = .ok (.iload 5, 2) := by decide +kernel
theorem dX13_drill_51 : decode cX13_drill 51 = .ok (.iload 6, 2) := by decide +kernel
theorem dX13_drill_53 : decode cX13_drill 53 = .ok (.invokestatic 459, 3) := by decide +kernel
theorem dX13_drill_56 : decode cX13_drill 56 = .ok (.istore 7, 2) := by decide +kernel
theorem dX13_drill_58 : decode cX13_drill 58 = .ok (.aload_n 0, 1) := by decide +kernel
theorem dX13_drill_59 : decode cX13_drill 59 = .ok (.getfield 280, 3) := by decide +kernel
theorem dX13_drill_62 : decode cX13_drill 62 = .ok (.iconst 3, 1) := by decide +kernel
theorem dX13_drill_63 : decode cX13_drill 63 = .ok (.iload_n 1, 1) := by decide +kernel
theorem dX13_drill_64 : decode cX13_drill 64 = .ok (.imul, 1) := by decide +kernel
theorem dX13_drill_65 : decode cX13_drill 65 = .ok (.iaload, 1) := by decide +kernel
theorem dX13_drill_66 : decode cX13_drill 66 = .ok (.iload 7, 2) := by decide +kernel
theorem dX13_drill_68 : decode cX13_drill 68 = .ok (.if_icmp .eq 64, 3) := by decide +kernel
theorem dX13_drill_71 : decode cX13_drill 71 = .ok (.aload_n 0, 1) := by decide +kernel
theorem dX13_drill_72 : decode cX13_drill 72 = .ok (.getfield 280, 3) := by decide +kernel
theorem dX13_drill_75 : decode cX13_drill 75 = .ok (.iconst 3, 1) := by decide +kernel
theorem dX13_drill_76 : decode cX13_drill 76 = .ok (.iload_n 1, 1) := by decide +kernel
theorem dX13_drill_77 : decode cX13_drill 77 = .ok (.imul, 1) := by decide +kernel
theorem dX13_drill_78 : decode cX13_drill 78 = .ok (.iconst 1, 1) := by decide +kernel
theorem dX13_drill_79 : decode cX13_drill 79 = .ok (.iadd, 1) := by decide +kernel
theorem dX13_drill_80 : decode cX13_drill 80 = .ok (.iaload, 1) := by decide +kernel
theorem dX13_drill_81 : decode cX13_drill 81 = .ok (.iload 7, 2) := by decide +kernel
theorem dX13_drill_83 : decode cX13_drill 83 = .ok (.if_icmp .eq 49, 3) := by decide +kernel
theorem dX13_drill_86 : decode cX13_drill 86 = .ok (.aload_n 0, 1) := by decide +kernel
theorem dX13_drill_87 : decode cX13_drill 87 = .ok (.getfield 280, 3) := by decide +kernel
theorem dX13_drill_90 : decode cX13_drill 90 = .ok (.iconst 3, 1) := by decide +kernel
theorem dX13_drill_91 : decode cX13_drill 91 = .ok (.iload_n 1, 1) := by decide +kernel
theorem dX13_drill_92 : decode cX13_drill 92 = .ok (.imul, 1) := by decide +kernel
theorem dX13_drill_93 : decode cX13_drill 93 = .ok (.iconst 2, 1) := by decide +kernel
theorem dX13_drill_94 : decode cX13_drill 94 = .ok (.iadd, 1) := by decide +kernel
theorem dX13_drill_95 : decode cX13_drill 95 = .ok (.iaload, 1) := by decide +kernel
theorem dX13_drill_96 : decode cX13_drill 96 = .ok (.iload 7, 2) := by decide +kernel
theorem dX13_drill_98 : decode cX13_drill 98 = .ok (.if_icmp .ne 6, 3) := by decide +kernel
theorem dX13_drill_101 : decode cX13_drill 101 = .ok (.goto 31, 3) := by decide +kernel
theorem dX13_drill_104 : decode cX13_drill 104 = .ok (.aload_n 0, 1) := by decide +kernel
theorem dX13_drill_105 : decode cX13_drill 105 = .ok (.iload_n 1, 1) := by decide +kernel
theorem dX13_drill_106 : decode cX13_drill 106 = .ok (.iload 4, 2) := by decide +kernel
theorem dX13_drill_108 : decode cX13_drill 108 = .ok (.iload 5, 2) := by decide +kernel
theorem dX13_drill_110 : decode cX13_drill 110 = .ok (.iload 6, 2) := by decide +kernel
theorem dX13_drill_112 : decode cX13_drill 112 = .ok (.invokevirtual 485, 3) := by decide +kernel
theorem dX13_drill_115 : decode cX13_drill 115 = .ok (.istore 8, 2) := by decide +kernel
theorem dX13_drill_117 : decode cX13_drill 117 = .ok (.iload 8, 2) := by decide +kernel
theorem dX13_drill_119 : decode cX13_drill 119 = .ok (.iload_n 3, 1) := by decide +kernel
theorem dX13_drill_120 : decode cX13_drill 120 = .ok (.if_icmp .gt 6, 3) := by decide +kernel
theorem dX13_drill_123 : decode cX13_drill 123 = .ok (.goto 9, 3) := by decide +kernel
theorem dX13_drill_126 : decode cX13_drill 126 = .ok (.iload 8, 2) := by decide +kernel
theorem dX13_drill_128 : decode cX13_drill 128 = .ok (.istore_n 3, 1) := by decide +kernel
theorem dX13_drill_129 : decode cX13_drill 129 = .ok (.iload 7, 2) := by decide +kernel
theorem dX13_drill_131 : decode cX13_drill 131 = .ok (.istore_n 2, 1) := by decide +kernel
theorem dX13_drill_132 : decode cX13_drill 132 = .ok (.iinc 6 1, 3) := by decide +kernel
theorem dX13_drill_135 : decode cX13_drill 135 = .ok (.goto (-95), 3) := by decide +kernel
theorem dX13_drill_138 : decode cX13_drill 138 = .ok (.iinc 5 1, 3) := by decide +kernel
theorem dX13_drill_141 : decode cX13_drill 141 = .ok (.goto (-110), 3) := by decide +kernel
theorem dX13_drill_144 : decode cX13_drill 144 = .ok (.iinc 4 1, 3) := by decide +kernel
theorem dX13_drill_147 : decode cX13_drill 147 = .ok (.goto (-130), 3) := by decide +kernel
theorem dX13_drill_150 : decode cX13_drill 150 = .ok (.iload_n 2, 1) := by decide +kernel
theorem dX13_drill_151 : decode cX13_drill 151 = .ok (.ireturn, 1) := by decide +kernel
theorem dX13_count_0 : decode cX13_count 0 = .ok (.iload_n 1, 1) := by decide +kernel
theorem dX13_count_1 : decode cX13_count 1 = .ok (.ifCond .ne 12, 3) := by decide +kernel
theorem dX13_count_4 : decode cX13_count 4 = .ok (.aload_n 0, 1) := by decide +kernel
theorem dX13_count_5 : decode cX13_count 5 = .ok (.getfield 1, 3) := by decide +kernel
theorem dX13_count_8 : decode cX13_count 8 = .ok (.iconst 0, 1) := by decide +kernel
theorem dX13_count_9 : decode cX13_count 9 = .ok (.iaload, 1) := by decide +kernel
theorem dX13_count_10 : decode cX13_count 10 = .ok (.goto 44, 3) := by decide +kernel
theorem dX13_count_13 : decode cX13_count 13 = .ok (.iload_n 1, 1) := by decide +kernel
theorem dX13_count_14 : decode cX13_count 14 = .ok (.iconst 1, 1) := by decide +kernel
theorem dX13_count_15 : decode cX13_count 15 = .ok (.if_icmp .ne 12, 3) := by decide +kernel
theorem dX13_count_18 : decode cX13_count 18 = .ok (.aload_n 0, 1) := by decide +kernel
theorem dX13_count_19 : decode cX13_count 19 = .ok (.getfield 7, 3) := by decide +kernel
theorem dX13_count_22 : decode cX13_count 22 = .ok (.iconst 0, 1) := by decide +kernel
theorem dX13_count_23 : decode cX13_count 23 = .ok (.iaload, 1) := by decide +kernel
theorem dX13_count_24 : decode cX13_count 24 = .ok (.goto 30, 3) := by decide +kernel
theorem dX13_count_27 : decode cX13_count 27 = .ok (.iload_n 1, 1) := by decide +kernel
theorem dX13_count_28 : decode cX13_count 28 = .ok (.iconst 2, 1) := by decide +kernel
theorem dX13_count_29 : decode cX13_count 29 = .ok (.if_icmp .ne 12, 3) := by decide +kernel
theorem dX13_count_32 : decode cX13_count 32 = .ok (.aload_n 0, 1) := by decide +kernel
theorem dX13_count_33 : decode cX13_count 33 = .ok (.getfield 10, 3) := by decide +kernel
theorem dX13_count_36 : decode cX13_count 36 = .ok (.iconst 0, 1) := by decide +kernel
theorem dX13_count_37 : decode cX13_count 37 = .ok (.iaload, 1) := by decide +kernel
theorem dX13_count_38 : decode cX13_count 38 = .ok (.goto 16, 3) := by decide +kernel
theorem dX13_count_41 : decode cX13_count 41 = .ok (.iload_n 1, 1) := by decide +kernel
theorem dX13_count_42 : decode cX13_count 42 = .ok (.iconst 3, 1) := by decide +kernel
theorem dX13_count_43 : decode cX13_count 43 = .ok (.if_icmp .ne 10, 3) := by decide +kernel
theorem dX13_count_46 : decode cX13_count 46 = .ok (.aload_n 0, 1) := by decide +kernel
theorem dX13_count_47 : decode cX13_count 47 = .ok (.getfield 295, 3) := by decide +kernel
theorem dX13_count_50 : decode cX13_count 50 = .ok (.goto 4, 3) := by decide +kernel
theorem dX13_count_53 : decode cX13_count 53 = .ok (.iconst (-1), 1) := by decide +kernel
theorem dX13_count_54 : decode cX13_count 54 = .ok (.ireturn, 1) := by decide +kernel
theorem dL_law_0 : decode cL_law 0 = .ok (.new 7, 3) := by decide +kernel
theorem dL_law_3 : decode cL_law 3 = .ok (.dup, 1) := by decide +kernel
theorem dL_law_4 : decode cL_law 4 = .ok (.invokespecial 9, 3) := by decide +kernel
theorem dL_law_7 : decode cL_law 7 = .ok (.astore_n 1, 1) := by decide +kernel
theorem dL_law_8 : decode cL_law 8 = .ok (.new 10, 3) := by decide +kernel
theorem dL_law_11 : decode cL_law 11 = .ok (.dup, 1) := by decide +kernel
theorem dL_law_12 : decode cL_law 12 = .ok (.invokespecial 12, 3) := by decide +kernel
theorem dL_law_15 : decode cL_law 15 = .ok (.astore_n 2, 1) := by decide +kernel
theorem dL_law_16 : decode cL_law 16 = .ok (.iconst 0, 1) := by decide +kernel
theorem dL_law_17 : decode cL_law 17 = .ok (.istore_n 3, 1) := by decide +kernel
theorem dL_law_18 : decode cL_law 18 = .ok (.iload_n 3, 1) := by decide +kernel
theorem dL_law_19 : decode cL_law 19 = .ok (.aload_n 0, 1) := by decide +kernel
theorem dL_law_20 : decode cL_law 20 = .ok (.arraylength, 1) := by decide +kernel
theorem dL_law_21 : decode cL_law 21 = .ok (.bipush 6, 2) := by decide +kernel
theorem dL_law_23 : decode cL_law 23 = .ok (.isub, 1) := by decide +kernel
theorem dL_law_24 : decode cL_law 24 = .ok (.if_icmp .gt 743, 3) := by decide +kernel
theorem dL_law_27 : decode cL_law 27 = .ok (.aload_n 0, 1) := by decide +kernel
theorem dL_law_28 : decode cL_law 28 = .ok (.iload_n 3, 1) := by decide +kernel
theorem dL_law_29 : decode cL_law 29 = .ok (.iaload, 1) := by decide +kernel
theorem dL_law_30 : decode cL_law 30 = .ok (.bipush 31, 2) := by decide +kernel
theorem dL_law_32 : decode cL_law 32 = .ok (.iand, 1) := by decide +kernel
theorem dL_law_33 : decode cL_law 33 = .ok (.tableswitch 728 0 18 #[91, 154, 177, 190, 213, 246, 279, 322, 385, 448, 491, 504, 537, 550, 573, 626, 649, 682, 705], 91) := by decide +kernel
theorem dL_law_124 : decode cL_law 124 = .ok (.aload_n 1, 1) := by decide +kernel
theorem dL_law_125 : decode cL_law 125 = .ok (.aload_n 0, 1) := by decide +kernel
theorem dL_law_126 : decode cL_law 126 = .ok (.iload_n 3, 1) := by decide +kernel
theorem dL_law_127 : decode cL_law 127 = .ok (.iconst 1, 1) := by decide +kernel
theorem dL_law_128 : decode cL_law 128 = .ok (.iadd, 1) := by decide +kernel
theorem dL_law_129 : decode cL_law 129 = .ok (.iaload, 1) := by decide +kernel
theorem dL_law_130 : decode cL_law 130 = .ok (.aload_n 0, 1) := by decide +kernel
theorem dL_law_131 : decode cL_law 131 = .ok (.iload_n 3, 1) := by decide +kernel
theorem dL_law_132 : decode cL_law 132 = .ok (.iconst 2, 1) := by decide +kernel
theorem dL_law_133 : decode cL_law 133 = .ok (.iadd, 1) := by decide +kernel
theorem dL_law_134 : decode cL_law 134 = .ok (.iaload, 1) := by decide +kernel
theorem dL_law_135 : decode cL_law 135 = .ok (.aload_n 0, 1) := by decide +kernel
theorem dL_law_136 : decode cL_law 136 = .ok (.iload_n 3, 1) := by decide +kernel
theorem dL_law_137 : decode cL_law 137 = .ok (.iconst 3, 1) := by decide +kernel
theorem dL_law_138 : decode cL_law 138 = .ok (.iadd, 1) := by decide +kernel
theorem dL_law_139 : decode cL_law 139 = .ok (.iaload, 1) := by decide +kernel
theorem dL_law_140 : decode cL_law 140 = .ok (.aload_n 0, 1) := by decide +kernel
theorem dL_law_141 : decode cL_law 141 = .ok (.iload_n 3, 1) := by decide +kernel
theorem dL_law_142 : decode cL_law 142 = .ok (.iconst 4, 1) := by decide +kernel
theorem dL_law_143 : decode cL_law 143 = .ok (.iadd, 1) := by decide +kernel
theorem dL_law_144 : decode cL_law 144 = .ok (.iaload, 1) := by decide +kernel
theorem dL_law_145 : decode cL_law 145 = .ok (.aload_n 0, 1) := by decide +kernel
theorem dL_law_146 : decode cL_law 146 = .ok (.iload_n 3, 1) := by decide +kernel
theorem dL_law_147 : decode cL_law 147 = .ok (.iconst 5, 1) := by decide +kernel
theorem dL_law_148 : decode cL_law 148 = .ok (.iadd, 1) := by decide +kernel
theorem dL_law_149 : decode cL_law 149 = .ok (.iaload, 1) := by decide +kernel
theorem dL_law_150 : decode cL_law 150 = .ok (.invokevirtual 13, 3) := by decide +kernel
theorem dL_law_153 : decode cL_law 153 = .ok (.pop, 1) := by decide +kernel
theorem dL_law_154 : decode cL_law 154 = .ok (.aload_n 2, 1) := by decide +kernel
theorem dL_law_155 : decode cL_law 155 = .ok (.aload_n 0, 1) := by decide +kernel
theorem dL_law_156 : decode cL_law 156 = .ok (.iload_n 3, 1) := by decide +kernel
theorem dL_law_157 : decode cL_law 157 = .ok (.iconst 1, 1) := by decide +kernel
theorem dL_law_158 : decode cL_law 158 = .ok (.iadd, 1) := by decide +kernel
theorem dL_law_159 : decode cL_law 159 = .ok (.iaload, 1) := by decide +kernel
theorem dL_law_160 : decode cL_law 160 = .ok (.aload_n 0, 1) := by decide +kernel
theorem dL_law_161 : decode cL_law 161 = .ok (.iload_n 3, 1) := by decide +kernel
theorem dL_law_162 : decode cL_law 162 = .ok (.iconst 2, 1) := by decide +kernel
theorem dL_law_163 : decode cL_law 163 = .ok (.iadd, 1) := by decide +kernel
theorem dL_law_164 : decode cL_law 164 = .ok (.iaload, 1) := by decide +kernel
theorem dL_law_165 : decode cL_law 165 = .ok (.aload_n 0, 1) := by decide +kernel
theorem dL_law_166 : decode cL_law 166 = .ok (.iload_n 3, 1) := by decide +kernel
theorem dL_law_167 : decode cL_law 167 = .ok (.iconst 3, 1) := by decide +kernel
theorem dL_law_168 : decode cL_law 168 = .ok (.iadd, 1) := by decide +kernel
theorem dL_law_169 : decode cL_law 169 = .ok (.iaload, 1) := by decide +kernel
theorem dL_law_170 : decode cL_law 170 = .ok (.aload_n 0, 1) := by decide +kernel
theorem dL_law_171 : decode cL_law 171 = .ok (.iload_n 3, 1) := by decide +kernel
theorem dL_law_172 : decode cL_law 172 = .ok (.iconst 4, 1) := by decide +kernel
theorem dL_law_173 : decode cL_law 173 = .ok (.iadd, 1) := by decide +kernel
theorem dL_law_174 : decode cL_law 174 = .ok (.iaload, 1) := by decide +kernel
theorem dL_law_175 : decode cL_law 175 = .ok (.aload_n 0, 1) := by decide +kernel
theorem dL_law_176 : decode cL_law 176 = .ok (.iload_n 3, 1) := by decide +kernel
theorem dL_law_177 : decode cL_law 177 = .ok (.iconst 5, 1) := by decide +kernel
theorem dL_law_178 : decode cL_law 178 = .ok (.iadd, 1) := by decide +kernel
theorem dL_law_179 : decode cL_law 179 = .ok (.iaload, 1) := by decide +kernel
theorem dL_law_180 : decode cL_law 180 = .ok (.invokevirtual 17, 3) := by decide +kernel
theorem dL_law_183 : decode cL_law 183 = .ok (.pop, 1) := by decide +kernel
theorem dL_law_184 : decode cL_law 184 = .ok (.goto 577, 3) := by decide +kernel
theorem dL_law_187 : decode cL_law 187 = .ok (.aload_n 1, 1) := by decide +kernel
theorem dL_law_188 : decode cL_law 188 = .ok (.aload_n 0, 1) := by decide +kernel
theorem dL_law_189 : decode cL_law 189 = .ok (.iload_n 3, 1) := by decide +kernel
theorem dL_law_190 : decode cL_law 190 = .ok (.iconst 1, 1) := by decide +kernel
theorem dL_law_191 : decode cL_law 191 = .ok (.iadd, 1) := by decide +kernel
theorem dL_law_192 : decode cL_law 192 = .ok (.iaload, 1) := by decide +kernel
theorem dL_law_193 : decode cL_law 193 = .ok (.invokevirtual 18, 3) := by decide +kernel
theorem dL_law_196 : decode cL_law 196 = .ok (.pop, 1) := by decide +kernel
theorem dL_law_197 : decode cL_law 197 = .ok (.aload_n 2, 1) := by decide +kernel
theorem dL_law_198 : decode cL_law 198 = .ok (.aload_n 0, 1) := by decide +kernel
theorem dL_law_199 : decode cL_law 199 = .ok (.iload_n 3, 1) := by decide +kernel
theorem dL_law_200 : decode cL_law 200 = .ok (.iconst 1, 1) := by decide +kernel
theorem dL_law_201 : decode cL_law 201 = .ok (.iadd, 1) := by decide +kernel
theorem dL_law_202 : decode cL_law 202 = .ok (.iaload, 1) := by decide +kernel
theorem dL_law_203 : decode cL_law 203 = .ok (.invokevirtual 22, 3) := by decide +kernel
theorem dL_law_206 : decode cL_law 206 = .ok (.pop, 1) := by decide +kernel
theorem dL_law_207 : decode cL_law 207 = .ok (.goto 554, 3) := by decide +kernel
theorem dL_law_210 : decode cL_law 210 = .ok (.aload_n 1, 1) := by decide +kernel
theorem dL_law_211 : decode cL_law 211 = .ok (.invokevirtual 23, 3) := by decide +kernel
theorem dL_law_214 : decode cL_law 214 = .ok (.pop, 1) := by decide +kernel
theorem dL_law_215 : decode cL_law 215 = .ok (.aload_n 2, 1) := by decide +kernel
theorem dL_law_216 : decode cL_law 216 = .ok (.invokevirtual 27, 3) := by decide +kernel
theorem dL_law_219 : decode cL_law 219 = .ok (.pop, 1) := by decide +kernel
theorem dL_law_220 : decode cL_law 220 = .ok (.goto 541, 3) := by decide +kernel
theorem dL_law_223 : decode cL_law 223 = .ok (.aload_n 1, 1) := by decide +kernel
theorem dL_law_224 : decode cL_law 224 = .ok (.aload_n 0, 1) := by decide +kernel
theorem dL_law_225 : decode cL_law 225 = .ok (.iload_n 3, 1) := by decide +kernel
theorem dL_law_226 : decode cL_law 226 = .ok (.iconst 1, 1) := by decide +kernel
theorem dL_law_227 : decode cL_law 227 = .ok (.iadd, 1) := by decide +kernel
theorem dL_law_228 : decode cL_law 228 = .ok (.iaload, 1) := by decide +kernel
theorem dL_law_229 : decode cL_law 229 = .ok (.invokevirtual 28, 3) := by decide +kernel
theorem dL_law_232 : decode cL_law 232 = .ok (.pop, 1) := by decide +kernel
theorem dL_law_233 : decode cL_law 233 = .ok (.aload_n 2, 1) := by decide +kernel
theorem dL_law_234 : decode cL_law 234 = .ok (.aload_n 0, 1) := by decide +kernel
theorem dL_law_235 : decode cL_law 235 = .ok (.iload_n 3, 1) := by decide +kernel
theorem dL_law_236 : decode cL_law 236 = .ok (.iconst 1, 1) := by decide +kernel
theorem dL_law_237 : decode cL_law 237 = .ok (.iadd, 1) := by decide +kernel
theorem dL_law_238 : decode cL_law 238 = .ok (.iaload, 1) := by decide +kernel
theorem dL_law_239 : decode cL_law 239 = .ok (.invokevirtual 31, 3) := by decide +kernel
theorem dL_law_242 : decode cL_law 242 = .ok (.pop, 1) := by decide +kernel
theorem dL_law_243 : decode cL_law 243 = .ok (.goto 518, 3) := by decide +kernel
theorem dL_law_246 : decode cL_law 246 = .ok (.aload_n 1, 1) := by decide +kernel
theorem dL_law_247 : decode cL_law 247 = .ok (.aload_n 0, 1) := by decide +kernel
theorem dL_law_248 : decode cL_law 248 = .ok (.iload_n 3, 1) := by decide +kernel
theorem dL_law_249 : decode cL_law 249 = .ok (.iconst 1, 1) := by decide +kernel
theorem dL_law_250 : decode cL_law 250 = .ok (.iadd, 1) := by decide +kernel
theorem dL_law_251 : decode cL_law 251 = .ok (.iaload, 1) := by decide +kernel
theorem dL_law_252 : decode cL_law 252 = .ok (.aload_n 0, 1) := by decide +kernel
theorem dL_law_253 : decode cL_law 253 = .ok (.iload_n 3, 1) := by decide +kernel
theorem dL_law_254 : decode cL_law 254 = .ok (.iconst 2, 1) := by decide +kernel
theorem dL_law_255 : decode cL_law 255 = .ok (.iadd, 1) := by decide +kernel
theorem dL_law_256 : decode cL_law 256 = .ok (.iaload, 1) := by decide +kernel
theorem dL_law_257 : decode cL_law 257 = .ok (.invokevirtual 32, 3) := by decide +kernel
theorem dL_law_260 : decode cL_law 260 = .ok (.pop, 1) := by decide +kernel
theorem dL_law_261 : decode cL_law 261 = .ok (.aload_n 2, 1) := by decide +kernel
theorem dL_law_262 : decode cL_law 262 = .ok (.aload_n 0, 1) := by decide +kernel
theorem dL_law_263 : decode cL_law 263 = .ok (.iload_n 3, 1) := by decide +kernel
theorem dL_law_264 : decode cL_law 264 = .ok (.iconst 1, 1) := by decide +kernel
theorem dL_law_265 : decode cL_law 265 = .ok (.iadd, 1) := by decide +kernel
theorem dL_law_266 : decode cL_law 266 = .ok (.iaload, 1) := by decide +kernel
theorem dL_law_267 : decode cL_law 267 = .ok (.aload_n 0, 1) := by decide +kernel
theorem dL_law_268 : decode cL_law 268 = .ok (.iload_n 3, 1) := by decide +kernel
theorem dL_law_269 : decode cL_law 269 = .ok (.iconst 2, 1) := by decide +kernel
theorem dL_law_270 : decode cL_law 270 = .ok (.iadd, 1) := by decide +kernel
theorem dL_law_271 : decode cL_law 271 = .ok (.iaload, 1) := by decide +kernel
theorem dL_law_272 : decode cL_law 272 = .ok (.invokevirtual 36, 3) := by decide +kernel
theorem dL_law_275 : decode cL_law 275 = .ok (.pop, 1) := by decide +kernel
theorem dL_law_276 : decode cL_law 276 = .ok (.goto 485, 3) := by decide +kernel
theorem dL_law_279 : decode cL_law 279 = .ok (.aload_n 1, 1) := by decide +kernel
theorem dL_law_280 : decode cL_law 280 = .ok (.aload_n 0, 1) := by decide +kernel
theorem dL_law_281 : decode cL_law 281 = .ok (.iload_n 3, 1) := by decide +kernel
theorem dL_law_282 : decode cL_law 282 = .ok (.iconst 1, 1) := by decide +kernel
theorem dL_law_283 : decode cL_law 283 = .ok (.iadd, 1) := by decide +kernel
theorem dL_law_284 : decode cL_law 284 = .ok (.iaload, 1) := by decide +kernel
theorem dL_law_285 : decode cL_law 285 = .ok (.aload_n 0, 1) := by decide +kernel
theorem dL_law_286 : decode cL_law 286 = .ok (.iload_n 3, 1) := by decide +kernel
theorem dL_law_287 : decode cL_law 287 = .ok (.iconst 2, 1) := by decide +kernel
theorem dL_law_288 : decode cL_law 288 = .ok (.iadd, 1) := by decide +kernel
theorem dL_law_289 : decode cL_law 289 = .ok (.iaload, 1) := by decide +kernel
theorem dL_law_290 : decode cL_law 290 = .ok (.invokevirtual 37, 3) := by decide +kernel
theorem dL_law_293 : decode cL_law 293 = .ok (.pop, 1) := by decide +kernel
theorem dL_law_294 : decode cL_law 294 = .ok (.aload_n 2, 1) := by decide +kernel
theorem dL_law_295 : decode cL_law 295 = .ok (.aload_n 0, 1) := by decide +kernel
theorem dL_law_296 : decode cL_law 296 = .ok (.iload_n 3, 1) := by decide +kernel
theorem dL_law_297 : decode cL_law 297 = .ok (.iconst 1, 1) := by decide +kernel
theorem dL_law_298 : decode cL_law 298 = .ok (.iadd, 1) := by decide +kernel
theorem dL_law_299 : decode cL_law 299 = .ok (.iaload, 1) := by decide +kernel
theorem dL_law_300 : decode cL_law 300 = .ok (.aload_n 0, 1) := by decide +kernel
theorem dL_law_301 : decode cL_law 301 = .ok (.iload_n 3, 1) := by decide +kernel
theorem dL_law_302 : decode cL_law 302 = .ok (.iconst 2, 1) := by decide +kernel
theorem dL_law_303 : decode cL_law 303 = .ok (.iadd, 1) := by decide +kernel
theorem dL_law_304 : decode cL_law 304 = .ok (.iaload, 1) := by decide +kernel
theorem dL_law_305 : decode cL_law 305 = .ok (.invokevirtual 40, 3) := by decide +kernel
theorem dL_law_308 : decode cL_law 308 = .ok (.pop, 1) := by decide +kernel
theorem dL_law_309 : decode cL_law 309 = .ok (.goto 452, 3) := by decide +kernel
theorem dL_law_312 : decode cL_law 312 = .ok (.aload_n 1, 1) := by decide +kernel
theorem dL_law_313 : decode cL_law 313 = .ok (.aload_n 0, 1) := by decide +kernel
theorem dL_law_314 : decode cL_law 314 = .ok (.iload_n 3, 1) := by decide +kernel
theorem dL_law_315 : decode cL_law 315 = .ok (.iconst 1, 1) := by decide +kernel
theorem dL_law_316 : decode cL_law 316 = .ok (.iadd, 1) := by decide +kernel
theorem dL_law_317 : decode cL_law 317 = .ok (.iaload, 1) := by decide +kernel
theorem dL_law_318 : decode cL_law 318 = .ok (.aload_n 0, 1) := by decide +kernel
theorem dL_law_319 : decode cL_law 319 = .ok (.iload_n 3, 1) := by decide +kernel
theorem dL_law_320 : decode cL_law 320 = .ok (.iconst 2, 1) := by decide +kernel
theorem dL_law_321 : decode cL_law 321 = .ok (.iadd, 1) := by decide +kernel
theorem dL_law_322 : decode cL_law 322 = .ok (.iaload, 1) := by decide +kernel
theorem dL_law_323 : decode cL_law 323 = .ok (.aload_n 0, 1) := by decide +kernel
theorem dL_law_324 : decode cL_law 324 = .ok (.iload_n 3, 1) := by decide +kernel
theorem dL_law_325 : decode cL_law 325 = .ok (.iconst 3, 1) := by decide +kernel
theorem dL_law_326 : decode cL_law 326 = .ok (.iadd, 1) := by decide +kernel
theorem dL_law_327 : decode cL_law 327 = .ok (.iaload, 1) := by decide +kernel
theorem dL_law_328 : decode cL_law 328 = .ok (.invokevirtual 41, 3) := by decide +kernel
theorem dL_law_331 : decode cL_law 331 = .ok (.pop, 1) := by decide +kernel
theorem dL_law_332 : decode cL_law 332 = .ok (.aload_n 2, 1) := by decide +kernel
theorem dL_law_333 : decode cL_law 333 = .ok (.aload_n 0, 1) := by decide +kernel
theorem dL_law_334 : decode cL_law 334 = .ok (.iload_n 3, 1) := by decide +kernel
theorem dL_law_335 : decode cL_law 335 = .ok (.iconst 1, 1) := by decide +kernel
theorem dL_law_336 : decode cL_law 336 = .ok (.iadd, 1) := by decide +kernel
theorem dL_law_337 : decode cL_law 337 = .ok (.iaload, 1) := by decide +kernel
theorem dL_law_338 : decode cL_law 338 = .ok (.aload_n 0, 1) := by decide +kernel
theorem dL_law_339 : decode cL_law 339 = .ok (.iload_n 3, 1) := by decide +kernel
theorem dL_law_340 : decode cL_law 340 = .ok (.iconst 2, 1) := by decide +kernel
theorem dL_law_341 : decode cL_law 341 = .ok (.iadd, 1) := by decide +kernel
theorem dL_law_342 : decode cL_law 342 = .ok (.iaload, 1) := by decide +kernel
theorem dL_law_343 : decode cL_law 343 = .ok (.aload_n 0, 1) := by decide +kernel
theorem dL_law_344 : decode cL_law 344 = .ok (.iload_n 3, 1) := by decide +kernel
theorem dL_law_345 : decode cL_law 345 = .ok (.iconst 3, 1) := by decide +kernel
theorem dL_law_346 : decode cL_law 346 = .ok (.iadd, 1) := by decide +kernel
theorem dL_law_347 : decode cL_law 347 = .ok (.iaload, 1) := by decide +kernel
theorem dL_law_348 : decode cL_law 348 = .ok (.invokevirtual 45, 3) := by decide +kernel
theorem dL_law_351 : decode cL_law 351 = .ok (.pop, 1) := by decide +kernel
theorem dL_law_352 : decode cL_law 352 = .ok (.goto 409, 3) := by decide +kernel
theorem dL_law_355 : decode cL_law 355 = .ok (.aload_n 1, 1) := by decide +kernel
theorem dL_law_356 : decode cL_law 356 = .ok (.aload_n 0, 1) := by decide +kernel
theorem dL_law_357 : decode cL_law 357 = .ok (.iload_n 3, 1) := by decide +kernel
theorem dL_law_358 : decode cL_law 358 = .ok (.iconst 1, 1) := by decide +kernel
theorem dL_law_359 : decode cL_law 359 = .ok (.iadd, 1) := by decide +kernel
theorem dL_law_360 : decode cL_law 360 = .ok (.iaload, 1) := by decide +kernel
theorem dL_law_361 : decode cL_law 361 = .ok (.aload_n 0, 1) := by decide +kernel
theorem dL_law_362 : decode cL_law 362 = .ok (.iload_n 3, 1) := by decide +kernel
theorem dL_law_363 : decode cL_law 363 = .ok (.iconst 2, 1) := by decide +kernel
theorem dL_law_364 : decode cL_law 364 = .ok (.iadd, 1) := by decide +kernel
theorem dL_law_365 : decode cL_law 365 = .ok (.iaload, 1) := by decide +kernel
theorem dL_law_366 : decode cL_law 366 = .ok (.aload_n 0, 1) := by decide +kernel
theorem dL_law_367 : decode cL_law 367 = .ok (.iload_n 3, 1) := by decide +kernel
theorem dL_law_368 : decode cL_law 368 = .ok (.iconst 3, 1) := by decide +kernel
theorem dL_law_369 : decode cL_law 369 = .ok (.iadd, 1) := by decide +kernel
theorem dL_law_370 : decode cL_law 370 = .ok (.iaload, 1) := by decide +kernel
theorem dL_law_371 : decode cL_law 371 = .ok (.aload_n 0, 1) := by decide +kernel
theorem dL_law_372 : decode cL_law 372 = .ok (.iload_n 3, 1) := by decide +kernel
theorem dL_law_373 : decode cL_law 373 = .ok (.iconst 4, 1) := by decide +kernel
theorem dL_law_374 : decode cL_law 374 = .ok (.iadd, 1) := by decide +kernel
theorem dL_law_375 : decode cL_law 375 = .ok (.iaload, 1) := by decide +kernel
theorem dL_law_376 : decode cL_law 376 = .ok (.aload_n 0, 1) := by decide +kernel
theorem dL_law_377 : decode cL_law 377 = .ok (.iload_n 3, 1) := by decide +kernel
theorem dL_law_378 : decode cL_law 378 = .ok (.iconst 5, 1) := by decide +kernel
theorem dL_law_379 : decode cL_law 379 = .ok (.iadd, 1) := by decide +kernel
theorem dL_law_380 : decode cL_law 380 = .ok (.iaload, 1) := by decide +kernel
theorem dL_law_381 : decode cL_law 381 = .ok (.invokevirtual 46, 3) := by decide +kernel
theorem dL_law_384 : decode cL_law 384 = .ok (.pop, 1) := by decide +kernel
theorem dL_law_385 : decode cL_law 385 = .ok (.aload_n 2, 1) := by decide +kernel
theorem dL_law_386 : decode cL_law 386 = .ok (.aload_n 0, 1) := by decide +kernel
theorem dL_law_387 : decode cL_law 387 = .ok (.iload_n 3, 1) := by decide +kernel
theorem dL_law_388 : decode cL_law 388 = .ok (.iconst 1, 1) := by decide +kernel
theorem dL_law_389 : decode cL_law 389 = .ok (.iadd, 1) := by decide +kernel
theorem dL_law_390 : decode cL_law 390 = .ok (.iaload, 1) := by decide +kernel
theorem dL_law_391 : decode cL_law 391 = .ok (.aload_n 0, 1) := by decide +kernel
theorem dL_law_392 : decode cL_law 392 = .ok (.iload_n 3, 1) := by decide +kernel
theorem dL_law_393 : decode cL_law 393 = .ok (.iconst 2, 1) := by decide +kernel
theorem dL_law_394 : decode cL_law 394 = .ok (.iadd, 1) := by decide +kernel
theorem dL_law_395 : decode cL_law 395 = .ok (.iaload, 1) := by decide +kernel
theorem dL_law_396 : decode cL_law 396 = .ok (.aload_n 0, 1) := by decide +kernel
theorem dL_law_397 : decode cL_law 397 = .ok (.iload_n 3, 1) := by decide +kernel
theorem dL_law_398 : decode cL_law 398 = .ok (.iconst 3, 1) := by decide +kernel
theorem dL_law_399 : decode cL_law 399 = .ok (.iadd, 1) := by decide +kernel
theorem dL_law_400 : decode cL_law 400 = .ok (.iaload, 1) := by decide +kernel
theorem dL_law_401 : decode cL_law 401 = .ok (.aload_n 0, 1) := by decide +kernel
theorem dL_law_402 : decode cL_law 402 = .ok (.iload_n 3, 1) := by decide +kernel
theorem dL_law_403 : decode cL_law 403 = .ok (.iconst 4, 1) := by decide +kernel
theorem dL_law_404 : decode cL_law 404 = .ok (.iadd, 1) := by decide +kernel
theorem dL_law_405 : decode cL_law 405 = .ok (.iaload, 1) := by decide +kernel
theorem dL_law_406 : decode cL_law 406 = .ok (.aload_n 0, 1) := by decide +kernel
theorem dL_law_407 : decode cL_law 407 = .ok (.iload_n 3, 1) := by decide +kernel
theorem dL_law_408 : decode cL_law 408 = .ok (.iconst 5, 1) := by decide +kernel
theorem dL_law_409 : decode cL_law 409 = .ok (.iadd, 1) := by decide +kernel
theorem dL_law_410 : decode cL_law 410 = .ok (.iaload, 1) := by decide +kernel
theorem dL_law_411 : decode cL_law 411 = .ok (.invokevirtual 49, 3) := by decide +kernel
theorem dL_law_414 : decode cL_law 414 = .ok (.pop, 1) := by decide +kernel
theorem dL_law_415 : decode cL_law 415 = .ok (.goto 346, 3) := by decide +kernel
theorem dL_law_418 : decode cL_law 418 = .ok (.aload_n 1, 1) := by decide +kernel
theorem dL_law_419 : decode cL_law 419 = .ok (.aload_n 0, 1) := by decide +kernel
theorem dL_law_420 : decode cL_law 420 = .ok (.iload_n 3, 1) := by decide +kernel
theorem dL_law_421 : decode cL_law 421 = .ok (.iconst 1, 1) := by decide +kernel
theorem dL_law_422 : decode cL_law 422 = .ok (.iadd, 1) := by decide +kernel
theorem dL_law_423 : decode cL_law 423 = .ok (.iaload, 1) := by decide +kernel
theorem dL_law_424 : decode cL_law 424 = .ok (.aload_n 0, 1) := by decide +kernel
theorem dL_law_425 : decode cL_law 425 = .ok (.iload_n 3, 1) := by decide +kernel
theorem dL_law_426 : decode cL_law 426 = .ok (.iconst 2, 1) := by decide +kernel
theorem dL_law_427 : decode cL_law 427 = .ok (.iadd, 1) := by decide +kernel
theorem dL_law_428 : decode cL_law 428 = .ok (.iaload, 1) := by decide +kernel
theorem dL_law_429 : decode cL_law 429 = .ok (.aload_n 0, 1) := by decide +kernel
theorem dL_law_430 : decode cL_law 430 = .ok (.iload_n 3, 1) := by decide +kernel
theorem dL_law_431 : decode cL_law 431 = .ok (.iconst 3, 1) := by decide +kernel
theorem dL_law_432 : decode cL_law 432 = .ok (.iadd, 1) := by decide +kernel
theorem dL_law_433 : decode cL_law 433 = .ok (.iaload, 1) := by decide +kernel
theorem dL_law_434 : decode cL_law 434 = .ok (.aload_n 0, 1) := by decide +kernel
theorem dL_law_435 : decode cL_law 435 = .ok (.iload_n 3, 1) := by decide +kernel
theorem dL_law_436 : decode cL_law 436 = .ok (.iconst 4, 1) := by decide +kernel
theorem dL_law_437 : decode cL_law 437 = .ok (.iadd, 1) := by decide +kernel
theorem dL_law_438 : decode cL_law 438 = .ok (.iaload, 1) := by decide +kernel
theorem dL_law_439 : decode cL_law 439 = .ok (.aload_n 0, 1) := by decide +kernel
theorem dL_law_440 : decode cL_law 440 = .ok (.iload_n 3, 1) := by decide +kernel
theorem dL_law_441 : decode cL_law 441 = .ok (.iconst 5, 1) := by decide +kernel
theorem dL_law_442 : decode cL_law 442 = .ok (.iadd, 1) := by decide +kernel
theorem dL_law_443 : decode cL_law 443 = .ok (.iaload, 1) := by decide +kernel
theorem dL_law_444 : decode cL_law 444 = .ok (.invokevirtual 50, 3) := by decide +kernel
theorem dL_law_447 : decode cL_law 447 = .ok (.pop, 1) := by decide +kernel
theorem dL_law_448 : decode cL_law 448 = .ok (.aload_n 2, 1) := by decide +kernel
theorem dL_law_449 : decode cL_law 449 = .ok (.aload_n 0, 1) := by decide +kernel
theorem dL_law_450 : decode cL_law 450 = .ok (.iload_n 3, 1) := by decide +kernel
theorem dL_law_451 : decode cL_law 451 = .ok (.iconst 1, 1) := by decide +kernel
theorem dL_law_452 : decode cL_law 452 = .ok (.iadd, 1) := by decide +kernel
theorem dL_law_453 : decode cL_law 453 = .ok (.iaload, 1) := by decide +kernel
theorem dL_law_454 : decode cL_law 454 = .ok (.aload_n 0, 1) := by decide +kernel
theorem dL_law_455 : decode cL_law 455 = .ok (.iload_n 3, 1) := by decide +kernel
theorem dL_law_456 : decode cL_law 456 = .ok (.iconst 2, 1) := by decide +kernel
theorem dL_law_457 : decode cL_law 457 = .ok (.iadd, 1) := by decide +kernel
theorem dL_law_458 : decode cL_law 458 = .ok (.iaload, 1) := by decide +kernel
theorem dL_law_459 : decode cL_law 459 = .ok (.aload_n 0, 1) := by decide +kernel
theorem dL_law_460 : decode cL_law 460 = .ok (.iload_n 3, 1) := by decide +kernel
theorem dL_law_461 : decode cL_law 461 = .ok (.iconst 3, 1) := by decide +kernel
theorem dL_law_462 : decode cL_law 462 = .ok (.iadd, 1) := by decide +kernel
theorem dL_law_463 : decode cL_law 463 = .ok (.iaload, 1) := by decide +kernel
theorem dL_law_464 : decode cL_law 464 = .ok (.aload_n 0, 1) := by decide +kernel
theorem dL_law_465 : decode cL_law 465 = .ok (.iload_n 3, 1) := by decide +kernel
theorem dL_law_466 : decode cL_law 466 = .ok (.iconst 4, 1) := by decide +kernel
theorem dL_law_467 : decode cL_law 467 = .ok (.iadd, 1) := by decide +kernel
theorem dL_law_468 : decode cL_law 468 = .ok (.iaload, 1) := by decide +kernel
theorem dL_law_469 : decode cL_law 469 = .ok (.aload_n 0, 1) := by decide +kernel
theorem dL_law_470 : decode cL_law 470 = .ok (.iload_n 3, 1) := by decide +kernel
theorem dL_law_471 : decode cL_law 471 = .ok (.iconst 5, 1) := by decide +kernel
theorem dL_law_472 : decode cL_law 472 = .ok (.iadd, 1) := by decide +kernel
theorem dL_law_473 : decode cL_law 473 = .ok (.iaload, 1) := by decide +kernel
theorem dL_law_474 : decode cL_law 474 = .ok (.invokevirtual 53, 3) := by decide +kernel
theorem dL_law_477 : decode cL_law 477 = .ok (.pop, 1) := by decide +kernel
theorem dL_law_478 : decode cL_law 478 = .ok (.goto 283, 3) := by decide +kernel
theorem dL_law_481 : decode cL_law 481 = .ok (.aload_n 1, 1) := by decide +kernel
theorem dL_law_482 : decode cL_law 482 = .ok (.aload_n 0, 1) := by decide +kernel
theorem dL_law_483 : decode cL_law 483 = .ok (.iload_n 3, 1) := by decide +kernel
theorem dL_law_484 : decode cL_law 484 = .ok (.iconst 1, 1) := by decide +kernel
theorem dL_law_485 : decode cL_law 485 = .ok (.iadd, 1) := by decide +kernel
theorem dL_law_486 : decode cL_law 486 = .ok (.iaload, 1) := by decide +kernel
theorem dL_law_487 : decode cL_law 487 = .ok (.aload_n 0, 1) := by decide +kernel
theorem dL_law_488 : decode cL_law 488 = .ok (.iload_n 3, 1) := by decide +kernel
theorem dL_law_489 : decode cL_law 489 = .ok (.iconst 2, 1) := by decide +kernel
theorem dL_law_490 : decode cL_law 490 = .ok (.iadd, 1) := by decide +kernel
theorem dL_law_491 : decode cL_law 491 = .ok (.iaload, 1) := by decide +kernel
theorem dL_law_492 : decode cL_law 492 = .ok (.aload_n 0, 1) := by decide +kernel
theorem dL_law_493 : decode cL_law 493 = .ok (.iload_n 3, 1) := by decide +kernel
theorem dL_law_494 : decode cL_law 494 = .ok (.iconst 3, 1) := by decide +kernel
theorem dL_law_495 : decode cL_law 495 = .ok (.iadd, 1) := by decide +kernel
theorem dL_law_496 : decode cL_law 496 = .ok (.iaload, 1) := by decide +kernel
theorem dL_law_497 : decode cL_law 497 = .ok (.invokevirtual 54, 3) := by decide +kernel
theorem dL_law_500 : decode cL_law 500 = .ok (.pop, 1) := by decide +kernel
theorem dL_law_501 : decode cL_law 501 = .ok (.aload_n 2, 1) := by decide +kernel
theorem dL_law_502 : decode cL_law 502 = .ok (.aload_n 0, 1) := by decide +kernel
theorem dL_law_503 : decode cL_law 503 = .ok (.iload_n 3, 1) := by decide +kernel
theorem dL_law_504 : decode cL_law 504 = .ok (.iconst 1, 1) := by decide +kernel
theorem dL_law_505 : decode cL_law 505 = .ok (.iadd, 1) := by decide +kernel
theorem dL_law_506 : decode cL_law 506 = .ok (.iaload, 1) := by decide +kernel
theorem dL_law_507 : decode cL_law 507 = .ok (.aload_n 0, 1) := by decide +kernel
theorem dL_law_508 : decode cL_law 508 = .ok (.iload_n 3, 1) := by decide +kernel
theorem dL_law_509 : decode cL_law 509 = .ok (.iconst 2, 1) := by decide +kernel
theorem dL_law_510 : decode cL_law 510 = .ok (.iadd, 1) := by decide +kernel
theorem dL_law_511 : decode cL_law 511 = .ok (.iaload, 1) := by decide +kernel
theorem dL_law_512 : decode cL_law 512 = .ok (.aload_n 0, 1) := by decide +kernel
theorem dL_law_513 : decode cL_law 513 = .ok (.iload_n 3, 1) := by decide +kernel
theorem dL_law_514 : decode cL_law 514 = .ok (.iconst 3, 1) := by decide +kernel
theorem dL_law_515 : decode cL_law 515 = .ok (.iadd, 1) := by decide +kernel
theorem dL_law_516 : decode cL_law 516 = .ok (.iaload, 1) := by decide +kernel
theorem dL_law_517 : decode cL_law 517 = .ok (.invokevirtual 57, 3) := by decide +kernel
theorem dL_law_520 : decode cL_law 520 = .ok (.pop, 1) := by decide +kernel
theorem dL_law_521 : decode cL_law 521 = .ok (.goto 240, 3) := by decide +kernel
theorem dL_law_524 : decode cL_law 524 = .ok (.aload_n 1, 1) := by decide +kernel
theorem dL_law_525 : decode cL_law 525 = .ok (.invokevirtual 58, 3) := by decide +kernel
theorem dL_law_528 : decode cL_law 528 = .ok (.pop, 1) := by decide +kernel
theorem dL_law_529 : decode cL_law 529 = .ok (.aload_n 2, 1) := by decide +kernel
theorem dL_law_530 : decode cL_law 530 = .ok (.invokevirtual 61, 3) := by decide +kernel
theorem dL_law_533 : decode cL_law 533 = .ok (.pop, 1) := by decide +kernel
theorem dL_law_534 : decode cL_law 534 = .ok (.goto 227, 3) := by decide +kernel
theorem dL_law_537 : decode cL_law 537 = .ok (.aload_n 1, 1) := by decide +kernel
theorem dL_law_538 : decode cL_law 538 = .ok (.aload_n 0, 1) := by decide +kernel
theorem dL_law_539 : decode cL_law 539 = .ok (.iload_n 3, 1) := by decide +kernel
theorem dL_law_540 : decode cL_law 540 = .ok (.iconst 1, 1) := by decide +kernel
theorem dL_law_541 : decode cL_law 541 = .ok (.iadd, 1) := by decide +kernel
theorem dL_law_542 : decode cL_law 542 = .ok (.iaload, 1) := by decide +kernel
theorem dL_law_543 : decode cL_law 543 = .ok (.aload_n 0, 1) := by decide +kernel
theorem dL_law_544 : decode cL_law 544 = .ok (.iload_n 3, 1) := by decide +kernel
theorem dL_law_545 : decode cL_law 545 = .ok (.iconst 2, 1) := by decide +kernel
theorem dL_law_546 : decode cL_law 546 = .ok (.iadd, 1) := by decide +kernel
theorem dL_law_547 : decode cL_law 547 = .ok (.iaload, 1) := by decide +kernel
theorem dL_law_548 : decode cL_law 548 = .ok (.invokevirtual 62, 3) := by decide +kernel
theorem dL_law_551 : decode cL_law 551 = .ok (.pop, 1) := by decide +kernel
theorem dL_law_552 : decode cL_law 552 = .ok (.aload_n 2, 1) := by decide +kernel
theorem dL_law_553 : decode cL_law 553 = .ok (.aload_n 0, 1) := by decide +kernel
theorem dL_law_554 : decode cL_law 554 = .ok (.iload_n 3, 1) := by decide +kernel
theorem dL_law_555 : decode cL_law 555 = .ok (.iconst 1, 1) := by decide +kernel
theorem dL_law_556 : decode cL_law 556 = .ok (.iadd, 1) := by decide +kernel
theorem dL_law_557 : decode cL_law 557 = .ok (.iaload, 1) := by decide +kernel
theorem dL_law_558 : decode cL_law 558 = .ok (.aload_n 0, 1) := by decide +kernel
theorem dL_law_559 : decode cL_law 559 = .ok (.iload_n 3, 1) := by decide +kernel
theorem dL_law_560 : decode cL_law 560 = .ok (.iconst 2, 1) := by decide +kernel
theorem dL_law_561 : decode cL_law 561 = .ok (.iadd, 1) := by decide +kernel
theorem dL_law_562 : decode cL_law 562 = .ok (.iaload, 1) := by decide +kernel
theorem dL_law_563 : decode cL_law 563 = .ok (.invokevirtual 65, 3) := by decide +kernel
theorem dL_law_566 : decode cL_law 566 = .ok (.pop, 1) := by decide +kernel
theorem dL_law_567 : decode cL_law 567 = .ok (.goto 194, 3) := by decide +kernel
theorem dL_law_570 : decode cL_law 570 = .ok (.aload_n 1, 1) := by decide +kernel
theorem dL_law_571 : decode cL_law 571 = .ok (.invokevirtual 66, 3) := by decide +kernel
theorem dL_law_574 : decode cL_law 574 = .ok (.pop, 1) := by decide +kernel
theorem dL_law_575 : decode cL_law 575 = .ok (.aload_n 2, 1) := by decide +kernel
theorem dL_law_576 : decode cL_law 576 = .ok (.invokevirtual 69, 3) := by decide +kernel
theorem dL_law_579 : decode cL_law 579 = .ok (.pop, 1) := by decide +kernel
theorem dL_law_580 : decode cL_law 580 = .ok (.goto 181, 3) := by decide +kernel
theorem dL_law_583 : decode cL_law 583 = .ok (.aload_n 1, 1) := by decide +kernel
theorem dL_law_584 : decode cL_law 584 = .ok (.aload_n 0, 1) := by decide +kernel
theorem dL_law_585 : decode cL_law 585 = .ok (.iload_n 3, 1) := by decide +kernel
theorem dL_law_586 : decode cL_law 586 = .ok (.iconst 1, 1) := by decide +kernel
theorem dL_law_587 : decode cL_law 587 = .ok (.iadd, 1) := by decide +kernel
theorem dL_law_588 : decode cL_law 588 = .ok (.iaload, 1) := by decide +kernel
theorem dL_law_589 : decode cL_law 589 = .ok (.invokevirtual 70, 3) := by decide +kernel
theorem dL_law_592 : decode cL_law 592 = .ok (.pop, 1) := by decide +kernel
theorem dL_law_593 : decode cL_law 593 = .ok (.aload_n 2, 1) := by decide +kernel
theorem dL_law_594 : decode cL_law 594 = .ok (.aload_n 0, 1) := by decide +kernel
theorem dL_law_595 : decode cL_law 595 = .ok (.iload_n 3, 1) := by decide +kernel
theorem dL_law_596 : decode cL_law 596 = .ok (.iconst 1, 1) := by decide +kernel
theorem dL_law_597 : decode cL_law 597 = .ok (.iadd, 1) := by decide +kernel
theorem dL_law_598 : decode cL_law 598 = .ok (.iaload, 1) := by decide +kernel
theorem dL_law_599 : decode cL_law 599 = .ok (.invokevirtual 73, 3) := by decide +kernel
theorem dL_law_602 : decode cL_law 602 = .ok (.pop, 1) := by decide +kernel
theorem dL_law_603 : decode cL_law 603 = .ok (.goto 158, 3) := by decide +kernel
theorem dL_law_606 : decode cL_law 606 = .ok (.aload_n 1, 1) := by decide +kernel
theorem dL_law_607 : decode cL_law 607 = .ok (.aload_n 0, 1) := by decide +kernel
theorem dL_law_608 : decode cL_law 608 = .ok (.iload_n 3, 1) := by decide +kernel
theorem dL_law_609 : decode cL_law 609 = .ok (.iconst 1, 1) := by decide +kernel
theorem dL_law_610 : decode cL_law 610 = .ok (.iadd, 1) := by decide +kernel
theorem dL_law_611 : decode cL_law 611 = .ok (.iaload, 1) := by decide +kernel
theorem dL_law_612 : decode cL_law 612 = .ok (.aload_n 0, 1) := by decide +kernel
theorem dL_law_613 : decode cL_law 613 = .ok (.iload_n 3, 1) := by decide +kernel
theorem dL_law_614 : decode cL_law 614 = .ok (.iconst 2, 1) := by decide +kernel
theorem dL_law_615 : decode cL_law 615 = .ok (.iadd, 1) := by decide +kernel
theorem dL_law_616 : decode cL_law 616 = .ok (.iaload, 1) := by decide +kernel
theorem dL_law_617 : decode cL_law 617 = .ok (.aload_n 0, 1) := by decide +kernel
theorem dL_law_618 : decode cL_law 618 = .ok (.iload_n 3, 1) := by decide +kernel
theorem dL_law_619 : decode cL_law 619 = .ok (.iconst 3, 1) := by decide +kernel
theorem dL_law_620 : decode cL_law 620 = .ok (.iadd, 1) := by decide +kernel
theorem dL_law_621 : decode cL_law 621 = .ok (.iaload, 1) := by decide +kernel
theorem dL_law_622 : decode cL_law 622 = .ok (.aload_n 0, 1) := by decide +kernel
theorem dL_law_623 : decode cL_law 623 = .ok (.iload_n 3, 1) := by decide +kernel
theorem dL_law_624 : decode cL_law 624 = .ok (.iconst 4, 1) := by decide +kernel
theorem dL_law_625 : decode cL_law 625 = .ok (.iadd, 1) := by decide +kernel
theorem dL_law_626 : decode cL_law 626 = .ok (.iaload, 1) := by decide +kernel
theorem dL_law_627 : decode cL_law 627 = .ok (.invokevirtual 74, 3) := by decide +kernel
theorem dL_law_630 : decode cL_law 630 = .ok (.pop, 1) := by decide +kernel
theorem dL_law_631 : decode cL_law 631 = .ok (.aload_n 2, 1) := by decide +kernel
theorem dL_law_632 : decode cL_law 632 = .ok (.aload_n 0, 1) := by decide +kernel
theorem dL_law_633 : decode cL_law 633 = .ok (.iload_n 3, 1) := by decide +kernel
theorem dL_law_634 : decode cL_law 634 = .ok (.iconst 1, 1) := by decide +kernel
theorem dL_law_635 : decode cL_law 635 = .ok (.iadd, 1) := by decide +kernel
theorem dL_law_636 : decode cL_law 636 = .ok (.iaload, 1) := by decide +kernel
theorem dL_law_637 : decode cL_law 637 = .ok (.aload_n 0, 1) := by decide +kernel
theorem dL_law_638 : decode cL_law 638 = .ok (.iload_n 3, 1) := by decide +kernel
theorem dL_law_639 : decode cL_law 639 = .ok (.iconst 2, 1) := by decide +kernel
theorem dL_law_640 : decode cL_law 640 = .ok (.iadd, 1) := by decide +kernel
theorem dL_law_641 : decode cL_law 641 = .ok (.iaload, 1) := by decide +kernel
theorem dL_law_642 : decode cL_law 642 = .ok (.aload_n 0, 1) := by decide +kernel
theorem dL_law_643 : decode cL_law 643 = .ok (.iload_n 3, 1) := by decide +kernel
theorem dL_law_644 : decode cL_law 644 = .ok (.iconst 3, 1) := by decide +kernel
theorem dL_law_645 : decode cL_law 645 = .ok (.iadd, 1) := by decide +kernel
theorem dL_law_646 : decode cL_law 646 = .ok (.iaload, 1) := by decide +kernel
theorem dL_law_647 : decode cL_law 647 = .ok (.aload_n 0, 1) := by decide +kernel
theorem dL_law_648 : decode cL_law 648 = .ok (.iload_n 3, 1) := by decide +kernel
theorem dL_law_649 : decode cL_law 649 = .ok (.iconst 4, 1) := by decide +kernel
theorem dL_law_650 : decode cL_law 650 = .ok (.iadd, 1) := by decide +kernel
theorem dL_law_651 : decode cL_law 651 = .ok (.iaload, 1) := by decide +kernel
theorem dL_law_652 : decode cL_law 652 = .ok (.invokevirtual 78, 3) := by decide +kernel
theorem dL_law_655 : decode cL_law 655 = .ok (.pop, 1) := by decide +kernel
theorem dL_law_656 : decode cL_law 656 = .ok (.goto 105, 3) := by decide +kernel
theorem dL_law_659 : decode cL_law 659 = .ok (.aload_n 1, 1) := by decide +kernel
theorem dL_law_660 : decode cL_law 660 = .ok (.aload_n 0, 1) := by decide +kernel
theorem dL_law_661 : decode cL_law 661 = .ok (.iload_n 3, 1) := by decide +kernel
theorem dL_law_662 : decode cL_law 662 = .ok (.iconst 1, 1) := by decide +kernel
theorem dL_law_663 : decode cL_law 663 = .ok (.iadd, 1) := by decide +kernel
theorem dL_law_664 : decode cL_law 664 = .ok (.iaload, 1) := by decide +kernel
theorem dL_law_665 : decode cL_law 665 = .ok (.invokevirtual 79, 3) := by decide +kernel
theorem dL_law_668 : decode cL_law 668 = .ok (.aload_n 2, 1) := by decide +kernel
theorem dL_law_669 : decode cL_law 669 = .ok (.aload_n 0, 1) := by decide +kernel
theorem dL_law_670 : decode cL_law 670 = .ok (.iload_n 3, 1) := by decide +kernel
theorem dL_law_671 : decode cL_law 671 = .ok (.iconst 1, 1) := by decide +kernel
theorem dL_law_672 : decode cL_law 672 = .ok (.iadd, 1) := by decide +kernel
theorem dL_law_673 : decode cL_law 673 = .ok (.iaload, 1) := by decide +kernel
theorem dL_law_674 : decode cL_law 674 = .ok (.invokevirtual 82, 3) := by decide +kernel
theorem dL_law_677 : decode cL_law 677 = .ok (.if_icmp .eq 84, 3) := by decide +kernel
theorem dL_law_682 : decode cL_law 682 = .ok (.aload_n 1, 1) := by decide +kernel
theorem dL_law_683 : decode cL_law 683 = .ok (.aload_n 0, 1) := by decide +kernel
theorem dL_law_684 : decode cL_law 684 = .ok (.iload_n 3, 1) := by decide +kernel
theorem dL_law_685 : decode cL_law 685 = .ok (.iconst 1, 1) := by decide +kernel
theorem dL_law_686 : decode cL_law 686 = .ok (.iadd, 1) := by decide +kernel
theorem dL_law_687 : decode cL_law 687 = .ok (.iaload, 1) := by decide +kernel
theorem dL_law_688 : decode cL_law 688 = .ok (.aload_n 0, 1) := by decide +kernel
theorem dL_law_689 : decode cL_law 689 = .ok (.iload_n 3, 1) := by decide +kernel
theorem dL_law_690 : decode cL_law 690 = .ok (.iconst 2, 1) := by decide +kernel
theorem dL_law_691 : decode cL_law 691 = .ok (.iadd, 1) := by decide +kernel
theorem dL_law_692 : decode cL_law 692 = .ok (.iaload, 1) := by decide +kernel
theorem dL_law_693 : decode cL_law 693 = .ok (.invokevirtual 83, 3) := by decide +kernel
theorem dL_law_696 : decode cL_law 696 = .ok (.pop, 1) := by decide +kernel
theorem dL_law_697 : decode cL_law 697 = .ok (.aload_n 2, 1) := by decide +kernel
theorem dL_law_698 : decode cL_law 698 = .ok (.aload_n 0, 1) := by decide +kernel
theorem dL_law_699 : decode cL_law 699 = .ok (.iload_n 3, 1) := by decide +kernel
theorem dL_law_700 : decode cL_law 700 = .ok (.iconst 1, 1) := by decide +kernel
theorem dL_law_701 : decode cL_law 701 = .ok (.iadd, 1) := by decide +kernel
theorem dL_law_702 : decode cL_law 702 = .ok (.iaload, 1) := by decide +kernel
theorem dL_law_703 : decode cL_law 703 = .ok (.aload_n 0, 1) := by decide +kernel
theorem dL_law_704 : decode cL_law 704 = .ok (.iload_n 3, 1) := by decide +kernel
theorem dL_law_705 : decode cL_law 705 = .ok (.iconst 2, 1) := by decide +kernel
theorem dL_law_706 : decode cL_law 706 = .ok (.iadd, 1) := by decide +kernel
theorem dL_law_707 : decode cL_law 707 = .ok (.iaload, 1) := by decide +kernel
theorem dL_law_708 : decode cL_law 708 = .ok (.invokevirtual 86, 3) := by decide +kernel
theorem dL_law_711 : decode cL_law 711 = .ok (.pop, 1) := by decide +kernel
theorem dL_law_712 : decode cL_law 712 = .ok (.goto 49, 3) := by decide +kernel
theorem dL_law_715 : decode cL_law 715 = .ok (.aload_n 1, 1) := by decide +kernel
theorem dL_law_716 : decode cL_law 716 = .ok (.aload_n 0, 1) := by decide +kernel
theorem dL_law_717 : decode cL_law 717 = .ok (.iload_n 3, 1) := by decide +kernel
theorem dL_law_718 : decode cL_law 718 = .ok (.iconst 1, 1) := by decide +kernel
theorem dL_law_719 : decode cL_law 719 = .ok (.iadd, 1) := by decide +kernel
theorem dL_law_720 : decode cL_law 720 = .ok (.iaload, 1) := by decide +kernel
theorem dL_law_721 : decode cL_law 721 = .ok (.invokevirtual 87, 3) := by decide +kernel
theorem dL_law_724 : decode cL_law 724 = .ok (.pop, 1) := by decide +kernel
theorem dL_law_725 : decode cL_law 725 = .ok (.aload_n 2, 1) := by decide +kernel
theorem dL_law_726 : decode cL_law 726 = .ok (.aload_n 0, 1) := by decide +kernel
theorem dL_law_727 : decode cL_law 727 = .ok (.iload_n 3, 1) := by decide +kernel
theorem dL_law_728 : decode cL_law 728 = .ok (.iconst 1, 1) := by decide +kernel
theorem dL_law_729 : decode cL_law 729 = .ok (.iadd, 1) := by decide +kernel
theorem dL_law_730 : decode cL_law 730 = .ok (.iaload, 1) := by decide +kernel
theorem dL_law_731 : decode cL_law 731 = .ok (.invokevirtual 90, 3) := by decide +kernel
theorem dL_law_734 : decode cL_law 734 = .ok (.pop, 1) := by decide +kernel
theorem dL_law_735 : decode cL_law 735 = .ok (.goto 26, 3) := by decide +kernel
theorem dL_law_738 : decode cL_law 738 = .ok (.aload_n 1, 1) := by decide +kernel
theorem dL_law_739 : decode cL_law 739 = .ok (.aload_n 0, 1) := by decide +kernel
theorem dL_law_740 : decode cL_law 740 = .ok (.iload_n 3, 1) := by decide +kernel
theorem dL_law_741 : decode cL_law 741 = .ok (.iconst 1, 1) := by decide +kernel
theorem dL_law_742 : decode cL_law 742 = .ok (.iadd, 1) := by decide +kernel
theorem dL_law_743 : decode cL_law 743 = .ok (.iaload, 1) := by decide +kernel
theorem dL_law_744 : decode cL_law 744 = .ok (.invokevirtual 91, 3) := by decide +kernel
theorem dL_law_747 : decode cL_law 747 = .ok (.pop, 1) := by decide +kernel
theorem dL_law_748 : decode cL_law 748 = .ok (.aload_n 2, 1) := by decide +kernel
theorem dL_law_749 : decode cL_law 749 = .ok (.aload_n 0, 1) := by decide +kernel
theorem dL_law_750 : decode cL_law 750 = .ok (.iload_n 3, 1) := by decide +kernel
theorem dL_law_751 : decode cL_law 751 = .ok (.iconst 1, 1) := by decide +kernel
theorem dL_law_752 : decode cL_law 752 = .ok (.iadd, 1) := by decide +kernel
theorem dL_law_753 : decode cL_law 753 = .ok (.iaload, 1) := by decide +kernel
theorem dL_law_754 : decode cL_law 754 = .ok (.invokevirtual 94, 3) := by decide +kernel
theorem dL_law_757 : decode cL_law 757 = .ok (.pop, 1) := by decide +kernel
theorem dL_law_758 : decode cL_law 758 = .ok (.goto 3, 3) := by decide +kernel
theorem dL_law_761 : decode cL_law 761 = .ok (.iinc 3 6, 3) := by decide +kernel
theorem dL_law_764 : decode cL_law 764 = .ok (.goto (-746), 3) := by decide +kernel
theorem dL_law_767 : decode cL_law 767 = .ok (.iconst 1, 1) := by decide +kernel
theorem dL_law_768 : decode cL_law 768 = .ok (.ireturn, 1) := by decide +kernel
theorem dX0_indexOf_0 : decode cX0_indexOf 0 = .ok (.iconst 0, 1) := by decide +kernel
theorem dX0_indexOf_1 : decode cX0_indexOf 1 = .ok (.istore_n 3, 1) := by decide +kernel
theorem dX0_indexOf_2 : decode cX0_indexOf 2 = .ok (.iload_n 3, 1) := by decide +kernel
theorem dX0_indexOf_3 : decode cX0_indexOf 3 = .ok (.iload_n 2, 1) := by decide +kernel
theorem dX0_indexOf_4 : decode cX0_indexOf 4 = .ok (.if_icmp .ge 21, 3) := by decide +kernel
theorem dX0_indexOf_7 : decode cX0_indexOf 7 = .ok (.aload_n 1, 1) := by decide +kernel
theorem dX0_indexOf_8 : decode cX0_indexOf 8 = .ok (.iload_n 3, 1) := by decide +kernel
theorem dX0_indexOf_9 : decode cX0_indexOf 9 = .ok (.aaload, 1) := by decide +kernel
theorem dX0_indexOf_10 : decode cX0_indexOf 10 = .ok (.aload_n 0, 1) := by decide +kernel
theorem dX0_indexOf_11 : decode cX0_indexOf 11 = .ok (.invokevirtual 44, 3) := by decide +kernel
theorem dX0_indexOf_14 : decode cX0_indexOf 14 = .ok (.ifCond .eq 5, 3) := by decide +kernel
theorem dX0_indexOf_17 : decode cX0_indexOf 17 = .ok (.iload_n 3, 1) := by decide +kernel
theorem dX0_indexOf_18 : decode cX0_indexOf 18 = .ok (.ireturn, 1) := by decide +kernel
theorem dX0_indexOf_19 : decode cX0_indexOf 19 = .ok (.iinc 3 1, 3) := by decide +kernel
theorem dX0_indexOf_22 : decode cX0_indexOf 22 = .ok (.goto (-20), 3) := by decide +kernel
theorem dX0_indexOf_25 : decode cX0_indexOf 25 = .ok (.iconst (-1), 1) := by decide +kernel
theorem dX0_indexOf_26 : decode cX0_indexOf 26 = .ok (.ireturn, 1) := by decide +kernel
theorem dX0_fits_0 : decode cX0_fits 0 = .ok (.aload_n 0, 1) := by decide +kernel
theorem dX0_fits_1 : decode cX0_fits 1 = .ok (.getfield 29, 3) := by decide +kernel
theorem dX0_fits_4 : decode cX0_fits 4 = .ok (.iload_n 1, 1) := by decide +kernel
theorem dX0_fits_5 : decode cX0_fits 5 = .ok (.aaload, 1) := by decide +kernel
theorem dX0_fits_6 : decode cX0_fits 6 = .ok (.astore 5, 2) := by decide +kernel
theorem dX0_fits_8 : decode cX0_fits 8 = .ok (.aload 5, 2) := by decide +kernel
theorem dX0_fits_10 : decode cX0_fits 10 = .ok (.getfield 48, 3) := by decide +kernel
theorem dX0_fits_13 : decode cX0_fits 13 = .ok (.iload_n 3, 1) := by decide +kernel
theorem dX0_fits_14 : decode cX0_fits 14 = .ok (.if_icmp .ne 22, 3) := by decide +kernel
theorem dX0_fits_17 : decode cX0_fits 17 = .ok (.aload 5, 2) := by decide +kernel
theorem dX0_fits_19 : decode cX0_fits 19 = .ok (.getfield 51, 3) := by decide +kernel
theorem dX0_fits_22 : decode cX0_fits 22 = .ok (.iconst (-1), 1) := by decide +kernel
theorem dX0_fits_23 : decode cX0_fits 23 = .ok (.if_icmp .eq 15, 3) := by decide +kernel
theorem dX0_fits_26 : decode cX0_fits 26 = .ok (.aload 5, 2) := by decide +kernel
theorem dX0_fits_28 : decode cX0_fits 28 = .ok (.getfield 51, 3) := by decide +kernel
theorem dX0_fits_31 : decode cX0_fits 31 = .ok (.iload 4, 2) := by decide +kernel
theorem dX0_fits_33 : decode cX0_fits 33 = .ok (.if_icmp .eq 5, 3) := by decide +kernel
theorem dX0_fits_36 : decode cX0_fits 36 = .ok (.iconst 0, 1) := by decide +kernel
theorem dX0_fits_37 : decode cX0_fits 37 = .ok (.ireturn, 1) := by decide +kernel
theorem dX0_fits_38 : decode cX0_fits 38 = .ok (.aload 5, 2) := by decide +kernel
theorem dX0_fits_40 : decode cX0_fits 40 = .ok (.invokevirtual 54, 3) := by decide +kernel
theorem dX0_fits_43 : decode cX0_fits 43 = .ok (.ifCond .eq 20, 3) := by decide +kernel
theorem dX0_fits_46 : decode cX0_fits 46 = .ok (.aload 5, 2) := by decide +kernel
theorem dX0_fits_48 : decode cX0_fits 48 = .ok (.getfield 58, 3) := by decide +kernel
theorem dX0_fits_51 : decode cX0_fits 51 = .ok (.iload_n 2, 1) := by decide +kernel
theorem dX0_fits_52 : decode cX0_fits 52 = .ok (.if_icmp .ne 7, 3) := by decide +kernel
theorem dX0_fits_55 : decode cX0_fits 55 = .ok (.iconst 1, 1) := by decide +kernel
theorem dX0_fits_56 : decode cX0_fits 56 = .ok (.goto 35, 3) := by decide +kernel
theorem dX0_fits_59 : decode cX0_fits 59 = .ok (.iconst 0, 1) := by decide +kernel
theorem dX0_fits_60 : decode cX0_fits 60 = .ok (.goto 31, 3) := by decide +kernel
theorem dX0_fits_63 : decode cX0_fits 63 = .ok (.aload 5, 2) := by decide +kernel
theorem dX0_fits_65 : decode cX0_fits 65 = .ok (.getfield 58, 3) := by decide +kernel
theorem dX0_fits_68 : decode cX0_fits 68 = .ok (.iconst (-1), 1) := by decide +kernel
theorem dX0_fits_69 : decode cX0_fits 69 = .ok (.if_icmp .eq 17, 3) := by decide +kernel
theorem dX0_fits_72 : decode cX0_fits 72 = .ok (.aload 5, 2) := by decide +kernel
theorem dX0_fits_74 : decode cX0_fits 74 = .ok (.getfield 58, 3) := by decide +kernel
theorem dX0_fits_77 : decode cX0_fits 77 = .ok (.aload_n 0, 1) := by decide +kernel
theorem dX0_fits_78 : decode cX0_fits 78 = .ok (.getfield 23, 3) := by decide +kernel
theorem dX0_fits_81 : decode cX0_fits 81 = .ok (.iload_n 2, 1) := by decide +kernel
theorem dX0_fits_82 : decode cX0_fits 82 = .ok (.iaload, 1) := by decide +kernel
theorem dX0_fits_83 : decode cX0_fits 83 = .ok (.if_icmp .ne 7, 3) := by decide +kernel
theorem dX0_fits_86 : decode cX0_fits 86 = .ok (.iconst 1, 1) := by decide +kernel
theorem dX0_fits_87 : decode cX0_fits 87 = .ok (.goto 4, 3) := by decide +kernel
theorem dX0_fits_90 : decode cX0_fits 90 = .ok (.iconst 0, 1) := by decide +kernel
theorem dX0_fits_91 : decode cX0_fits 91 = .ok (.ireturn, 1) := by decide +kernel
theorem dX0_nextFitting_0 : decode cX0_nextFitting 0 = .ok (.iload_n 2, 1) := by decide +kernel
theorem dX0_nextFitting_1 : decode cX0_nextFitting 1 = .ok (.istore 6, 2) := by decide +kernel
theorem dX0_nextFitting_3 : decode cX0_nextFitting 3 = .ok (.iload 6, 2) := by decide +kernel
theorem dX0_nextFitting_5 : decode cX0_nextFitting 5 = .ok (.aload_n 0, 1) := by decide +kernel
theorem dX0_nextFitting_6 : decode cX0_nextFitting 6 = .ok (.getfield 41, 3) := by decide +kernel
theorem dX0_nextFitting_9 : decode cX0_nextFitting 9 = .ok (.if_icmp .ge 40, 3) := by decide +kernel
theorem dX0_nextFitting_12 : decode cX0_nextFitting 12 = .ok (.aload_n 0, 1) := by decide +kernel
theorem dX0_nextFitting_13 : decode cX0_nextFitting 13 = .ok (.getfield 29, 3) := by decide +kernel
theorem dX0_nextFitting_16 : decode cX0_nextFitting 16 = .ok (.iload 6, 2) := by decide +kernel
theorem dX0_nextFitting_18 : decode cX0_nextFitting 18 = .ok (.aaload, 1) := by decide +kernel
theorem dX0_nextFitting_19 : decode cX0_nextFitting 19 = .ok (.getfield 61, 3) := by decide +kernel
theorem dX0_nextFitting_22 : decode cX0_nextFitting 22 = .ok (.iload_n 1, 1) := by decide +kernel
theorem dX0_nextFitting_23 : decode cX0_nextFitting 23 = .ok (.if_icmp .ne 20, 3) := by decide +kernel
theorem dX0_nextFitting_26 : decode cX0_nextFitting 26 = .ok (.aload_n 0, 1) := by decide +kernel
theorem dX0_nextFitting_27 : decode cX0_nextFitting 27 = .ok (.iload 6, 2) := by decide +kernel
theorem dX0_nextFitting_29 : decode cX0_nextFitting 29 = .ok (.iload_n 3, 1) := by decide +kernel
theorem dX0_nextFitting_30 : decode cX0_nextFitting 30 = .ok (.iload 4, 2) := by decide +kernel
theorem dX0_nextFitting_32 : decode cX0_nextFitting 32 = .ok (.iload 5, 2) := by decide +kernel
theorem dX0_nextFitting_34 : decode cX0_nextFitting 34 = .ok (.invokevirtual 64, 3) := by decide +kernel
theorem dX0_nextFitting_37 : decode cX0_nextFitting 37 = .ok (.ifCond .eq 6, 3) := by decide +kernel
theorem dX0_nextFitting_40 : decode cX0_nextFitting 40 = .ok (.iload 6, 2) := by decide +kernel
theorem dX0_nextFitting_42 : decode cX0_nextFitting 42 = .ok (.ireturn, 1) := by decide +kernel
theorem dX0_nextFitting_43 : decode cX0_nextFitting 43 = .ok (.iinc 6 1, 3) := by decide +kernel
theorem dX0_nextFitting_46 : decode cX0_nextFitting 46 = .ok (.goto (-43), 3) := by decide +kernel
theorem dX0_nextFitting_49 : decode cX0_nextFitting 49 = .ok (.iconst (-1), 1) := by decide +kernel
theorem dX0_nextFitting_50 : decode cX0_nextFitting 50 = .ok (.ireturn, 1) := by decide +kernel
theorem dX0_exceptsLike_0 : decode cX0_exceptsLike 0 = .ok (.iconst 0, 1) := by decide +kernel
theorem dX0_exceptsLike_1 : decode cX0_exceptsLike 1 = .ok (.istore_n 2, 1) := by decide +kernel
theorem dX0_exceptsLike_2 : decode cX0_exceptsLike 2 = .ok (.iconst 0, 1) := by decide +kernel
theorem dX0_exceptsLike_3 : decode cX0_exceptsLike 3 = .ok (.istore_n 3, 1) := by decide +kernel
theorem dX0_exceptsLike_4 : decode cX0_exceptsLike 4 = .ok (.iload_n 3, 1) := by decide +kernel
theorem dX0_exceptsLike_5 : decode cX0_exceptsLike 5 = .ok (.aload_n 0, 1) := by decide +kernel
theorem dX0_exceptsLike_6 : decode cX0_exceptsLike 6 = .ok (.getfield 41, 3) := by decide +kernel
theorem dX0_exceptsLike_9 : decode cX0_exceptsLike 9 = .ok (.if_icmp .ge 65, 3) := by decide +kernel
theorem dX0_exceptsLike_12 : decode cX0_exceptsLike 12 = .ok (.aload_n 0, 1) := by decide +kernel
theorem dX0_exceptsLike_13 : decode cX0_exceptsLike 13 = .ok (.getfield 29, 3) := by decide +kernel
theorem dX0_exceptsLike_16 : decode cX0_exceptsLike 16 = .ok (.iload_n 3, 1) := by decide +kernel
theorem dX0_exceptsLike_17 : decode cX0_exceptsLike 17 = .ok (.aaload, 1) := by decide +kernel
theorem dX0_exceptsLike_18 : decode cX0_exceptsLike 18 = .ok (.astore 4, 2) := by decide +kernel
theorem dX0_exceptsLike_20 : decode cX0_exceptsLike 20 = .ok (.aload 4, 2) := by decide +kernel
theorem dX0_exceptsLike_22 : decode cX0_exceptsLike 22 = .ok (.getfield 61, 3) := by decide +kernel
theorem dX0_exceptsLike_25 : decode cX0_exceptsLike 25 = .ok (.iconst 4, 1) := by decide +kernel
theorem dX0_exceptsLike_26 : decode cX0_exceptsLike 26 = .ok (.if_icmp .ne 42, 3) := by decide +kernel
theorem dX0_exceptsLike_29 : decode cX0_exceptsLike 29 = .ok (.aload 4, 2) := by decide +kernel
theorem dX0_exceptsLike_31 : decode cX0_exceptsLike 31 = .ok (.getfield 58, 3) := by decide +kernel
theorem dX0_exceptsLike_34 : decode cX0_exceptsLike 34 = .ok (.aload_n 1, 1) := by decide +kernel
theorem dX0_exceptsLike_35 : decode cX0_exceptsLike 35 = .ok (.getfield 58, 3) := by decide +kernel
theorem dX0_exceptsLike_38 : decode cX0_exceptsLike 38 = .ok (.if_icmp .ne 30, 3) := by decide +kernel
theorem dX0_exceptsLike_41 : decode cX0_exceptsLike 41 = .ok (.aload 4, 2) := by decide +kernel
theorem dX0_exceptsLike_43 : decode cX0_exceptsLike 43 = .ok (.getfield 48, 3) := by decide +kernel
theorem dX0_exceptsLike_46 : decode cX0_exceptsLike 46 = .ok (.aload_n 1, 1) := by decide +kernel
theorem dX0_exceptsLike_47 : decode cX0_exceptsLike 47 = .ok (.getfield 48, 3) := by decide +kernel
theorem dX0_exceptsLike_50 : decode cX0_exceptsLike 50 = .ok (.if_icmp .ne 18, 3) := by decide +kernel
