theorem dX0_exceptsLike_53 : decode cX0_exceptsLike 53 = .ok (.aload 4, 2) := by decide +kernel
theorem dX0_exceptsLike_55 : decode cX0_exceptsLike 55 = .ok (.getfield 51, 3) := by decide +kernel
theorem dX0_exceptsLike_58 : decode cX0_exceptsLike 58 = .ok (.aload_n 1, 1) := by decide +kernel
theorem dX0_exceptsLike_59 : decode cX0_exceptsLike 59 = .ok (.getfield 51, 3) := by decide +kernel
theorem dX0_exceptsLike_62 : decode cX0_exceptsLike 62 = .ok (.if_icmp .ne 6, 3) := by decide +kernel
theorem dX0_exceptsLike_65 : decode cX0_exceptsLike 65 = .ok (.iinc 2 1, 3) := by decide +kernel
theorem dX0_exceptsLike_68 : decode cX0_exceptsLike 68 = .ok (.iinc 3 1, 3) := by decide +kernel
theorem dX0_exceptsLike_71 : decode cX0_exceptsLike 71 = .ok (.goto (-67), 3) := by decide +kernel
theorem dX0_exceptsLike_74 : decode cX0_exceptsLike 74 = .ok (.iload_n 2, 1) := by decide +kernel
theorem dX0_exceptsLike_75 : decode cX0_exceptsLike 75 = .ok (.ireturn, 1) := by decide +kernel
theorem dX0_putStem_0 : decode cX0_putStem 0 = .ok (.aload_n 0, 1) := by decide +kernel
theorem dX0_putStem_1 : decode cX0_putStem 1 = .ok (.getfield 20, 3) := by decide +kernel
theorem dX0_putStem_4 : decode cX0_putStem 4 = .ok (.iload_n 1, 1) := by decide +kernel
theorem dX0_putStem_5 : decode cX0_putStem 5 = .ok (.aaload, 1) := by decide +kernel
theorem dX0_putStem_6 : decode cX0_putStem 6 = .ok (.astore 4, 2) := by decide +kernel
theorem dX0_putStem_8 : decode cX0_putStem 8 = .ok (.iload_n 2, 1) := by decide +kernel
theorem dX0_putStem_9 : decode cX0_putStem 9 = .ok (.iconst (-1), 1) := by decide +kernel
theorem dX0_putStem_10 : decode cX0_putStem 10 = .ok (.if_icmp .ne 7, 3) := by decide +kernel
theorem dX0_putStem_13 : decode cX0_putStem 13 = .ok (.iconst (-1), 1) := by decide +kernel
theorem dX0_putStem_14 : decode cX0_putStem 14 = .ok (.goto 17, 3) := by decide +kernel
theorem dX0_putStem_17 : decode cX0_putStem 17 = .ok (.aload 4, 2) := by decide +kernel
theorem dX0_putStem_19 : decode cX0_putStem 19 = .ok (.aload_n 0, 1) := by decide +kernel
theorem dX0_putStem_20 : decode cX0_putStem 20 = .ok (.getfield 29, 3) := by decide +kernel
theorem dX0_putStem_23 : decode cX0_putStem 23 = .ok (.iload_n 2, 1) := by decide +kernel
theorem dX0_putStem_24 : decode cX0_putStem 24 = .ok (.aaload, 1) := by decide +kernel
theorem dX0_putStem_25 : decode cX0_putStem 25 = .ok (.getfield 68, 3) := by decide +kernel
theorem dX0_putStem_28 : decode cX0_putStem 28 = .ok (.invokevirtual 72, 3) := by decide +kernel
theorem dX0_putStem_31 : decode cX0_putStem 31 = .ok (.istore 5, 2) := by decide +kernel
theorem dX0_putStem_33 : decode cX0_putStem 33 = .ok (.iload 5, 2) := by decide +kernel
theorem dX0_putStem_35 : decode cX0_putStem 35 = .ok (.iconst (-1), 1) := by decide +kernel
theorem dX0_putStem_36 : decode cX0_putStem 36 = .ok (.if_icmp .ne 11, 3) := by decide +kernel
theorem dX0_putStem_39 : decode cX0_putStem 39 = .ok (.aload_n 3, 1) := by decide +kernel
theorem dX0_putStem_40 : decode cX0_putStem 40 = .ok (.aload 4, 2) := by decide +kernel
theorem dX0_putStem_42 : decode cX0_putStem 42 = .ok (.invokevirtual 76, 3) := by decide +kernel
theorem dX0_putStem_45 : decode cX0_putStem 45 = .ok (.iconst 0, 1) := by decide +kernel
theorem dX0_putStem_46 : decode cX0_putStem 46 = .ok (.ireturn, 1) := by decide +kernel
theorem dX0_putStem_47 : decode cX0_putStem 47 = .ok (.aload_n 3, 1) := by decide +kernel
theorem dX0_putStem_48 : decode cX0_putStem 48 = .ok (.invokevirtual 80, 3) := by decide +kernel
theorem dX0_putStem_51 : decode cX0_putStem 51 = .ok (.aload_n 3, 1) := by decide +kernel
theorem dX0_putStem_52 : decode cX0_putStem 52 = .ok (.aload 4, 2) := by decide +kernel
theorem dX0_putStem_54 : decode cX0_putStem 54 = .ok (.iconst 0, 1) := by decide +kernel
theorem dX0_putStem_55 : decode cX0_putStem 55 = .ok (.iload 5, 2) := by decide +kernel
theorem dX0_putStem_57 : decode cX0_putStem 57 = .ok (.invokevirtual 83, 3) := by decide +kernel
theorem dX0_putStem_60 : decode cX0_putStem 60 = .ok (.pop, 1) := by decide +kernel
theorem dX0_putStem_61 : decode cX0_putStem 61 = .ok (.aload_n 3, 1) := by decide +kernel
theorem dX0_putStem_62 : decode cX0_putStem 62 = .ok (.aload_n 0, 1) := by decide +kernel
theorem dX0_putStem_63 : decode cX0_putStem 63 = .ok (.getfield 29, 3) := by decide +kernel
theorem dX0_putStem_66 : decode cX0_putStem 66 = .ok (.iload_n 2, 1) := by decide +kernel
theorem dX0_putStem_67 : decode cX0_putStem 67 = .ok (.aaload, 1) := by decide +kernel
theorem dX0_putStem_68 : decode cX0_putStem 68 = .ok (.getfield 87, 3) := by decide +kernel
theorem dX0_putStem_71 : decode cX0_putStem 71 = .ok (.invokevirtual 90, 3) := by decide +kernel
theorem dX0_putStem_74 : decode cX0_putStem 74 = .ok (.pop, 1) := by decide +kernel
theorem dX0_putStem_75 : decode cX0_putStem 75 = .ok (.aload_n 3, 1) := by decide +kernel
theorem dX0_putStem_76 : decode cX0_putStem 76 = .ok (.aload 4, 2) := by decide +kernel
theorem dX0_putStem_78 : decode cX0_putStem 78 = .ok (.iload 5, 2) := by decide +kernel
theorem dX0_putStem_80 : decode cX0_putStem 80 = .ok (.aload_n 0, 1) := by decide +kernel
theorem dX0_putStem_81 : decode cX0_putStem 81 = .ok (.getfield 29, 3) := by decide +kernel
theorem dX0_putStem_84 : decode cX0_putStem 84 = .ok (.iload_n 2, 1) := by decide +kernel
theorem dX0_putStem_85 : decode cX0_putStem 85 = .ok (.aaload, 1) := by decide +kernel
theorem dX0_putStem_86 : decode cX0_putStem 86 = .ok (.getfield 68, 3) := by decide +kernel
theorem dX0_putStem_89 : decode cX0_putStem 89 = .ok (.getfield 93, 3) := by decide +kernel
theorem dX0_putStem_92 : decode cX0_putStem 92 = .ok (.iadd, 1) := by decide +kernel
theorem dX0_putStem_93 : decode cX0_putStem 93 = .ok (.aload 4, 2) := by decide +kernel
theorem dX0_putStem_95 : decode cX0_putStem 95 = .ok (.getfield 93, 3) := by decide +kernel
theorem dX0_putStem_98 : decode cX0_putStem 98 = .ok (.invokevirtual 83, 3) := by decide +kernel
theorem dX0_putStem_101 : decode cX0_putStem 101 = .ok (.pop, 1) := by decide +kernel
theorem dX0_putStem_102 : decode cX0_putStem 102 = .ok (.iconst 1, 1) := by decide +kernel
theorem dX0_putStem_103 : decode cX0_putStem 103 = .ok (.ireturn, 1) := by decide +kernel
theorem dX1_explain_0 : decode cX1_explain 0 = .ok (.aload_n 0, 1) := by decide +kernel
theorem dX1_explain_1 : decode cX1_explain 1 = .ok (.aload_n 1, 1) := by decide +kernel
theorem dX1_explain_2 : decode cX1_explain 2 = .ok (.putfield 50, 3) := by decide +kernel
theorem dX1_explain_5 : decode cX1_explain 5 = .ok (.aload_n 0, 1) := by decide +kernel
theorem dX1_explain_6 : decode cX1_explain 6 = .ok (.aload_n 2, 1) := by decide +kernel
theorem dX1_explain_7 : decode cX1_explain 7 = .ok (.putfield 54, 3) := by decide +kernel
theorem dX1_explain_10 : decode cX1_explain 10 = .ok (.aload_n 0, 1) := by decide +kernel
theorem dX1_explain_11 : decode cX1_explain 11 = .ok (.aload_n 3, 1) := by decide +kernel
theorem dX1_explain_12 : decode cX1_explain 12 = .ok (.putfield 57, 3) := by decide +kernel
theorem dX1_explain_15 : decode cX1_explain 15 = .ok (.aload_n 0, 1) := by decide +kernel
theorem dX1_explain_16 : decode cX1_explain 16 = .ok (.getfield 18, 3) := by decide +kernel
theorem dX1_explain_19 : decode cX1_explain 19 = .ok (.aload_n 0, 1) := by decide +kernel
theorem dX1_explain_20 : decode cX1_explain 20 = .ok (.getfield 50, 3) := by decide +kernel
theorem dX1_explain_23 : decode cX1_explain 23 = .ok (.iconst 4, 1) := by decide +kernel
theorem dX1_explain_24 : decode cX1_explain 24 = .ok (.iconst 0, 1) := by decide +kernel
theorem dX1_explain_25 : decode cX1_explain 25 = .ok (.iload 4, 2) := by decide +kernel
theorem dX1_explain_27 : decode cX1_explain 27 = .ok (.iload 5, 2) := by decide +kernel
theorem dX1_explain_29 : decode cX1_explain 29 = .ok (.iload 6, 2) := by decide +kernel
theorem dX1_explain_31 : decode cX1_explain 31 = .ok (.invokevirtual 61, 3) := by decide +kernel
theorem dX1_explain_34 : decode cX1_explain 34 = .ok (.putfield 67, 3) := by decide +kernel
theorem dX1_explain_37 : decode cX1_explain 37 = .ok (.aload_n 0, 1) := by decide +kernel
theorem dX1_explain_38 : decode cX1_explain 38 = .ok (.getfield 18, 3) := by decide +kernel
theorem dX1_explain_41 : decode cX1_explain 41 = .ok (.aload_n 0, 1) := by decide +kernel
theorem dX1_explain_42 : decode cX1_explain 42 = .ok (.getfield 50, 3) := by decide +kernel
theorem dX1_explain_45 : decode cX1_explain 45 = .ok (.iconst 0, 1) := by decide +kernel
theorem dX1_explain_46 : decode cX1_explain 46 = .ok (.iconst 0, 1) := by decide +kernel
theorem dX1_explain_47 : decode cX1_explain 47 = .ok (.iload 4, 2) := by decide +kernel
theorem dX1_explain_49 : decode cX1_explain 49 = .ok (.iload 5, 2) := by decide +kernel
theorem dX1_explain_51 : decode cX1_explain 51 = .ok (.iload 6, 2) := by decide +kernel
theorem dX1_explain_53 : decode cX1_explain 53 = .ok (.invokevirtual 61, 3) := by decide +kernel
theorem dX1_explain_56 : decode cX1_explain 56 = .ok (.putfield 70, 3) := by decide +kernel
theorem dX1_explain_59 : decode cX1_explain 59 = .ok (.aload_n 0, 1) := by decide +kernel
theorem dX1_explain_60 : decode cX1_explain 60 = .ok (.getfield 18, 3) := by decide +kernel
theorem dX1_explain_63 : decode cX1_explain 63 = .ok (.aload_n 0, 1) := by decide +kernel
theorem dX1_explain_64 : decode cX1_explain 64 = .ok (.getfield 50, 3) := by decide +kernel
theorem dX1_explain_67 : decode cX1_explain 67 = .ok (.iconst 1, 1) := by decide +kernel
theorem dX1_explain_68 : decode cX1_explain 68 = .ok (.iconst 0, 1) := by decide +kernel
theorem dX1_explain_69 : decode cX1_explain 69 = .ok (.iload 4, 2) := by decide +kernel
theorem dX1_explain_71 : decode cX1_explain 71 = .ok (.iload 5, 2) := by decide +kernel
theorem dX1_explain_73 : decode cX1_explain 73 = .ok (.iload 6, 2) := by decide +kernel
theorem dX1_explain_75 : decode cX1_explain 75 = .ok (.invokevirtual 61, 3) := by decide +kernel
theorem dX1_explain_78 : decode cX1_explain 78 = .ok (.putfield 73, 3) := by decide +kernel
theorem dX1_explain_81 : decode cX1_explain 81 = .ok (.aload_n 0, 1) := by decide +kernel
theorem dX1_explain_82 : decode cX1_explain 82 = .ok (.iconst 0, 1) := by decide +kernel
theorem dX1_explain_83 : decode cX1_explain 83 = .ok (.putfield 76, 3) := by decide +kernel
theorem dX1_explain_86 : decode cX1_explain 86 = .ok (.bipush (-2), 2) := by decide +kernel
theorem dX1_explain_88 : decode cX1_explain 88 = .ok (.istore 7, 2) := by decide +kernel
theorem dX1_explain_90 : decode cX1_explain 90 = .ok (.iload 7, 2) := by decide +kernel
theorem dX1_explain_92 : decode cX1_explain 92 = .ok (.aload_n 0, 1) := by decide +kernel
theorem dX1_explain_93 : decode cX1_explain 93 = .ok (.getfield 50, 3) := by decide +kernel
theorem dX1_explain_96 : decode cX1_explain 96 = .ok (.getfield 80, 3) := by decide +kernel
theorem dX1_explain_99 : decode cX1_explain 99 = .ok (.if_icmp .ge 57, 3) := by decide +kernel
theorem dX1_explain_102 : decode cX1_explain 102 = .ok (.aload_n 0, 1) := by decide +kernel
theorem dX1_explain_103 : decode cX1_explain 103 = .ok (.iload 4, 2) := by decide +kernel
theorem dX1_explain_105 : decode cX1_explain 105 = .ok (.iload 7, 2) := by decide +kernel
theorem dX1_explain_107 : decode cX1_explain 107 = .ok (.invokevirtual 83, 3) := by decide +kernel
theorem dX1_explain_110 : decode cX1_explain 110 = .ok (.ifCond .eq 40, 3) := by decide +kernel
theorem dX1_explain_113 : decode cX1_explain 113 = .ok (.bipush (-2), 2) := by decide +kernel
theorem dX1_explain_115 : decode cX1_explain 115 = .ok (.istore 8, 2) := by decide +kernel
theorem dX1_explain_117 : decode cX1_explain 117 = .ok (.iload 8, 2) := by decide +kernel
theorem dX1_explain_119 : decode cX1_explain 119 = .ok (.bipush 60, 2) := by decide +kernel
theorem dX1_explain_121 : decode cX1_explain 121 = .ok (.if_icmp .gt 29, 3) := by decide +kernel
theorem dX1_explain_124 : decode cX1_explain 124 = .ok (.aload_n 0, 1) := by decide +kernel
theorem dX1_explain_125 : decode cX1_explain 125 = .ok (.iload 8, 2) := by decide +kernel
theorem dX1_explain_127 : decode cX1_explain 127 = .ok (.invokevirtual 87, 3) := by decide +kernel
theorem dX1_explain_130 : decode cX1_explain 130 = .ok (.ifCond .eq 14, 3) := by decide +kernel
theorem dX1_explain_133 : decode cX1_explain 133 = .ok (.aload_n 0, 1) := by decide +kernel
theorem dX1_explain_134 : decode cX1_explain 134 = .ok (.invokevirtual 91, 3) := by decide +kernel
theorem dX1_explain_137 : decode cX1_explain 137 = .ok (.ifCond .eq 7, 3) := by decide +kernel
theorem dX1_explain_140 : decode cX1_explain 140 = .ok (.aload_n 0, 1) := by decide +kernel
theorem dX1_explain_141 : decode cX1_explain 141 = .ok (.invokevirtual 95, 3) := by decide +kernel
theorem dX1_explain_144 : decode cX1_explain 144 = .ok (.iinc 8 1, 3) := by decide +kernel
theorem dX1_explain_147 : decode cX1_explain 147 = .ok (.goto (-30), 3) := by decide +kernel
theorem dX1_explain_150 : decode cX1_explain 150 = .ok (.iinc 7 1, 3) := by decide +kernel
theorem dX1_explain_153 : decode cX1_explain 153 = .ok (.goto (-63), 3) := by decide +kernel
theorem dX1_explain_156 : decode cX1_explain 156 = .ok (.aload_n 0, 1) := by decide +kernel
theorem dX1_explain_157 : decode cX1_explain 157 = .ok (.getfield 76, 3) := by decide +kernel
theorem dX1_explain_160 : decode cX1_explain 160 = .ok (.ifCond .eq 7, 3) := by decide +kernel
theorem dX1_explain_163 : decode cX1_explain 163 = .ok (.aload_n 0, 1) := by decide +kernel
theorem dX1_explain_164 : decode cX1_explain 164 = .ok (.invokevirtual 98, 3) := by decide +kernel
theorem dX1_explain_167 : decode cX1_explain 167 = .ok (.aload_n 0, 1) := by decide +kernel
theorem dX1_explain_168 : decode cX1_explain 168 = .ok (.getfield 76, 3) := by decide +kernel
theorem dX1_explain_171 : decode cX1_explain 171 = .ok (.ireturn, 1) := by decide +kernel
theorem dX1_putStem_0 : decode cX1_putStem 0 = .ok (.aload_n 0, 1) := by decide +kernel
theorem dX1_putStem_1 : decode cX1_putStem 1 = .ok (.getfield 18, 3) := by decide +kernel
theorem dX1_putStem_4 : decode cX1_putStem 4 = .ok (.iload_n 2, 1) := by decide +kernel
theorem dX1_putStem_5 : decode cX1_putStem 5 = .ok (.putfield 101, 3) := by decide +kernel
theorem dX1_putStem_8 : decode cX1_putStem 8 = .ok (.iload_n 2, 1) := by decide +kernel
theorem dX1_putStem_9 : decode cX1_putStem 9 = .ok (.bipush (-2), 2) := by decide +kernel
theorem dX1_putStem_11 : decode cX1_putStem 11 = .ok (.if_icmp .ne 25, 3) := by decide +kernel
theorem dX1_putStem_14 : decode cX1_putStem 14 = .ok (.aload_n 0, 1) := by decide +kernel
theorem dX1_putStem_15 : decode cX1_putStem 15 = .ok (.getfield 50, 3) := by decide +kernel
theorem dX1_putStem_18 : decode cX1_putStem 18 = .ok (.iload_n 1, 1) := by decide +kernel
theorem dX1_putStem_19 : decode cX1_putStem 19 = .ok (.aload_n 0, 1) := by decide +kernel
theorem dX1_putStem_20 : decode cX1_putStem 20 = .ok (.getfield 18, 3) := by decide +kernel
theorem dX1_putStem_23 : decode cX1_putStem 23 = .ok (.getfield 70, 3) := by decide +kernel
theorem dX1_putStem_26 : decode cX1_putStem 26 = .ok (.aload_n 0, 1) := by decide +kernel
theorem dX1_putStem_27 : decode cX1_putStem 27 = .ok (.getfield 26, 3) := by decide +kernel
theorem dX1_putStem_30 : decode cX1_putStem 30 = .ok (.invokevirtual 104, 3) := by decide +kernel
theorem dX1_putStem_33 : decode cX1_putStem 33 = .ok (.pop, 1) := by decide +kernel
theorem dX1_putStem_34 : decode cX1_putStem 34 = .ok (.iconst 1, 1) := by decide +kernel
theorem dX1_putStem_35 : decode cX1_putStem 35 = .ok (.ireturn, 1) := by decide +kernel
theorem dX1_putStem_36 : decode cX1_putStem 36 = .ok (.iload_n 2, 1) := by decide +kernel
theorem dX1_putStem_37 : decode cX1_putStem 37 = .ok (.iconst (-1), 1) := by decide +kernel
theorem dX1_putStem_38 : decode cX1_putStem 38 = .ok (.if_icmp .ne 34, 3) := by decide +kernel
theorem dX1_putStem_41 : decode cX1_putStem 41 = .ok (.aload_n 0, 1) := by decide +kernel
theorem dX1_putStem_42 : decode cX1_putStem 42 = .ok (.getfield 50, 3) := by decide +kernel
theorem dX1_putStem_45 : decode cX1_putStem 45 = .ok (.iload_n 1, 1) := by decide +kernel
theorem dX1_putStem_46 : decode cX1_putStem 46 = .ok (.iconst (-1), 1) := by decide +kernel
theorem dX1_putStem_47 : decode cX1_putStem 47 = .ok (.aload_n 0, 1) := by decide +kernel
theorem dX1_putStem_48 : decode cX1_putStem 48 = .ok (.getfield 26, 3) := by decide +kernel
theorem dX1_putStem_51 : decode cX1_putStem 51 = .ok (.invokevirtual 104, 3) := by decide +kernel
theorem dX1_putStem_54 : decode cX1_putStem 54 = .ok (.pop, 1) := by decide +kernel
theorem dX1_putStem_55 : decode cX1_putStem 55 = .ok (.aload_n 0, 1) := by decide +kernel
theorem dX1_putStem_56 : decode cX1_putStem 56 = .ok (.getfield 18, 3) := by decide +kernel
theorem dX1_putStem_59 : decode cX1_putStem 59 = .ok (.getfield 70, 3) := by decide +kernel
theorem dX1_putStem_62 : decode cX1_putStem 62 = .ok (.iconst (-1), 1) := by decide +kernel
theorem dX1_putStem_63 : decode cX1_putStem 63 = .ok (.if_icmp .eq 7, 3) := by decide +kernel
theorem dX1_putStem_66 : decode cX1_putStem 66 = .ok (.iconst 1, 1) := by decide +kernel
theorem dX1_putStem_67 : decode cX1_putStem 67 = .ok (.goto 4, 3) := by decide +kernel
theorem dX1_putStem_70 : decode cX1_putStem 70 = .ok (.iconst 0, 1) := by decide +kernel
theorem dX1_putStem_71 : decode cX1_putStem 71 = .ok (.ireturn, 1) := by decide +kernel
theorem dX1_putStem_72 : decode cX1_putStem 72 = .ok (.aload_n 0, 1) := by decide +kernel
theorem dX1_putStem_73 : decode cX1_putStem 73 = .ok (.iload_n 2, 1) := by decide +kernel
theorem dX1_putStem_74 : decode cX1_putStem 74 = .ok (.iconst 0, 1) := by decide +kernel
theorem dX1_putStem_75 : decode cX1_putStem 75 = .ok (.aload_n 0, 1) := by decide +kernel
theorem dX1_putStem_76 : decode cX1_putStem 76 = .ok (.getfield 18, 3) := by decide +kernel
theorem dX1_putStem_79 : decode cX1_putStem 79 = .ok (.getfield 70, 3) := by decide +kernel
theorem dX1_putStem_82 : decode cX1_putStem 82 = .ok (.invokevirtual 107, 3) := by decide +kernel
theorem dX1_putStem_85 : decode cX1_putStem 85 = .ok (.ifCond .eq 23, 3) := by decide +kernel
theorem dX1_putStem_88 : decode cX1_putStem 88 = .ok (.aload_n 0, 1) := by decide +kernel
theorem dX1_putStem_89 : decode cX1_putStem 89 = .ok (.getfield 50, 3) := by decide +kernel
theorem dX1_putStem_92 : decode cX1_putStem 92 = .ok (.iload_n 1, 1) := by decide +kernel
theorem dX1_putStem_93 : decode cX1_putStem 93 = .ok (.iload_n 2, 1) := by decide +kernel
theorem dX1_putStem_94 : decode cX1_putStem 94 = .ok (.aload_n 0, 1) := by decide +kernel
theorem dX1_putStem_95 : decode cX1_putStem 95 = .ok (.getfield 26, 3) := by decide +kernel
theorem dX1_putStem_98 : decode cX1_putStem 98 = .ok (.invokevirtual 104, 3) := by decide +kernel
theorem dX1_putStem_101 : decode cX1_putStem 101 = .ok (.ifCond .eq 7, 3) := by decide +kernel
theorem dX1_putStem_104 : decode cX1_putStem 104 = .ok (.iconst 1, 1) := by decide +kernel
theorem dX1_putStem_105 : decode cX1_putStem 105 = .ok (.goto 4, 3) := by decide +kernel
theorem dX1_putStem_108 : decode cX1_putStem 108 = .ok (.iconst 0, 1) := by decide +kernel
theorem dX1_putStem_109 : decode cX1_putStem 109 = .ok (.ireturn, 1) := by decide +kernel
theorem dX1_putEnding_0 : decode cX1_putEnding 0 = .ok (.iload_n 1, 1) := by decide +kernel
theorem dX1_putEnding_1 : decode cX1_putEnding 1 = .ok (.bipush (-2), 2) := by decide +kernel
theorem dX1_putEnding_3 : decode cX1_putEnding 3 = .ok (.if_icmp .ne 13, 3) := by decide +kernel
theorem dX1_putEnding_6 : decode cX1_putEnding 6 = .ok (.aload_n 0, 1) := by decide +kernel
theorem dX1_putEnding_7 : decode cX1_putEnding 7 = .ok (.getfield 18, 3) := by decide +kernel
theorem dX1_putEnding_10 : decode cX1_putEnding 10 = .ok (.getfield 73, 3) := by decide +kernel
theorem dX1_putEnding_13 : decode cX1_putEnding 13 = .ok (.goto 4, 3) := by decide +kernel
theorem dX1_putEnding_16 : decode cX1_putEnding 16 = .ok (.iload_n 1, 1) := by decide +kernel
theorem dX1_putEnding_17 : decode cX1_putEnding 17 = .ok (.istore_n 2, 1) := by decide +kernel
theorem dX1_putEnding_18 : decode cX1_putEnding 18 = .ok (.iload_n 1, 1) := by decide +kernel
theorem dX1_putEnding_19 : decode cX1_putEnding 19 = .ok (.bipush 60, 2) := by decide +kernel
theorem dX1_putEnding_21 : decode cX1_putEnding 21 = .ok (.if_icmp .eq 27, 3) := by decide +kernel
theorem dX1_putEnding_24 : decode cX1_putEnding 24 = .ok (.iload_n 1, 1) := by decide +kernel
theorem dX1_putEnding_25 : decode cX1_putEnding 25 = .ok (.bipush (-2), 2) := by decide +kernel
theorem dX1_putEnding_27 : decode cX1_putEnding 27 = .ok (.if_icmp .eq 21, 3) := by decide +kernel
theorem dX1_putEnding_30 : decode cX1_putEnding 30 = .ok (.aload_n 0, 1) := by decide +kernel
theorem dX1_putEnding_31 : decode cX1_putEnding 31 = .ok (.iload_n 1, 1) := by decide +kernel
theorem dX1_putEnding_32 : decode cX1_putEnding 32 = .ok (.iconst 1, 1) := by decide +kernel
theorem dX1_putEnding_33 : decode cX1_putEnding 33 = .ok (.aload_n 0, 1) := by decide +kernel
theorem dX1_putEnding_34 : decode cX1_putEnding 34 = .ok (.getfield 18, 3) := by decide +kernel
theorem dX1_putEnding_37 : decode cX1_putEnding 37 = .ok (.getfield 73, 3) := by decide +kernel
theorem dX1_putEnding_40 : decode cX1_putEnding 40 = .ok (.invokevirtual 107, 3) := by decide +kernel
theorem dX1_putEnding_43 : decode cX1_putEnding 43 = .ok (.ifCond .ne 5, 3) := by decide +kernel
theorem dX1_putEnding_46 : decode cX1_putEnding 46 = .ok (.iconst 0, 1) := by decide +kernel
theorem dX1_putEnding_47 : decode cX1_putEnding 47 = .ok (.ireturn, 1) := by decide +kernel
theorem dX1_putEnding_48 : decode cX1_putEnding 48 = .ok (.aload_n 0, 1) := by decide +kernel
theorem dX1_putEnding_49 : decode cX1_putEnding 49 = .ok (.getfield 18, 3) := by decide +kernel
theorem dX1_putEnding_52 : decode cX1_putEnding 52 = .ok (.iload_n 1, 1) := by decide +kernel
theorem dX1_putEnding_53 : decode cX1_putEnding 53 = .ok (.putfield 111, 3) := by decide +kernel
theorem dX1_putEnding_56 : decode cX1_putEnding 56 = .ok (.aload_n 0, 1) := by decide +kernel
theorem dX1_putEnding_57 : decode cX1_putEnding 57 = .ok (.getfield 18, 3) := by decide +kernel
theorem dX1_putEnding_60 : decode cX1_putEnding 60 = .ok (.iconst (-1), 1) := by decide +kernel
theorem dX1_putEnding_61 : decode cX1_putEnding 61 = .ok (.putfield 114, 3) := by decide +kernel
theorem dX1_putEnding_64 : decode cX1_putEnding 64 = .ok (.aload_n 0, 1) := by decide +kernel
theorem dX1_putEnding_65 : decode cX1_putEnding 65 = .ok (.getfield 18, 3) := by decide +kernel
theorem dX1_putEnding_68 : decode cX1_putEnding 68 = .ok (.iconst (-1), 1) := by decide +kernel
theorem dX1_putEnding_69 : decode cX1_putEnding 69 = .ok (.putfield 117, 3) := by decide +kernel
theorem dX1_putEnding_72 : decode cX1_putEnding 72 = .ok (.aload_n 0, 1) := by decide +kernel
theorem dX1_putEnding_73 : decode cX1_putEnding 73 = .ok (.getfield 30, 3) := by decide +kernel
theorem dX1_putEnding_76 : decode cX1_putEnding 76 = .ok (.aload_n 0, 1) := by decide +kernel
theorem dX1_putEnding_77 : decode cX1_putEnding 77 = .ok (.getfield 26, 3) := by decide +kernel
theorem dX1_putEnding_80 : decode cX1_putEnding 80 = .ok (.invokevirtual 120, 3) := by decide +kernel
theorem dX1_putEnding_83 : decode cX1_putEnding 83 = .ok (.iload_n 1, 1) := by decide +kernel
theorem dX1_putEnding_84 : decode cX1_putEnding 84 = .ok (.bipush 60, 2) := by decide +kernel
theorem dX1_putEnding_86 : decode cX1_putEnding 86 = .ok (.if_icmp .eq 30, 3) := by decide +kernel
theorem dX1_putEnding_89 : decode cX1_putEnding 89 = .ok (.iload_n 2, 1) := by decide +kernel
theorem dX1_putEnding_90 : decode cX1_putEnding 90 = .ok (.iconst (-1), 1) := by decide +kernel
theorem dX1_putEnding_91 : decode cX1_putEnding 91 = .ok (.if_icmp .eq 29, 3) := by decide +kernel
theorem dX1_putEnding_94 : decode cX1_putEnding 94 = .ok (.aload_n 0, 1) := by decide +kernel
theorem dX1_putEnding_95 : decode cX1_putEnding 95 = .ok (.getfield 30, 3) := by decide +kernel
theorem dX1_putEnding_98 : decode cX1_putEnding 98 = .ok (.aload_n 0, 1) := by decide +kernel
theorem dX1_putEnding_99 : decode cX1_putEnding 99 = .ok (.getfield 50, 3) := by decide +kernel
theorem dX1_putEnding_102 : decode cX1_putEnding 102 = .ok (.getfield 124, 3) := by decide +kernel
theorem dX1_putEnding_105 : decode cX1_putEnding 105 = .ok (.iload_n 2, 1) := by decide +kernel
theorem dX1_putEnding_106 : decode cX1_putEnding 106 = .ok (.aaload, 1) := by decide +kernel
theorem dX1_putEnding_107 : decode cX1_putEnding 107 = .ok (.getfield 128, 3) := by decide +kernel
theorem dX1_putEnding_110 : decode cX1_putEnding 110 = .ok (.invokevirtual 133, 3) := by decide +kernel
theorem dX1_putEnding_113 : decode cX1_putEnding 113 = .ok (.ifCond .eq 7, 3) := by decide +kernel
theorem dX1_putEnding_116 : decode cX1_putEnding 116 = .ok (.iconst 1, 1) := by decide +kernel
theorem dX1_putEnding_117 : decode cX1_putEnding 117 = .ok (.goto 4, 3) := by decide +kernel
theorem dX1_putEnding_120 : decode cX1_putEnding 120 = .ok (.iconst 0, 1) := by decide +kernel
theorem dX1_putEnding_121 : decode cX1_putEnding 121 = .ok (.ireturn, 1) := by decide +kernel
theorem dX1_isOther_0 : decode cX1_isOther 0 = .ok (.iload_n 1, 1) := by decide +kernel
theorem dX1_isOther_1 : decode cX1_isOther 1 = .ok (.ifCond .lt 39, 3) := by decide +kernel
theorem dX1_isOther_4 : decode cX1_isOther 4 = .ok (.iload_n 1, 1) := by decide +kernel
theorem dX1_isOther_5 : decode cX1_isOther 5 = .ok (.aload_n 0, 1) := by decide +kernel
theorem dX1_isOther_6 : decode cX1_isOther 6 = .ok (.getfield 50, 3) := by decide +kernel
theorem dX1_isOther_9 : decode cX1_isOther 9 = .ok (.getfield 80, 3) := by decide +kernel
theorem dX1_isOther_12 : decode cX1_isOther 12 = .ok (.if_icmp .ge 28, 3) := by decide +kernel
theorem dX1_isOther_15 : decode cX1_isOther 15 = .ok (.aload_n 0, 1) := by decide +kernel
theorem dX1_isOther_16 : decode cX1_isOther 16 = .ok (.getfield 50, 3) := by decide +kernel
theorem dX1_isOther_19 : decode cX1_isOther 19 = .ok (.getfield 124, 3) := by decide +kernel
theorem dX1_isOther_22 : decode cX1_isOther 22 = .ok (.iload_n 1, 1) := by decide +kernel
theorem dX1_isOther_23 : decode cX1_isOther 23 = .ok (.aaload, 1) := by decide +kernel
theorem dX1_isOther_24 : decode cX1_isOther 24 = .ok (.getfield 137, 3) := by decide +kernel
theorem dX1_isOther_27 : decode cX1_isOther 27 = .ok (.iload_n 2, 1) := by decide +kernel
theorem dX1_isOther_28 : decode cX1_isOther 28 = .ok (.if_icmp .ne 12, 3) := by decide +kernel
theorem dX1_isOther_31 : decode cX1_isOther 31 = .ok (.iload_n 1, 1) := by decide +kernel
theorem dX1_isOther_32 : decode cX1_isOther 32 = .ok (.iload_n 3, 1) := by decide +kernel
theorem dX1_isOther_33 : decode cX1_isOther 33 = .ok (.if_icmp .eq 7, 3) := by decide +kernel
theorem dX1_isOther_36 : decode cX1_isOther 36 = .ok (.iconst 1, 1) := by decide +kernel
theorem dX1_isOther_37 : decode cX1_isOther 37 = .ok (.goto 4, 3) := by decide +kernel
theorem dX1_isOther_40 : decode cX1_isOther 40 = .ok (.iconst 0, 1) := by decide +kernel
theorem dX1_isOther_41 : decode cX1_isOther 41 = .ok (.ireturn, 1) := by decide +kernel
theorem dX1_trySounds_0 : decode cX1_trySounds 0 = .ok (.iconst 2, 1) := by decide +kernel
theorem dX1_trySounds_1 : decode cX1_trySounds 1 = .ok (.aload_n 0, 1) := by decide +kernel
theorem dX1_trySounds_2 : decode cX1_trySounds 2 = .ok (.getfield 18, 3) := by decide +kernel
theorem dX1_trySounds_5 : decode cX1_trySounds 5 = .ok (.invokevirtual 140, 3) := by decide +kernel
theorem dX1_trySounds_8 : decode cX1_trySounds 8 = .ok (.isub, 1) := by decide +kernel
theorem dX1_trySounds_9 : decode cX1_trySounds 9 = .ok (.istore_n 1, 1) := by decide +kernel
theorem dX1_trySounds_10 : decode cX1_trySounds 10 = .ok (.aload_n 0, 1) := by decide +kernel
theorem dX1_trySounds_11 : decode cX1_trySounds 11 = .ok (.invokevirtual 144, 3) := by decide +kernel
theorem dX1_trySounds_14 : decode cX1_trySounds 14 = .ok (.lstore_n 2, 1) := by decide +kernel
theorem dX1_trySounds_15 : decode cX1_trySounds 15 = .ok (.iconst 0, 1) := by decide +kernel
theorem dX1_trySounds_16 : decode cX1_trySounds 16 = .ok (.istore 4, 2) := by decide +kernel
theorem dX1_trySounds_18 : decode cX1_trySounds 18 = .ok (.iload 4, 2) := by decide +kernel
theorem dX1_trySounds_20 : decode cX1_trySounds 20 = .ok (.aload_n 0, 1) := by decide +kernel
theorem dX1_trySounds_21 : decode cX1_trySounds 21 = .ok (.getfield 50, 3) := by decide +kernel
theorem dX1_trySounds_24 : decode cX1_trySounds 24 = .ok (.getfield 80, 3) := by decide +kernel
theorem dX1_trySounds_27 : decode cX1_trySounds 27 = .ok (.if_icmp .ge 102, 3) := by decide +kernel
theorem dX1_trySounds_30 : decode cX1_trySounds 30 = .ok (.iload_n 1, 1) := by decide +kernel
theorem dX1_trySounds_31 : decode cX1_trySounds 31 = .ok (.ifCond .le 98, 3) := by decide +kernel
theorem dX1_trySounds_34 : decode cX1_trySounds 34 = .ok (.lload_n 2, 1) := by decide +kernel
theorem dX1_trySounds_35 : decode cX1_trySounds 35 = .ok (.iload 4, 2) := by decide +kernel
theorem dX1_trySounds_37 : decode cX1_trySounds 37 = .ok (.lushr, 1) := by decide +kernel
theorem dX1_trySounds_38 : decode cX1_trySounds 38 = .ok (.lconst 1, 1) := by decide +kernel
theorem dX1_trySounds_39 : decode cX1_trySounds 39 = .ok (.land, 1) := by decide +kernel
theorem dX1_trySounds_40 : decode cX1_trySounds 40 = .ok (.lconst 0, 1) := by decide +kernel
theorem dX1_trySounds_41 : decode cX1_trySounds 41 = .ok (.lcmp, 1) := by decide +kernel
theorem dX1_trySounds_42 : decode cX1_trySounds 42 = .ok (.ifCond .eq 81, 3) := by decide +kernel
theorem dX1_trySounds_45 : decode cX1_trySounds 45 = .ok (.aload_n 0, 1) := by decide +kernel
theorem dX1_trySounds_46 : decode cX1_trySounds 46 = .ok (.getfield 18, 3) := by decide +kernel
theorem dX1_trySounds_49 : decode cX1_trySounds 49 = .ok (.iload 4, 2) := by decide +kernel
theorem dX1_trySounds_51 : decode cX1_trySounds 51 = .ok (.putfield 114, 3) := by decide +kernel
theorem dX1_trySounds_54 : decode cX1_trySounds 54 = .ok (.aload_n 0, 1) := by decide +kernel
theorem dX1_trySounds_55 : decode cX1_trySounds 55 = .ok (.invokevirtual 144, 3) := by decide +kernel
theorem dX1_trySounds_58 : decode cX1_trySounds 58 = .ok (.lstore 5, 2) := by decide +kernel
theorem dX1_trySounds_60 : decode cX1_trySounds 60 = .ok (.iload 4, 2) := by decide +kernel
theorem dX1_trySounds_62 : decode cX1_trySounds 62 = .ok (.iconst 1, 1) := by decide +kernel
theorem dX1_trySounds_63 : decode cX1_trySounds 63 = .ok (.iadd, 1) := by decide +kernel
theorem dX1_trySounds_64 : decode cX1_trySounds 64 = .ok (.istore 7, 2) := by decide +kernel
theorem dX1_trySounds_66 : decode cX1_trySounds 66 = .ok (.iload 7, 2) := by decide +kernel
theorem dX1_trySounds_68 : decode cX1_trySounds 68 = .ok (.aload_n 0, 1) := by decide +kernel
theorem dX1_trySounds_69 : decode cX1_trySounds 69 = .ok (.getfield 50, 3) := by decide +kernel
theorem dX1_trySounds_72 : decode cX1_trySounds 72 = .ok (.getfield 80, 3) := by decide +kernel
theorem dX1_trySounds_75 : decode cX1_trySounds 75 = .ok (.if_icmp .ge 40, 3) := by decide +kernel
theorem dX1_trySounds_78 : decode cX1_trySounds 78 = .ok (.iload_n 1, 1) := by decide +kernel
theorem dX1_trySounds_79 : decode cX1_trySounds 79 = .ok (.iconst 1, 1) := by decide +kernel
theorem dX1_trySounds_80 : decode cX1_trySounds 80 = .ok (.if_icmp .le 35, 3) := by decide +kernel
theorem dX1_trySounds_83 : decode cX1_trySounds 83 = .ok (.lload 5, 2) := by decide +kernel
theorem dX1_trySounds_85 : decode cX1_trySounds 85 = .ok (.iload 7, 2) := by decide +kernel
theorem dX1_trySounds_87 : decode cX1_trySounds 87 = .ok (.lushr, 1) := by decide +kernel
theorem dX1_trySounds_88 : decode cX1_trySounds 88 = .ok (.lconst 1, 1) := by decide +kernel
theorem dX1_trySounds_89 : decode cX1_trySounds 89 = .ok (.land, 1) := by decide +kernel
theorem dX1_trySounds_90 : decode cX1_trySounds 90 = .ok (.lconst 0, 1) := by decide +kernel
theorem dX1_trySounds_91 : decode cX1_trySounds 91 = .ok (.lcmp, 1) := by decide +kernel
theorem dX1_trySounds_92 : decode cX1_trySounds 92 = .ok (.ifCond .eq 17, 3) := by decide +kernel
theorem dX1_trySounds_95 : decode cX1_trySounds 95 = .ok (.aload_n 0, 1) := by decide +kernel
theorem dX1_trySounds_96 : decode cX1_trySounds 96 = .ok (.getfield 18, 3) := by decide +kernel
theorem dX1_trySounds_99 : decode cX1_trySounds 99 = .ok (.iload 7, 2) := by decide +kernel
theorem dX1_trySounds_101 : decode cX1_trySounds 101 = .ok (.putfield 117, 3) := by decide +kernel
theorem dX1_trySounds_104 : decode cX1_trySounds 104 = .ok (.aload_n 0, 1) := by decide +kernel
theorem dX1_trySounds_105 : decode cX1_trySounds 105 = .ok (.invokevirtual 144, 3) := by decide +kernel
theorem dX1_trySounds_108 : decode cX1_trySounds 108 = .ok (.pop2, 1) := by decide +kernel
theorem dX1_trySounds_109 : decode cX1_trySounds 109 = .ok (.iinc 7 1, 3) := by decide +kernel
theorem dX1_trySounds_112 : decode cX1_trySounds 112 = .ok (.goto (-46), 3) := by decide +kernel
theorem dX1_trySounds_115 : decode cX1_trySounds 115 = .ok (.aload_n 0, 1) := by decide +kernel
theorem dX1_trySounds_116 : decode cX1_trySounds 116 = .ok (.getfield 18, 3) := by decide +kernel
theorem dX1_trySounds_119 : decode cX1_trySounds 119 = .ok (.iconst (-1), 1) := by decide +kernel
theorem dX1_trySounds_120 : decode cX1_trySounds 120 = .ok (.putfield 117, 3) := by decide +kernel
theorem dX1_trySounds_123 : decode cX1_trySounds 123 = .ok (.iinc 4 1, 3) := by decide +kernel
theorem dX1_trySounds_126 : decode cX1_trySounds 126 = .ok (.goto (-108), 3) := by decide +kernel
theorem dX1_trySounds_129 : decode cX1_trySounds 129 = .ok (.return_, 1) := by decide +kernel
theorem dX1_tryWord_0 : decode cX1_tryWord 0 = .ok (.aload_n 0, 1) := by decide +kernel
theorem dX1_tryWord_1 : decode cX1_tryWord 1 = .ok (.getfield 33, 3) := by decide +kernel
theorem dX1_tryWord_4 : decode cX1_tryWord 4 = .ok (.aload_n 0, 1) := by decide +kernel
theorem dX1_tryWord_5 : decode cX1_tryWord 5 = .ok (.getfield 30, 3) := by decide +kernel
theorem dX1_tryWord_8 : decode cX1_tryWord 8 = .ok (.invokevirtual 120, 3) := by decide +kernel
theorem dX1_tryWord_11 : decode cX1_tryWord 11 = .ok (.aload_n 0, 1) := by decide +kernel
theorem dX1_tryWord_12 : decode cX1_tryWord 12 = .ok (.getfield 57, 3) := by decide +kernel
theorem dX1_tryWord_15 : decode cX1_tryWord 15 = .ok (.aload_n 0, 1) := by decide +kernel
theorem dX1_tryWord_16 : decode cX1_tryWord 16 = .ok (.getfield 50, 3) := by decide +kernel
theorem dX1_tryWord_19 : decode cX1_tryWord 19 = .ok (.aload_n 0, 1) := by decide +kernel
theorem dX1_tryWord_20 : decode cX1_tryWord 20 = .ok (.getfield 33, 3) := by decide +kernel
theorem dX1_tryWord_23 : decode cX1_tryWord 23 = .ok (.aload_n 0, 1) := by decide +kernel
theorem dX1_tryWord_24 : decode cX1_tryWord 24 = .ok (.getfield 18, 3) := by decide +kernel
theorem dX1_tryWord_27 : decode cX1_tryWord 27 = .ok (.getfield 114, 3) := by decide +kernel
theorem dX1_tryWord_30 : decode cX1_tryWord 30 = .ok (.aload_n 0, 1) := by decide +kernel
theorem dX1_tryWord_31 : decode cX1_tryWord 31 = .ok (.getfield 18, 3) := by decide +kernel
theorem dX1_tryWord_34 : decode cX1_tryWord 34 = .ok (.getfield 117, 3) := by decide +kernel
theorem dX1_tryWord_37 : decode cX1_tryWord 37 = .ok (.invokevirtual 148, 3) := by decide +kernel
theorem dX1_tryWord_40 : decode cX1_tryWord 40 = .ok (.lstore_n 1, 1) := by decide +kernel
theorem dX1_tryWord_41 : decode cX1_tryWord 41 = .ok (.aload_n 0, 1) := by decide +kernel
theorem dX1_tryWord_42 : decode cX1_tryWord 42 = .ok (.getfield 57, 3) := by decide +kernel
theorem dX1_tryWord_45 : decode cX1_tryWord 45 = .ok (.getfield 154, 3) := by decide +kernel
theorem dX1_tryWord_48 : decode cX1_tryWord 48 = .ok (.ifCond .eq 40, 3) := by decide +kernel
theorem dX1_tryWord_51 : decode cX1_tryWord 51 = .ok (.aload_n 0, 1) := by decide +kernel
theorem dX1_tryWord_52 : decode cX1_tryWord 52 = .ok (.getfield 33, 3) := by decide +kernel
theorem dX1_tryWord_55 : decode cX1_tryWord 55 = .ok (.aload_n 0, 1) := by decide +kernel
theorem dX1_tryWord_56 : decode cX1_tryWord 56 = .ok (.getfield 54, 3) := by decide +kernel
theorem dX1_tryWord_59 : decode cX1_tryWord 59 = .ok (.invokevirtual 157, 3) := by decide +kernel
theorem dX1_tryWord_62 : decode cX1_tryWord 62 = .ok (.ifCond .eq 26, 3) := by decide +kernel
theorem dX1_tryWord_65 : decode cX1_tryWord 65 = .ok (.aload_n 0, 1) := by decide +kernel
theorem dX1_tryWord_66 : decode cX1_tryWord 66 = .ok (.invokevirtual 91, 3) := by decide +kernel
theorem dX1_tryWord_69 : decode cX1_tryWord 69 = .ok (.ifCond .eq 19, 3) := by decide +kernel
theorem dX1_tryWord_72 : decode cX1_tryWord 72 = .ok (.aload_n 0, 1) := by decide +kernel
theorem dX1_tryWord_73 : decode cX1_tryWord 73 = .ok (.getfield 12, 3) := by decide +kernel
theorem dX1_tryWord_76 : decode cX1_tryWord 76 = .ok (.aload_n 0, 1) := by decide +kernel
theorem dX1_tryWord_77 : decode cX1_tryWord 77 = .ok (.getfield 18, 3) := by decide +kernel
theorem dX1_tryWord_80 : decode cX1_tryWord 80 = .ok (.invokevirtual 160, 3) := by decide +kernel
theorem dX1_tryWord_83 : decode cX1_tryWord 83 = .ok (.aload_n 0, 1) := by decide +kernel
theorem dX1_tryWord_84 : decode cX1_tryWord 84 = .ok (.iconst 1, 1) := by decide +kernel
theorem dX1_tryWord_85 : decode cX1_tryWord 85 = .ok (.putfield 76, 3) := by decide +kernel
theorem dX1_tryWord_88 : decode cX1_tryWord 88 = .ok (.lload_n 1, 1) := by decide +kernel
theorem dX1_tryWord_89 : decode cX1_tryWord 89 = .ok (.lreturn, 1) := by decide +kernel
theorem dX1_isBetter_0 : decode cX1_isBetter 0 = .ok (.aload_n 0, 1) := by decide +kernel
theorem dX1_isBetter_1 : decode cX1_isBetter 1 = .ok (.getfield 18, 3) := by decide +kernel
theorem dX1_isBetter_4 : decode cX1_isBetter 4 = .ok (.invokevirtual 140, 3) := by decide +kernel
theorem dX1_isBetter_7 : decode cX1_isBetter 7 = .ok (.istore_n 1, 1) := by decide +kernel
theorem dX1_isBetter_8 : decode cX1_isBetter 8 = .ok (.iload_n 1, 1) := by decide +kernel
theorem dX1_isBetter_9 : decode cX1_isBetter 9 = .ok (.iconst 2, 1) := by decide +kernel
theorem dX1_isBetter_10 : decode cX1_isBetter 10 = .ok (.if_icmp .gt 10, 3) := by decide +kernel
theorem dX1_isBetter_13 : decode cX1_isBetter 13 = .ok (.aload_n 0, 1) := by decide +kernel
theorem dX1_isBetter_14 : decode cX1_isBetter 14 = .ok (.getfield 76, 3) := by decide +kernel
theorem dX1_isBetter_17 : decode cX1_isBetter 17 = .ok (.ifCond .ne 14, 3) := by decide +kernel
theorem dX1_isBetter_20 : decode cX1_isBetter 20 = .ok (.iload_n 1, 1) := by decide +kernel
theorem dX1_isBetter_21 : decode cX1_isBetter 21 = .ok (.iconst 2, 1) := by decide +kernel
theorem dX1_isBetter_22 : decode cX1_isBetter 22 = .ok (.if_icmp .gt 7, 3) := by decide +kernel
theorem dX1_isBetter_25 : decode cX1_isBetter 25 = .ok (.iconst 1, 1) := by decide +kernel
theorem dX1_isBetter_26 : decode cX1_isBetter 26 = .ok (.goto 4, 3) := by decide +kernel
theorem dX1_isBetter_29 : decode cX1_isBetter 29 = .ok (.iconst 0, 1) := by decide +kernel
theorem dX1_isBetter_30 : decode cX1_isBetter 30 = .ok (.ireturn, 1) := by decide +kernel
theorem dX1_isBetter_31 : decode cX1_isBetter 31 = .ok (.aload_n 0, 1) := by decide +kernel
theorem dX1_isBetter_32 : decode cX1_isBetter 32 = .ok (.getfield 12, 3) := by decide +kernel
theorem dX1_isBetter_35 : decode cX1_isBetter 35 = .ok (.invokevirtual 163, 3) := by decide +kernel
theorem dX1_isBetter_38 : decode cX1_isBetter 38 = .ok (.aload_n 0, 1) := by decide +kernel
theorem dX1_isBetter_39 : decode cX1_isBetter 39 = .ok (.getfield 18, 3) := by decide +kernel
theorem dX1_isBetter_42 : decode cX1_isBetter 42 = .ok (.invokevirtual 163, 3) := by decide +kernel
theorem dX1_isBetter_45 : decode cX1_isBetter 45 = .ok (.isub, 1) := by decide +kernel
theorem dX1_isBetter_46 : decode cX1_isBetter 46 = .ok (.istore_n 2, 1) := by decide +kernel
theorem dX1_isBetter_47 : decode cX1_isBetter 47 = .ok (.iload_n 2, 1) := by decide +kernel
theorem dX1_isBetter_48 : decode cX1_isBetter 48 = .ok (.ifCond .gt 18, 3) := by decide +kernel
theorem dX1_isBetter_51 : decode cX1_isBetter 51 = .ok (.iload_n 2, 1) := by decide +kernel
theorem dX1_isBetter_52 : decode cX1_isBetter 52 = .ok (.ifCond .ne 18, 3) := by decide +kernel
theorem dX1_isBetter_55 : decode cX1_isBetter 55 = .ok (.iload_n 1, 1) := by decide +kernel
theorem dX1_isBetter_56 : decode cX1_isBetter 56 = .ok (.aload_n 0, 1) := by decide +kernel
theorem dX1_isBetter_57 : decode cX1_isBetter 57 = .ok (.getfield 12, 3) := by decide +kernel
theorem dX1_isBetter_60 : decode cX1_isBetter 60 = .ok (.invokevirtual 140, 3) := by decide +kernel
theorem dX1_isBetter_63 : decode cX1_isBetter 63 = .ok (.if_icmp .ge 7, 3) := by decide +kernel
theorem dX1_isBetter_66 : decode cX1_isBetter 66 = .ok (.iconst 1, 1) := by decide +kernel
theorem dX1_isBetter_67 : decode cX1_isBetter 67 = .ok (.goto 4, 3) := by decide +kernel
theorem dX1_isBetter_70 : decode cX1_isBetter 70 = .ok (.iconst 0, 1) := by decide +kernel
theorem dX1_isBetter_71 : decode cX1_isBetter 71 = .ok (.ireturn, 1) := by decide +kernel
theorem dX1_tell_0 : decode cX1_tell 0 = .ok (.aload_n 0, 1) := by decide +kernel
theorem dX1_tell_1 : decode cX1_tell 1 = .ok (.iconst 0, 1) := by decide +kernel
theorem dX1_tell_2 : decode cX1_tell 2 = .ok (.putfield 46, 3) := by decide +kernel
theorem dX1_tell_5 : decode cX1_tell 5 = .ok (.aload_n 0, 1) := by decide +kernel
theorem dX1_tell_6 : decode cX1_tell 6 = .ok (.getfield 12, 3) := by decide +kernel
theorem dX1_tell_9 : decode cX1_tell 9 = .ok (.getfield 67, 3) := by decide +kernel
theorem dX1_tell_12 : decode cX1_tell 12 = .ok (.iconst (-1), 1) := by decide +kernel
theorem dX1_tell_13 : decode cX1_tell 13 = .ok (.if_icmp .eq 16, 3) := by decide +kernel
theorem dX1_tell_16 : decode cX1_tell 16 = .ok (.aload_n 0, 1) := by decide +kernel
theorem dX1_tell_17 : decode cX1_tell 17 = .ok (.iconst 0, 1) := by decide +kernel
theorem dX1_tell_18 : decode cX1_tell 18 = .ok (.aload_n 0, 1) := by decide +kernel
theorem dX1_tell_19 : decode cX1_tell 19 = .ok (.getfield 12, 3) := by decide +kernel
theorem dX1_tell_22 : decode cX1_tell 22 = .ok (.getfield 67, 3) := by decide +kernel
theorem dX1_tell_25 : decode cX1_tell 25 = .ok (.iconst (-1), 1) := by decide +kernel
theorem dX1_tell_26 : decode cX1_tell 26 = .ok (.invokevirtual 166, 3) := by decide +kernel
theorem dX1_tell_29 : decode cX1_tell 29 = .ok (.aload_n 0, 1) := by decide +kernel
theorem dX1_tell_30 : decode cX1_tell 30 = .ok (.getfield 12, 3) := by decide +kernel
theorem dX1_tell_33 : decode cX1_tell 33 = .ok (.getfield 101, 3) := by decide +kernel
theorem dX1_tell_36 : decode cX1_tell 36 = .ok (.iconst (-1), 1) := by decide +kernel
theorem dX1_tell_37 : decode cX1_tell 37 = .ok (.if_icmp .ne 19, 3) := by decide +kernel
theorem dX1_tell_40 : decode cX1_tell 40 = .ok (.aload_n 0, 1) := by decide +kernel
theorem dX1_tell_41 : decode cX1_tell 41 = .ok (.iconst 1, 1) := by decide +kernel
theorem dX1_tell_42 : decode cX1_tell 42 = .ok (.aload_n 0, 1) := by decide +kernel
theorem dX1_tell_43 : decode cX1_tell 43 = .ok (.getfield 12, 3) := by decide +kernel
theorem dX1_tell_46 : decode cX1_tell 46 = .ok (.getfield 70, 3) := by decide +kernel
theorem dX1_tell_49 : decode cX1_tell 49 = .ok (.iconst (-1), 1) := by decide +kernel
theorem dX1_tell_50 : decode cX1_tell 50 = .ok (.invokevirtual 166, 3) := by decide +kernel
theorem dX1_tell_53 : decode cX1_tell 53 = .ok (.goto 55, 3) := by decide +kernel
theorem dX1_tell_56 : decode cX1_tell 56 = .ok (.aload_n 0, 1) := by decide +kernel
theorem dX1_tell_57 : decode cX1_tell 57 = .ok (.getfield 12, 3) := by decide +kernel
theorem dX1_tell_60 : decode cX1_tell 60 = .ok (.getfield 101, 3) := by decide +kernel
theorem dX1_tell_63 : decode cX1_tell 63 = .ok (.bipush (-2), 2) := by decide +kernel
theorem dX1_tell_65 : decode cX1_tell 65 = .ok (.if_icmp .eq 43, 3) := by decide +kernel
theorem dX1_tell_68 : decode cX1_tell 68 = .ok (.aload_n 0, 1) := by decide +kernel
theorem dX1_tell_69 : decode cX1_tell 69 = .ok (.iconst 2, 1) := by decide +kernel
theorem dX1_tell_70 : decode cX1_tell 70 = .ok (.aload_n 0, 1) := by decide +kernel
theorem dX1_tell_71 : decode cX1_tell 71 = .ok (.getfield 12, 3) := by decide +kernel
theorem dX1_tell_74 : decode cX1_tell 74 = .ok (.getfield 70, 3) := by decide +kernel
theorem dX1_tell_77 : decode cX1_tell 77 = .ok (.iconst (-1), 1) := by decide +kernel
theorem dX1_tell_78 : decode cX1_tell 78 = .ok (.if_icmp .ne 13, 3) := by decide +kernel
theorem dX1_tell_81 : decode cX1_tell 81 = .ok (.aload_n 0, 1) := by decide +kernel
theorem dX1_tell_82 : decode cX1_tell 82 = .ok (.getfield 12, 3) := by decide +kernel
theorem dX1_tell_85 : decode cX1_tell 85 = .ok (.getfield 101, 3) := by decide +kernel
theorem dX1_tell_88 : decode cX1_tell 88 = .ok (.goto 10, 3) := by decide +kernel
theorem dX1_tell_91 : decode cX1_tell 91 = .ok (.aload_n 0, 1) := by decide +kernel
theorem dX1_tell_92 : decode cX1_tell 92 = .ok (.getfield 12, 3) := by decide +kernel
theorem dX1_tell_95 : decode cX1_tell 95 = .ok (.getfield 70, 3) := by decide +kernel
theorem dX1_tell_98 : decode cX1_tell 98 = .ok (.aload_n 0, 1) := by decide +kernel
theorem dX1_tell_99 : decode cX1_tell 99 = .ok (.getfield 12, 3) := by decide +kernel
theorem dX1_tell_102 : decode cX1_tell 102 = .ok (.getfield 101, 3) := by decide +kernel
theorem dX1_tell_105 : decode cX1_tell 105 = .ok (.invokevirtual 166, 3) := by decide +kernel
theorem dX1_tell_108 : decode cX1_tell 108 = .ok (.aload_n 0, 1) := by decide +kernel
theorem dX1_tell_109 : decode cX1_tell 109 = .ok (.getfield 12, 3) := by decide +kernel
theorem dX1_tell_112 : decode cX1_tell 112 = .ok (.getfield 111, 3) := by decide +kernel
theorem dX1_tell_115 : decode cX1_tell 115 = .ok (.bipush 60, 2) := by decide +kernel
theorem dX1_tell_117 : decode cX1_tell 117 = .ok (.if_icmp .ne 19, 3) := by decide +kernel
theorem dX1_tell_120 : decode cX1_tell 120 = .ok (.aload_n 0, 1) := by decide +kernel
theorem dX1_tell_121 : decode cX1_tell 121 = .ok (.iconst 4, 1) := by decide +kernel
theorem dX1_tell_122 : decode cX1_tell 122 = .ok (.aload_n 0, 1) := by decide +kernel
theorem dX1_tell_123 : decode cX1_tell 123 = .ok (.getfield 12, 3) := by decide +kernel
theorem dX1_tell_126 : decode cX1_tell 126 = .ok (.getfield 73, 3) := by decide +kernel
theorem dX1_tell_129 : decode cX1_tell 129 = .ok (.iconst (-1), 1) := by decide +kernel
theorem dX1_tell_130 : decode cX1_tell 130 = .ok (.invokevirtual 166, 3) := by decide +kernel
theorem dX1_tell_133 : decode cX1_tell 133 = .ok (.goto 55, 3) := by decide +kernel
theorem dX1_tell_136 : decode cX1_tell 136 = .ok (.aload_n 0, 1) := by decide +kernel
theorem dX1_tell_137 : decode cX1_tell 137 = .ok (.getfield 12, 3) := by decide +kernel
theorem dX1_tell_140 : decode cX1_tell 140 = .ok (.getfield 111, 3) := by decide +kernel
theorem dX1_tell_143 : decode cX1_tell 143 = .ok (.bipush (-2), 2) := by decide +kernel
theorem dX1_tell_145 : decode cX1_tell 145 = .ok (.if_icmp .eq 43, 3) := by decide +kernel
theorem dX1_tell_148 : decode cX1_tell 148 = .ok (.aload_n 0, 1) := by decide +kernel
theorem dX1_tell_149 : decode cX1_tell 149 = .ok (.iconst 3, 1) := by decide +kernel
theorem dX1_tell_150 : decode cX1_tell 150 = .ok (.aload_n 0, 1) := by decide +kernel
theorem dX1_tell_151 : decode cX1_tell 151 = .ok (.getfield 12, 3) := by decide +kernel
theorem dX1_tell_154 : decode cX1_tell 154 = .ok (.getfield 73, 3) := by decide +kernel
theorem dX1_tell_157 : decode cX1_tell 157 = .ok (.iconst (-1), 1) := by decide +kernel
theorem dX1_tell_158 : decode cX1_tell 158 = .ok (.if_icmp .ne 13, 3) := by decide +kernel
theorem dX1_tell_161 : decode cX1_tell 161 = .ok (.aload_n 0, 1) := by decide +kernel
theorem dX1_tell_162 : decode cX1_tell 162 = .ok (.getfield 12, 3) := by decide +kernel
theorem dX1_tell_165 : decode cX1_tell 165 = .ok (.getfield 111, 3) := by decide +kernel
theorem dX1_tell_168 : decode cX1_tell 168 = .ok (.goto 10, 3) := by decide +kernel
theorem dX1_tell_171 : decode cX1_tell 171 = .ok (.aload_n 0, 1) := by decide +kernel
theorem dX1_tell_172 : decode cX1_tell 172 = .ok (.getfield 12, 3) := by decide +kernel
theorem dX1_tell_175 : decode cX1_tell 175 = .ok (.getfield 73, 3) := by decide +kernel
theorem dX1_tell_178 : decode cX1_tell 178 = .ok (.aload_n 0, 1) := by decide +kernel
theorem dX1_tell_179 : decode cX1_tell 179 = .ok (.getfield 12, 3) := by decide +kernel
theorem dX1_tell_182 : decode cX1_tell 182 = .ok (.getfield 111, 3) := by decide +kernel
theorem dX1_tell_185 : decode cX1_tell 185 = .ok (.invokevirtual 166, 3) := by decide +kernel
theorem dX1_tell_188 : decode cX1_tell 188 = .ok (.aload_n 0, 1) := by decide +kernel
theorem dX1_tell_189 : decode cX1_tell 189 = .ok (.getfield 12, 3) := by decide +kernel
theorem dX1_tell_192 : decode cX1_tell 192 = .ok (.getfield 114, 3) := by decide +kernel
theorem dX1_tell_195 : decode cX1_tell 195 = .ok (.iconst (-1), 1) := by decide +kernel
theorem dX1_tell_196 : decode cX1_tell 196 = .ok (.if_icmp .eq 16, 3) := by decide +kernel
theorem dX1_tell_199 : decode cX1_tell 199 = .ok (.aload_n 0, 1) := by decide +kernel
theorem dX1_tell_200 : decode cX1_tell 200 = .ok (.iconst 5, 1) := by decide +kernel
theorem dX1_tell_201 : decode cX1_tell 201 = .ok (.aload_n 0, 1) := by decide +kernel
theorem dX1_tell_202 : decode cX1_tell 202 = .ok (.getfield 12, 3) := by decide +kernel
theorem dX1_tell_205 : decode cX1_tell 205 = .ok (.getfield 114, 3) := by decide +kernel
theorem dX1_tell_208 : decode cX1_tell 208 = .ok (.iconst (-1), 1) := by decide +kernel
theorem dX1_tell_209 : decode cX1_tell 209 = .ok (.invokevirtual 166, 3) := by decide +kernel
theorem dX1_tell_212 : decode cX1_tell 212 = .ok (.aload_n 0, 1) := by decide +kernel
theorem dX1_tell_213 : decode cX1_tell 213 = .ok (.getfield 12, 3) := by decide +kernel
theorem dX1_tell_216 : decode cX1_tell 216 = .ok (.getfield 117, 3) := by decide +kernel
theorem dX1_tell_219 : decode cX1_tell 219 = .ok (.iconst (-1), 1) := by decide +kernel
theorem dX1_tell_220 : decode cX1_tell 220 = .ok (.if_icmp .eq 16, 3) := by decide +kernel
theorem dX1_tell_223 : decode cX1_tell 223 = .ok (.aload_n 0, 1) := by decide +kernel
theorem dX1_tell_224 : decode cX1_tell 224 = .ok (.iconst 5, 1) := by decide +kernel
theorem dX1_tell_225 : decode cX1_tell 225 = .ok (.aload_n 0, 1) := by decide +kernel
theorem dX1_tell_226 : decode cX1_tell 226 = .ok (.getfield 12, 3) := by decide +kernel
theorem dX1_tell_229 : decode cX1_tell 229 = .ok (.getfield 117, 3) := by decide +kernel
theorem dX1_tell_232 : decode cX1_tell 232 = .ok (.iconst (-1), 1) := by decide +kernel
theorem dX1_tell_233 : decode cX1_tell 233 = .ok (.invokevirtual 166, 3) := by decide +kernel
theorem dX1_tell_236 : decode cX1_tell 236 = .ok (.return_, 1) := by decide +kernel
theorem dX1_addChange_0 : decode cX1_addChange 0 = .ok (.aload_n 0, 1) := by decide +kernel
theorem dX1_addChange_1 : decode cX1_addChange 1 = .ok (.getfield 46, 3) := by decide +kernel
theorem dX1_addChange_4 : decode cX1_addChange 4 = .ok (.iconst 2, 1) := by decide +kernel
theorem dX1_addChange_5 : decode cX1_addChange 5 = .ok (.if_icmp .ge 43, 3) := by decide +kernel
theorem dX1_addChange_8 : decode cX1_addChange 8 = .ok (.aload_n 0, 1) := by decide +kernel
theorem dX1_addChange_9 : decode cX1_addChange 9 = .ok (.getfield 36, 3) := by decide +kernel
theorem dX1_addChange_12 : decode cX1_addChange 12 = .ok (.aload_n 0, 1) := by decide +kernel
theorem dX1_addChange_13 : decode cX1_addChange 13 = .ok (.getfield 46, 3) := by decide +kernel
theorem dX1_addChange_16 : decode cX1_addChange 16 = .ok (.iload_n 1, 1) := by decide +kernel
theorem dX1_addChange_17 : decode cX1_addChange 17 = .ok (.iastore, 1) := by decide +kernel
theorem dX1_addChange_18 : decode cX1_addChange 18 = .ok (.aload_n 0, 1) := by decide +kernel
theorem dX1_addChange_19 : decode cX1_addChange 19 = .ok (.getfield 40, 3) := by decide +kernel
theorem dX1_addChange_22 : decode cX1_addChange 22 = .ok (.aload_n 0, 1) := by decide +kernel
theorem dX1_addChange_23 : decode cX1_addChange 23 = .ok (.getfield 46, 3) := by decide +kernel
theorem dX1_addChange_26 : decode cX1_addChange 26 = .ok (.iload_n 2, 1) := by decide +kernel
theorem dX1_addChange_27 : decode cX1_addChange 27 = .ok (.iastore, 1) := by decide +kernel
theorem dX1_addChange_28 : decode cX1_addChange 28 = .ok (.aload_n 0, 1) := by decide +kernel
theorem dX1_addChange_29 : decode cX1_addChange 29 = .ok (.getfield 43, 3) := by decide +kernel
theorem dX1_addChange_32 : decode cX1_addChange 32 = .ok (.aload_n 0, 1) := by decide +kernel
theorem dX1_addChange_33 : decode cX1_addChange 33 = .ok (.getfield 46, 3) := by decide +kernel
theorem dX1_addChange_36 : decode cX1_addChange 36 = .ok (.iload_n 3, 1) := by decide +kernel
theorem dX1_addChange_37 : decode cX1_addChange 37 = .ok (.iastore, 1) := by decide +kernel
theorem dX1_addChange_38 : decode cX1_addChange 38 = .ok (.aload_n 0, 1) := by decide +kernel
theorem dX1_addChange_39 : decode cX1_addChange 39 = .ok (.dup, 1) := by decide +kernel
theorem dX1_addChange_40 : decode cX1_addChange 40 = .ok (.getfield 46, 3) := by decide +kernel
theorem dX1_addChange_43 : decode cX1_addChange 43 = .ok (.iconst 1, 1) := by decide +kernel
theorem dX1_addChange_44 : decode cX1_addChange 44 = .ok (.iadd, 1) := by decide +kernel
theorem dX1_addChange_45 : decode cX1_addChange 45 = .ok (.putfield 46, 3) := by decide +kernel
theorem dX1_addChange_48 : decode cX1_addChange 48 = .ok (.return_, 1) := by decide +kernel
theorem dX1_missedBits_0 : decode cX1_missedBits 0 = .ok (.lconst 0, 1) := by decide +kernel
theorem dX1_missedBits_1 : decode cX1_missedBits 1 = .ok (.lstore_n 1, 1) := by decide +kernel
theorem dX1_missedBits_2 : decode cX1_missedBits 2 = .ok (.iconst 0, 1) := by decide +kernel
theorem dX1_missedBits_3 : decode cX1_missedBits 3 = .ok (.istore_n 3, 1) := by decide +kernel
theorem dX1_missedBits_4 : decode cX1_missedBits 4 = .ok (.iload_n 3, 1) := by decide +kernel
theorem dX1_missedBits_5 : decode cX1_missedBits 5 = .ok (.aload_n 0, 1) := by decide +kernel
theorem dX1_missedBits_6 : decode cX1_missedBits 6 = .ok (.getfield 46, 3) := by decide +kernel
theorem dX1_missedBits_9 : decode cX1_missedBits 9 = .ok (.if_icmp .ge 34, 3) := by decide +kernel
theorem dX1_missedBits_12 : decode cX1_missedBits 12 = .ok (.lload_n 1, 1) := by decide +kernel
theorem dX1_missedBits_13 : decode cX1_missedBits 13 = .ok (.aload_n 0, 1) := by decide +kernel
theorem dX1_missedBits_14 : decode cX1_missedBits 14 = .ok (.getfield 40, 3) := by decide +kernel
theorem dX1_missedBits_17 : decode cX1_missedBits 17 = .ok (.iload_n 3, 1) := by decide +kernel
theorem dX1_missedBits_18 : decode cX1_missedBits 18 = .ok (.iaload, 1) := by decide +kernel
theorem dX1_missedBits_19 : decode cX1_missedBits 19 = .ok (.iconst (-1), 1) := by decide +kernel
theorem dX1_missedBits_20 : decode cX1_missedBits 20 = .ok (.if_icmp .ne 7, 3) := by decide +kernel
theorem dX1_missedBits_23 : decode cX1_missedBits 23 = .ok (.lconst 0, 1) := by decide +kernel
theorem dX1_missedBits_24 : decode cX1_missedBits 24 = .ok (.goto 11, 3) := by decide +kernel
theorem dX1_missedBits_27 : decode cX1_missedBits 27 = .ok (.lconst 1, 1) := by decide +kernel
theorem dX1_missedBits_28 : decode cX1_missedBits 28 = .ok (.aload_n 0, 1) := by decide +kernel
theorem dX1_missedBits_29 : decode cX1_missedBits 29 = .ok (.getfield 40, 3) := by decide +kernel
theorem dX1_missedBits_32 : decode cX1_missedBits 32 = .ok (.iload_n 3, 1) := by decide +kernel
theorem dX1_missedBits_33 : decode cX1_missedBits 33 = .ok (.iaload, 1) := by decide +kernel
theorem dX1_missedBits_34 : decode cX1_missedBits 34 = .ok (.lshl, 1) := by decide +kernel
theorem dX1_missedBits_35 : decode cX1_missedBits 35 = .ok (.lor, 1) := by decide +kernel
theorem dX1_missedBits_36 : decode cX1_missedBits 36 = .ok (.lstore_n 1, 1) := by decide +kernel
theorem dX1_missedBits_37 : decode cX1_missedBits 37 = .ok (.iinc 3 1, 3) := by decide +kernel
theorem dX1_missedBits_40 : decode cX1_missedBits 40 = .ok (.goto (-36), 3) := by decide +kernel
theorem dX1_missedBits_43 : decode cX1_missedBits 43 = .ok (.lload_n 1, 1) := by decide +kernel
theorem dX1_missedBits_44 : decode cX1_missedBits 44 = .ok (.lreturn, 1) := by decide +kernel
theorem dX2_clear_0 : decode cX2_clear 0 = .ok (.aload_n 0, 1) := by decide +kernel
theorem dX2_clear_1 : decode cX2_clear 1 = .ok (.getfield 14, 3) := by decide +kernel
theorem dX2_clear_4 : decode cX2_clear 4 = .ok (.invokevirtual 24, 3) := by decide +kernel
theorem dX2_clear_7 : decode cX2_clear 7 = .ok (.aload_n 0, 1) := by decide +kernel
theorem dX2_clear_8 : decode cX2_clear 8 = .ok (.iconst 0, 1) := by decide +kernel
theorem dX2_clear_9 : decode cX2_clear 9 = .ok (.putfield 27, 3) := by decide +kernel
theorem dX2_clear_12 : decode cX2_clear 12 = .ok (.return_, 1) := by decide +kernel
theorem dX2_lineAt_0 : decode cX2_lineAt 0 = .ok (.iload_n 1, 1) := by decide +kernel
theorem dX2_lineAt_1 : decode cX2_lineAt 1 = .ok (.ifCond .lt 20, 3) := by decide +kernel
theorem dX2_lineAt_4 : decode cX2_lineAt 4 = .ok (.iload_n 1, 1) := by decide +kernel
theorem dX2_lineAt_5 : decode cX2_lineAt 5 = .ok (.aload_n 0, 1) := by decide +kernel
theorem dX2_lineAt_6 : decode cX2_lineAt 6 = .ok (.getfield 27, 3) := by decide +kernel
theorem dX2_lineAt_9 : decode cX2_lineAt 9 = .ok (.if_icmp .ge 12, 3) := by decide +kernel
theorem dX2_lineAt_12 : decode cX2_lineAt 12 = .ok (.aload_n 0, 1) := by decide +kernel
theorem dX2_lineAt_13 : decode cX2_lineAt 13 = .ok (.getfield 20, 3) := by decide +kernel
theorem dX2_lineAt_16 : decode cX2_lineAt 16 = .ok (.iload_n 1, 1) := by decide +kernel
theorem dX2_lineAt_17 : decode cX2_lineAt 17 = .ok (.iaload, 1) := by decide +kernel
theorem dX2_lineAt_18 : decode cX2_lineAt 18 = .ok (.goto 4, 3) := by decide +kernel
theorem dX2_lineAt_21 : decode cX2_lineAt 21 = .ok (.iconst (-1), 1) := by decide +kernel
theorem dX2_lineAt_22 : decode cX2_lineAt 22 = .ok (.ireturn, 1) := by decide +kernel
theorem dX2_addLine_0 : decode cX2_addLine 0 = .ok (.aload_n 0, 1) := by decide +kernel
theorem dX2_addLine_1 : decode cX2_addLine 1 = .ok (.getfield 27, 3) := by decide +kernel
theorem dX2_addLine_4 : decode cX2_addLine 4 = .ok (.aload_n 0, 1) := by decide +kernel
theorem dX2_addLine_5 : decode cX2_addLine 5 = .ok (.getfield 20, 3) := by decide +kernel
theorem dX2_addLine_8 : decode cX2_addLine 8 = .ok (.arraylength, 1) := by decide +kernel
theorem dX2_addLine_9 : decode cX2_addLine 9 = .ok (.if_icmp .ge 23, 3) := by decide +kernel
theorem dX2_addLine_12 : decode cX2_addLine 12 = .ok (.aload_n 0, 1) := by decide +kernel
theorem dX2_addLine_13 : decode cX2_addLine 13 = .ok (.getfield 20, 3) := by decide +kernel
theorem dX2_addLine_16 : decode cX2_addLine 16 = .ok (.aload_n 0, 1) := by decide +kernel
theorem dX2_addLine_17 : decode cX2_addLine 17 = .ok (.getfield 27, 3) := by decide +kernel
theorem dX2_addLine_20 : decode cX2_addLine 20 = .ok (.iload_n 1, 1) := by decide +kernel
theorem dX2_addLine_21 : decode cX2_addLine 21 = .ok (.iastore, 1) := by decide +kernel
theorem dX2_addLine_22 : decode cX2_addLine 22 = .ok (.aload_n 0, 1) := by decide +kernel
theorem dX2_addLine_23 : decode cX2_addLine 23 = .ok (.dup, 1) := by decide +kernel
theorem dX2_addLine_24 : decode cX2_addLine 24 = .ok (.getfield 27, 3) := by decide +kernel
theorem dX2_addLine_27 : decode cX2_addLine 27 = .ok (.iconst 1, 1) := by decide +kernel
theorem dX2_addLine_28 : decode cX2_addLine 28 = .ok (.iadd, 1) := by decide +kernel
theorem dX2_addLine_29 : decode cX2_addLine 29 = .ok (.putfield 27, 3) := by decide +kernel
theorem dX2_addLine_32 : decode cX2_addLine 32 = .ok (.return_, 1) := by decide +kernel
theorem dX2_addBits_0 : decode cX2_addBits 0 = .ok (.iconst 0, 1) := by decide +kernel
theorem dX2_addBits_1 : decode cX2_addBits 1 = .ok (.istore_n 3, 1) := by decide +kernel
theorem dX2_addBits_2 : decode cX2_addBits 2 = .ok (.iload_n 3, 1) := by decide +kernel
theorem dX2_addBits_3 : decode cX2_addBits 3 = .ok (.bipush 60, 2) := by decide +kernel
theorem dX2_addBits_5 : decode cX2_addBits 5 = .ok (.if_icmp .ge 24, 3) := by decide +kernel
theorem dX2_addBits_8 : decode cX2_addBits 8 = .ok (.lload_n 1, 1) := by decide +kernel
theorem dX2_addBits_9 : decode cX2_addBits 9 = .ok (.iload_n 3, 1) := by decide +kernel
theorem dX2_addBits_10 : decode cX2_addBits 10 = .ok (.lushr, 1) := by decide +kernel
theorem dX2_addBits_11 : decode cX2_addBits 11 = .ok (.lconst 1, 1) := by decide +kernel
theorem dX2_addBits_12 : decode cX2_addBits 12 = .ok (.land, 1) := by decide +kernel
theorem dX2_addBits_13 : decode cX2_addBits 13 = .ok (.lconst 0, 1) := by decide +kernel
theorem dX2_addBits_14 : decode cX2_addBits 14 = .ok (.lcmp, 1) := by decide +kernel
theorem dX2_addBits_15 : decode cX2_addBits 15 = .ok (.ifCond .eq 8, 3) := by decide +kernel
theorem dX2_addBits_18 : decode cX2_addBits 18 = .ok (.aload_n 0, 1) := by decide +kernel
theorem dX2_addBits_19 : decode cX2_addBits 19 = .ok (.iload_n 3, 1) := by decide +kernel
theorem dX2_addBits_20 : decode cX2_addBits 20 = .ok (.invokevirtual 31, 3) := by decide +kernel
theorem dX2_addBits_23 : decode cX2_addBits 23 = .ok (.iinc 3 1, 3) := by decide +kernel
theorem dX2_addBits_26 : decode cX2_addBits 26 = .ok (.goto (-24), 3) := by decide +kernel
theorem dX2_addBits_29 : decode cX2_addBits 29 = .ok (.return_, 1) := by decide +kernel
theorem dX2_addRow_0 : decode cX2_addRow 0 = .ok (.iconst 0, 1) := by decide +kernel
theorem dX2_addRow_1 : decode cX2_addRow 1 = .ok (.istore_n 2, 1) := by decide +kernel
theorem dX2_addRow_2 : decode cX2_addRow 2 = .ok (.iload_n 2, 1) := by decide +kernel
theorem dX2_addRow_3 : decode cX2_addRow 3 = .ok (.aload_n 1, 1) := by decide +kernel
theorem dX2_addRow_4 : decode cX2_addRow 4 = .ok (.getfield 27, 3) := by decide +kernel
theorem dX2_addRow_7 : decode cX2_addRow 7 = .ok (.if_icmp .ge 19, 3) := by decide +kernel
theorem dX2_addRow_10 : decode cX2_addRow 10 = .ok (.aload_n 0, 1) := by decide +kernel
theorem dX2_addRow_11 : decode cX2_addRow 11 = .ok (.aload_n 1, 1) := by decide +kernel
theorem dX2_addRow_12 : decode cX2_addRow 12 = .ok (.getfield 20, 3) := by decide +kernel
theorem dX2_addRow_15 : decode cX2_addRow 15 = .ok (.iload_n 2, 1) := by decide +kernel
theorem dX2_addRow_16 : decode cX2_addRow 16 = .ok (.iaload, 1) := by decide +kernel
theorem dX2_addRow_17 : decode cX2_addRow 17 = .ok (.invokevirtual 31, 3) := by decide +kernel
theorem dX2_addRow_20 : decode cX2_addRow 20 = .ok (.iinc 2 1, 3) := by decide +kernel
theorem dX2_addRow_23 : decode cX2_addRow 23 = .ok (.goto (-21), 3) := by decide +kernel
theorem dX2_addRow_26 : decode cX2_addRow 26 = .ok (.return_, 1) := by decide +kernel
theorem dX2_lineBits_0 : decode cX2_lineBits 0 = .ok (.lconst 0, 1) := by decide +kernel
theorem dX2_lineBits_1 : decode cX2_lineBits 1 = .ok (.lstore_n 1, 1) := by decide +kernel
theorem dX2_lineBits_2 : decode cX2_lineBits 2 = .ok (.iconst 0, 1) := by decide +kernel
theorem dX2_lineBits_3 : decode cX2_lineBits 3 = .ok (.istore_n 3, 1) := by decide +kernel
theorem dX2_lineBits_4 : decode cX2_lineBits 4 = .ok (.iload_n 3, 1) := by decide +kernel
theorem dX2_lineBits_5 : decode cX2_lineBits 5 = .ok (.aload_n 0, 1) := by decide +kernel
theorem dX2_lineBits_6 : decode cX2_lineBits 6 = .ok (.getfield 27, 3) := by decide +kernel
theorem dX2_lineBits_9 : decode cX2_lineBits 9 = .ok (.if_icmp .ge 20, 3) := by decide +kernel
theorem dX2_lineBits_12 : decode cX2_lineBits 12 = .ok (.lload_n 1, 1) := by decide +kernel
theorem dX2_lineBits_13 : decode cX2_lineBits 13 = .ok (.lconst 1, 1) := by decide +kernel
theorem dX2_lineBits_14 : decode cX2_lineBits 14 = .ok (.aload_n 0, 1) := by decide +kernel
theorem dX2_lineBits_15 : decode cX2_lineBits 15 = .ok (.getfield 20, 3) := by decide +kernel
theorem dX2_lineBits_18 : decode cX2_lineBits 18 = .ok (.iload_n 3, 1) := by decide +kernel
theorem dX2_lineBits_19 : decode cX2_lineBits 19 = .ok (.iaload, 1) := by decide +kernel
theorem dX2_lineBits_20 : decode cX2_lineBits 20 = .ok (.lshl, 1) := by decide +kernel
theorem dX2_lineBits_21 : decode cX2_lineBits 21 = .ok (.lor, 1) := by decide +kernel
theorem dX2_lineBits_22 : decode cX2_lineBits 22 = .ok (.lstore_n 1, 1) := by decide +kernel
theorem dX2_lineBits_23 : decode cX2_lineBits 23 = .ok (.iinc 3 1, 3) := by decide +kernel
theorem dX2_lineBits_26 : decode cX2_lineBits 26 = .ok (.goto (-22), 3) := by decide +kernel
theorem dX2_lineBits_29 : decode cX2_lineBits 29 = .ok (.lload_n 1, 1) := by decide +kernel
theorem dX2_lineBits_30 : decode cX2_lineBits 30 = .ok (.lreturn, 1) := by decide +kernel
theorem dX3_clear_0 : decode cX3_clear 0 = .ok (.aload_n 0, 1) := by decide +kernel
theorem dX3_clear_1 : decode cX3_clear 1 = .ok (.iconst 0, 1) := by decide +kernel
theorem dX3_clear_2 : decode cX3_clear 2 = .ok (.putfield 24, 3) := by decide +kernel
theorem dX3_clear_5 : decode cX3_clear 5 = .ok (.return_, 1) := by decide +kernel
theorem dX3_get_0 : decode cX3_get 0 = .ok (.iload_n 1, 1) := by decide +kernel
theorem dX3_get_1 : decode cX3_get 1 = .ok (.ifCond .lt 20, 3) := by decide +kernel
theorem dX3_get_4 : decode cX3_get 4 = .ok (.iload_n 1, 1) := by decide +kernel
theorem dX3_get_5 : decode cX3_get 5 = .ok (.aload_n 0, 1) := by decide +kernel
theorem dX3_get_6 : decode cX3_get 6 = .ok (.getfield 24, 3) := by decide +kernel
theorem dX3_get_9 : decode cX3_get 9 = .ok (.if_icmp .ge 12, 3) := by decide +kernel
theorem dX3_get_12 : decode cX3_get 12 = .ok (.aload_n 0, 1) := by decide +kernel
theorem dX3_get_13 : decode cX3_get 13 = .ok (.getfield 17, 3) := by decide +kernel
theorem dX3_get_16 : decode cX3_get 16 = .ok (.iload_n 1, 1) := by decide +kernel
theorem dX3_get_17 : decode cX3_get 17 = .ok (.aaload, 1) := by decide +kernel
theorem dX3_get_18 : decode cX3_get 18 = .ok (.goto 4, 3) := by decide +kernel
theorem dX3_get_21 : decode cX3_get 21 = .ok (.aconst_null, 1) := by decide +kernel
theorem dX3_get_22 : decode cX3_get 22 = .ok (.areturn, 1) := by decide +kernel
theorem dX3_open_0 : decode cX3_open 0 = .ok (.aload_n 0, 1) := by decide +kernel
theorem dX3_open_1 : decode cX3_open 1 = .ok (.getfield 24, 3) := by decide +kernel
theorem dX3_open_4 : decode cX3_open 4 = .ok (.aload_n 0, 1) := by decide +kernel
theorem dX3_open_5 : decode cX3_open 5 = .ok (.getfield 17, 3) := by decide +kernel
theorem dX3_open_8 : decode cX3_open 8 = .ok (.arraylength, 1) := by decide +kernel
theorem dX3_open_9 : decode cX3_open 9 = .ok (.if_icmp .lt 5, 3) := by decide +kernel
theorem dX3_open_12 : decode cX3_open 12 = .ok (.aconst_null, 1) := by decide +kernel
theorem dX3_open_13 : decode cX3_open 13 = .ok (.areturn, 1) := by decide +kernel
theorem dX3_open_14 : decode cX3_open 14 = .ok (.aload_n 0, 1) := by decide +kernel
theorem dX3_open_15 : decode cX3_open 15 = .ok (.getfield 17, 3) := by decide +kernel
theorem dX3_open_18 : decode cX3_open 18 = .ok (.aload_n 0, 1) := by decide +kernel
theorem dX3_open_19 : decode cX3_open 19 = .ok (.getfield 24, 3) := by decide +kernel
theorem dX3_open_22 : decode cX3_open 22 = .ok (.aaload, 1) := by decide +kernel
theorem dX3_open_23 : decode cX3_open 23 = .ok (.invokevirtual 28, 3) := by decide +kernel
theorem dX3_open_26 : decode cX3_open 26 = .ok (.aload_n 0, 1) := by decide +kernel
theorem dX3_open_27 : decode cX3_open 27 = .ok (.getfield 17, 3) := by decide +kernel
theorem dX3_open_30 : decode cX3_open 30 = .ok (.aload_n 0, 1) := by decide +kernel
theorem dX3_open_31 : decode cX3_open 31 = .ok (.getfield 24, 3) := by decide +kernel
theorem dX3_open_34 : decode cX3_open 34 = .ok (.aaload, 1) := by decide +kernel
theorem dX3_open_35 : decode cX3_open 35 = .ok (.areturn, 1) := by decide +kernel
theorem dX3_keep_0 : decode cX3_keep 0 = .ok (.aload_n 0, 1) := by decide +kernel
theorem dX3_keep_1 : decode cX3_keep 1 = .ok (.getfield 24, 3) := by decide +kernel
theorem dX3_keep_4 : decode cX3_keep 4 = .ok (.aload_n 0, 1) := by decide +kernel
theorem dX3_keep_5 : decode cX3_keep 5 = .ok (.getfield 17, 3) := by decide +kernel
theorem dX3_keep_8 : decode cX3_keep 8 = .ok (.arraylength, 1) := by decide +kernel
theorem dX3_keep_9 : decode cX3_keep 9 = .ok (.if_icmp .ge 13, 3) := by decide +kernel
theorem dX3_keep_12 : decode cX3_keep 12 = .ok (.aload_n 0, 1) := by decide +kernel
theorem dX3_keep_13 : decode cX3_keep 13 = .ok (.dup, 1) := by decide +kernel
theorem dX3_keep_14 : decode cX3_keep 14 = .ok (.getfield 24, 3) := by decide +kernel
theorem dX3_keep_17 : decode cX3_keep 17 = .ok (.iconst 1, 1) := by decide +kernel
theorem dX3_keep_18 : decode cX3_keep 18 = .ok (.iadd, 1) := by decide +kernel
theorem dX3_keep_19 : decode cX3_keep 19 = .ok (.putfield 24, 3) := by decide +kernel
theorem dX3_keep_22 : decode cX3_keep 22 = .ok (.return_, 1) := by decide +kernel
theorem dX3_find_0 : decode cX3_find 0 = .ok (.iconst 0, 1) := by decide +kernel
theorem dX3_find_1 : decode cX3_find 1 = .ok (.istore_n 2, 1) := by decide +kernel
theorem dX3_find_2 : decode cX3_find 2 = .ok (.iload_n 2, 1) := by decide +kernel
theorem dX3_find_3 : decode cX3_find 3 = .ok (.aload_n 0, 1) := by decide +kernel
theorem dX3_find_4 : decode cX3_find 4 = .ok (.getfield 24, 3) := by decide +kernel
theorem dX3_find_7 : decode cX3_find 7 = .ok (.if_icmp .ge 27, 3) := by decide +kernel
theorem dX3_find_10 : decode cX3_find 10 = .ok (.aload_n 0, 1) := by decide +kernel
theorem dX3_find_11 : decode cX3_find 11 = .ok (.getfield 17, 3) := by decide +kernel
theorem dX3_find_14 : decode cX3_find 14 = .ok (.iload_n 2, 1) := by decide +kernel
theorem dX3_find_15 : decode cX3_find 15 = .ok (.aaload, 1) := by decide +kernel
theorem dX3_find_16 : decode cX3_find 16 = .ok (.getfield 31, 3) := by decide +kernel
theorem dX3_find_19 : decode cX3_find 19 = .ok (.aload_n 1, 1) := by decide +kernel
theorem dX3_find_20 : decode cX3_find 20 = .ok (.invokevirtual 35, 3) := by decide +kernel
theorem dX3_find_23 : decode cX3_find 23 = .ok (.ifCond .eq 5, 3) := by decide +kernel
theorem dX3_find_26 : decode cX3_find 26 = .ok (.iload_n 2, 1) := by decide +kernel
theorem dX3_find_27 : decode cX3_find 27 = .ok (.ireturn, 1) := by decide +kernel
theorem dX3_find_28 : decode cX3_find 28 = .ok (.iinc 2 1, 3) := by decide +kernel
theorem dX3_find_31 : decode cX3_find 31 = .ok (.goto (-29), 3) := by decide +kernel
theorem dX3_find_34 : decode cX3_find 34 = .ok (.iconst (-1), 1) := by decide +kernel
theorem dX3_find_35 : decode cX3_find 35 = .ok (.ireturn, 1) := by decide +kernel
theorem dX4_notePlace_0 : decode cX4_notePlace 0 = .ok (.aload_n 0, 1) := by decide +kernel
theorem dX4_notePlace_1 : decode cX4_notePlace 1 = .ok (.getfield 15, 3) := by decide +kernel
theorem dX4_notePlace_4 : decode cX4_notePlace 4 = .ok (.iconst 2, 1) := by decide +kernel
theorem dX4_notePlace_5 : decode cX4_notePlace 5 = .ok (.aload_n 0, 1) := by decide +kernel
theorem dX4_notePlace_6 : decode cX4_notePlace 6 = .ok (.getfield 15, 3) := by decide +kernel
theorem dX4_notePlace_9 : decode cX4_notePlace 9 = .ok (.iconst 1, 1) := by decide +kernel
theorem dX4_notePlace_10 : decode cX4_notePlace 10 = .ok (.iaload, 1) := by decide +kernel
theorem dX4_notePlace_11 : decode cX4_notePlace 11 = .ok (.iastore, 1) := by decide +kernel
theorem dX4_notePlace_12 : decode cX4_notePlace 12 = .ok (.aload_n 0, 1) := by decide +kernel
theorem dX4_notePlace_13 : decode cX4_notePlace 13 = .ok (.getfield 15, 3) := by decide +kernel
theorem dX4_notePlace_16 : decode cX4_notePlace 16 = .ok (.iconst 1, 1) := by decide +kernel
theorem dX4_notePlace_17 : decode cX4_notePlace 17 = .ok (.aload_n 0, 1) := by decide +kernel
theorem dX4_notePlace_18 : decode cX4_notePlace 18 = .ok (.getfield 15, 3) := by decide +kernel
theorem dX4_notePlace_21 : decode cX4_notePlace 21 = .ok (.iconst 0, 1) := by decide +kernel
theorem dX4_notePlace_22 : decode cX4_notePlace 22 = .ok (.iaload, 1) := by decide +kernel
theorem dX4_notePlace_23 : decode cX4_notePlace 23 = .ok (.iastore, 1) := by decide +kernel
theorem dX4_notePlace_24 : decode cX4_notePlace 24 = .ok (.aload_n 0, 1) := by decide +kernel
theorem dX4_notePlace_25 : decode cX4_notePlace 25 = .ok (.getfield 15, 3) := by decide +kernel
theorem dX4_notePlace_28 : decode cX4_notePlace 28 = .ok (.iconst 0, 1) := by decide +kernel
theorem dX4_notePlace_29 : decode cX4_notePlace 29 = .ok (.iload_n 1, 1) := by decide +kernel
theorem dX4_notePlace_30 : decode cX4_notePlace 30 = .ok (.iastore, 1) := by decide +kernel
theorem dX4_notePlace_31 : decode cX4_notePlace 31 = .ok (.return_, 1) := by decide +kernel
theorem dX4_hasJustAnswered_0 : decode cX4_hasJustAnswered 0 = .ok (.aload_n 0, 1) := by decide +kernel
theorem dX4_hasJustAnswered_1 : decode cX4_hasJustAnswered 1 = .ok (.getfield 15, 3) := by decide +kernel
theorem dX4_hasJustAnswered_4 : decode cX4_hasJustAnswered 4 = .ok (.iconst 0, 1) := by decide +kernel
theorem dX4_hasJustAnswered_5 : decode cX4_hasJustAnswered 5 = .ok (.iaload, 1) := by decide +kernel
theorem dX4_hasJustAnswered_6 : decode cX4_hasJustAnswered 6 = .ok (.iload_n 1, 1) := by decide +kernel
theorem dX4_hasJustAnswered_7 : decode cX4_hasJustAnswered 7 = .ok (.if_icmp .eq 23, 3) := by decide +kernel
theorem dX4_hasJustAnswered_10 : decode cX4_hasJustAnswered 10 = .ok (.aload_n 0, 1) := by decide +kernel
theorem dX4_hasJustAnswered_11 : decode cX4_hasJustAnswered 11 = .ok (.getfield 15, 3) := by decide +kernel
theorem dX4_hasJustAnswered_14 : decode cX4_hasJustAnswered 14 = .ok (.iconst 1, 1) := by decide +kernel
theorem dX4_hasJustAnswered_15 : decode cX4_hasJustAnswered 15 = .ok (.iaload, 1) := by decide +kernel
theorem dX4_hasJustAnswered_16 : decode cX4_hasJustAnswered 16 = .ok (.iload_n 1, 1) := by decide +kernel
theorem dX4_hasJustAnswered_17 : decode cX4_hasJustAnswered 17 = .ok (.if_icmp .eq 13, 3) := by decide +kernel
theorem dX4_hasJustAnswered_20 : decode cX4_hasJustAnswered 20 = .ok (.aload_n 0, 1) := by decide +kernel
theorem dX4_hasJustAnswered_21 : decode cX4_hasJustAnswered 21 = .ok (.getfield 15, 3) := by decide +kernel
theorem dX4_hasJustAnswered_24 : decode cX4_hasJustAnswered 24 = .ok (.iconst 2, 1) := by decide +kernel
theorem dX4_hasJustAnswered_25 : decode cX4_hasJustAnswered 25 = .ok (.iaload, 1) := by decide +kernel
theorem dX4_hasJustAnswered_26 : decode cX4_hasJustAnswered 26 = .ok (.iload_n 1, 1) := by decide +kernel
theorem dX4_hasJustAnswered_27 : decode cX4_hasJustAnswered 27 = .ok (.if_icmp .ne 7, 3) := by decide +kernel
theorem dX4_hasJustAnswered_30 : decode cX4_hasJustAnswered 30 = .ok (.iconst 1, 1) := by decide +kernel
theorem dX4_hasJustAnswered_31 : decode cX4_hasJustAnswered 31 = .ok (.goto 4, 3) := by decide +kernel
theorem dX4_hasJustAnswered_34 : decode cX4_hasJustAnswered 34 = .ok (.iconst 0, 1) := by decide +kernel
theorem dX4_hasJustAnswered_35 : decode cX4_hasJustAnswered 35 = .ok (.ireturn, 1) := by decide +kernel
theorem dX4_ease_0 : decode cX4_ease 0 = .ok (.iconst 0, 1) := by decide +kernel
theorem dX4_ease_1 : decode cX4_ease 1 = .ok (.istore_n 3, 1) := by decide +kernel
theorem dX4_ease_2 : decode cX4_ease 2 = .ok (.iload_n 3, 1) := by decide +kernel
theorem dX4_ease_3 : decode cX4_ease 3 = .ok (.bipush 60, 2) := by decide +kernel
theorem dX4_ease_5 : decode cX4_ease 5 = .ok (.if_icmp .ge 38, 3) := by decide +kernel
theorem dX4_ease_8 : decode cX4_ease 8 = .ok (.lload_n 1, 1) := by decide +kernel
theorem dX4_ease_9 : decode cX4_ease 9 = .ok (.iload_n 3, 1) := by decide +kernel
theorem dX4_ease_10 : decode cX4_ease 10 = .ok (.lushr, 1) := by decide +kernel
theorem dX4_ease_11 : decode cX4_ease 11 = .ok (.lconst 1, 1) := by decide +kernel
theorem dX4_ease_12 : decode cX4_ease 12 = .ok (.land, 1) := by decide +kernel
theorem dX4_ease_13 : decode cX4_ease 13 = .ok (.lconst 0, 1) := by decide +kernel
theorem dX4_ease_14 : decode cX4_ease 14 = .ok (.lcmp, 1) := by decide +kernel
theorem dX4_ease_15 : decode cX4_ease 15 = .ok (.ifCond .eq 22, 3) := by decide +kernel
theorem dX4_ease_18 : decode cX4_ease 18 = .ok (.aload_n 0, 1) := by decide +kernel
theorem dX4_ease_19 : decode cX4_ease 19 = .ok (.getfield 9, 3) := by decide +kernel
theorem dX4_ease_22 : decode cX4_ease 22 = .ok (.iload_n 3, 1) := by decide +kernel
theorem dX4_ease_23 : decode cX4_ease 23 = .ok (.iaload, 1) := by decide +kernel
theorem dX4_ease_24 : decode cX4_ease 24 = .ok (.ifCond .le 13, 3) := by decide +kernel
theorem dX4_ease_27 : decode cX4_ease 27 = .ok (.aload_n 0, 1) := by decide +kernel
theorem dX4_ease_28 : decode cX4_ease 28 = .ok (.getfield 9, 3) := by decide +kernel
theorem dX4_ease_31 : decode cX4_ease 31 = .ok (.iload_n 3, 1) := by decide +kernel
theorem dX4_ease_32 : decode cX4_ease 32 = .ok (.dup2, 1) := by decide +kernel
theorem dX4_ease_33 : decode cX4_ease 33 = .ok (.iaload, 1) := by decide +kernel
theorem dX4_ease_34 : decode cX4_ease 34 = .ok (.iconst 1, 1) := by decide +kernel
theorem dX4_ease_35 : decode cX4_ease 35 = .ok (.isub, 1) := by decide +kernel
theorem dX4_ease_36 : decode cX4_ease 36 = .ok (.iastore, 1) := by decide +kernel
theorem dX4_ease_37 : decode cX4_ease 37 = .ok (.iinc 3 1, 3) := by decide +kernel
theorem dX4_ease_40 : decode cX4_ease 40 = .ok (.goto (-38), 3) := by decide +kernel
theorem dX4_ease_43 : decode cX4_ease 43 = .ok (.return_, 1) := by decide +kernel
theorem dX4_miss_0 : decode cX4_miss 0 = .ok (.iconst 0, 1) := by decide +kernel
theorem dX4_miss_1 : decode cX4_miss 1 = .ok (.istore_n 3, 1) := by decide +kernel
theorem dX4_miss_2 : decode cX4_miss 2 = .ok (.iload_n 3, 1) := by decide +kernel
theorem dX4_miss_3 : decode cX4_miss 3 = .ok (.bipush 60, 2) := by decide +kernel
theorem dX4_miss_5 : decode cX4_miss 5 = .ok (.if_icmp .ge 40, 3) := by decide +kernel
theorem dX4_miss_8 : decode cX4_miss 8 = .ok (.lload_n 1, 1) := by decide +kernel
theorem dX4_miss_9 : decode cX4_miss 9 = .ok (.iload_n 3, 1) := by decide +kernel
theorem dX4_miss_10 : decode cX4_miss 10 = .ok (.lushr, 1) := by decide +kernel
theorem dX4_miss_11 : decode cX4_miss 11 = .ok (.lconst 1, 1) := by decide +kernel
theorem dX4_miss_12 : decode cX4_miss 12 = .ok (.land, 1) := by decide +kernel
theorem dX4_miss_13 : decode cX4_miss 13 = .ok (.lconst 0, 1) := by decide +kernel
theorem dX4_miss_14 : decode cX4_miss 14 = .ok (.lcmp, 1) := by decide +kernel
theorem dX4_miss_15 : decode cX4_miss 15 = .ok (.ifCond .eq 24, 3) := by decide +kernel
theorem dX4_miss_18 : decode cX4_miss 18 = .ok (.aload_n 0, 1) := by decide +kernel
theorem dX4_miss_19 : decode cX4_miss 19 = .ok (.getfield 9, 3) := by decide +kernel
theorem dX4_miss_22 : decode cX4_miss 22 = .ok (.iload_n 3, 1) := by decide +kernel
theorem dX4_miss_23 : decode cX4_miss 23 = .ok (.iaload, 1) := by decide +kernel
theorem dX4_miss_24 : decode cX4_miss 24 = .ok (.bipush 99, 2) := by decide +kernel
theorem dX4_miss_26 : decode cX4_miss 26 = .ok (.if_icmp .ge 13, 3) := by decide +kernel
theorem dX4_miss_29 : decode cX4_miss 29 = .ok (.aload_n 0, 1) := by decide +kernel
theorem dX4_miss_30 : decode cX4_miss 30 = .ok (.getfield 9, 3) := by decide +kernel
theorem dX4_miss_33 : decode cX4_miss 33 = .ok (.iload_n 3, 1) := by decide +kernel
theorem dX4_miss_34 : decode cX4_miss 34 = .ok (.dup2, 1) := by decide +kernel
theorem dX4_miss_35 : decode cX4_miss 35 = .ok (.iaload, 1) := by decide +kernel
theorem dX4_miss_36 : decode cX4_miss 36 = .ok (.iconst 1, 1) := by decide +kernel
theorem dX4_miss_37 : decode cX4_miss 37 = .ok (.iadd, 1) := by decide +kernel
theorem dX4_miss_38 : decode cX4_miss 38 = .ok (.iastore, 1) := by decide +kernel
theorem dX4_miss_39 : decode cX4_miss 39 = .ok (.iinc 3 1, 3) := by decide +kernel
theorem dX4_miss_42 : decode cX4_miss 42 = .ok (.goto (-40), 3) := by decide +kernel
theorem dX4_miss_45 : decode cX4_miss 45 = .ok (.return_, 1) := by decide +kernel
theorem dX4_sumOf_0 : decode cX4_sumOf 0 = .ok (.iconst 0, 1) := by decide +kernel
theorem dX4_sumOf_1 : decode cX4_sumOf 1 = .ok (.istore_n 3, 1) := by decide +kernel
theorem dX4_sumOf_2 : decode cX4_sumOf 2 = .ok (.iconst 0, 1) := by decide +kernel
theorem dX4_sumOf_3 : decode cX4_sumOf 3 = .ok (.istore 4, 2) := by decide +kernel
theorem dX4_sumOf_5 : decode cX4_sumOf 5 = .ok (.iload 4, 2) := by decide +kernel
theorem dX4_sumOf_7 : decode cX4_sumOf 7 = .ok (.bipush 60, 2) := by decide +kernel
theorem dX4_sumOf_9 : decode cX4_sumOf 9 = .ok (.if_icmp .ge 30, 3) := by decide +kernel
theorem dX4_sumOf_12 : decode cX4_sumOf 12 = .ok (.lload_n 1, 1) := by decide +kernel
theorem dX4_sumOf_13 : decode cX4_sumOf 13 = .ok (.iload 4, 2) := by decide +kernel
theorem dX4_sumOf_15 : decode cX4_sumOf 15 = .ok (.lushr, 1) := by decide +kernel
theorem dX4_sumOf_16 : decode cX4_sumOf 16 = .ok (.lconst 1, 1) := by decide +kernel
theorem dX4_sumOf_17 : decode cX4_sumOf 17 = .ok (.land, 1) := by decide +kernel
theorem dX4_sumOf_18 : decode cX4_sumOf 18 = .ok (.lconst 0, 1) := by decide +kernel
theorem dX4_sumOf_19 : decode cX4_sumOf 19 = .ok (.lcmp, 1) := by decide +kernel
theorem dX4_sumOf_20 : decode cX4_sumOf 20 = .ok (.ifCond .eq 13, 3) := by decide +kernel
theorem dX4_sumOf_23 : decode cX4_sumOf 23 = .ok (.iload_n 3, 1) := by decide +kernel
theorem dX4_sumOf_24 : decode cX4_sumOf 24 = .ok (.aload_n 0, 1) := by decide +kernel
theorem dX4_sumOf_25 : decode cX4_sumOf 25 = .ok (.getfield 9, 3) := by decide +kernel
theorem dX4_sumOf_28 : decode cX4_sumOf 28 = .ok (.iload 4, 2) := by decide +kernel
theorem dX4_sumOf_30 : decode cX4_sumOf 30 = .ok (.iaload, 1) := by decide +kernel
