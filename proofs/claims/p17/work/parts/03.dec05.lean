theorem dX4_sumOf_31 : decode cX4_sumOf 31 = .ok (.iadd, 1) := by decide +kernel
theorem dX4_sumOf_32 : decode cX4_sumOf 32 = .ok (.istore_n 3, 1) := by decide +kernel
theorem dX4_sumOf_33 : decode cX4_sumOf 33 = .ok (.iinc 4 1, 3) := by decide +kernel
theorem dX4_sumOf_36 : decode cX4_sumOf 36 = .ok (.goto (-31), 3) := by decide +kernel
theorem dX4_sumOf_39 : decode cX4_sumOf 39 = .ok (.iload_n 3, 1) := by decide +kernel
theorem dX4_sumOf_40 : decode cX4_sumOf 40 = .ok (.ireturn, 1) := by decide +kernel
theorem dX5_begin_0 : decode cX5_begin 0 = .ok (.aload_n 0, 1) := by decide +kernel
theorem dX5_begin_1 : decode cX5_begin 1 = .ok (.iload_n 1, 1) := by decide +kernel
theorem dX5_begin_2 : decode cX5_begin 2 = .ok (.putfield 23, 3) := by decide +kernel
theorem dX5_begin_5 : decode cX5_begin 5 = .ok (.aload_n 0, 1) := by decide +kernel
theorem dX5_begin_6 : decode cX5_begin 6 = .ok (.iconst (-1), 1) := by decide +kernel
theorem dX5_begin_7 : decode cX5_begin 7 = .ok (.putfield 27, 3) := by decide +kernel
theorem dX5_begin_10 : decode cX5_begin 10 = .ok (.aload_n 0, 1) := by decide +kernel
theorem dX5_begin_11 : decode cX5_begin 11 = .ok (.iconst (-1), 1) := by decide +kernel
theorem dX5_begin_12 : decode cX5_begin 12 = .ok (.putfield 30, 3) := by decide +kernel
theorem dX5_begin_15 : decode cX5_begin 15 = .ok (.aload_n 0, 1) := by decide +kernel
theorem dX5_begin_16 : decode cX5_begin 16 = .ok (.iconst (-1), 1) := by decide +kernel
theorem dX5_begin_17 : decode cX5_begin 17 = .ok (.putfield 33, 3) := by decide +kernel
theorem dX5_begin_20 : decode cX5_begin 20 = .ok (.aload_n 0, 1) := by decide +kernel
theorem dX5_begin_21 : decode cX5_begin 21 = .ok (.iconst (-1), 1) := by decide +kernel
theorem dX5_begin_22 : decode cX5_begin 22 = .ok (.putfield 36, 3) := by decide +kernel
theorem dX5_begin_25 : decode cX5_begin 25 = .ok (.aload_n 0, 1) := by decide +kernel
theorem dX5_begin_26 : decode cX5_begin 26 = .ok (.iconst (-1), 1) := by decide +kernel
theorem dX5_begin_27 : decode cX5_begin 27 = .ok (.putfield 39, 3) := by decide +kernel
theorem dX5_begin_30 : decode cX5_begin 30 = .ok (.aload_n 0, 1) := by decide +kernel
theorem dX5_begin_31 : decode cX5_begin 31 = .ok (.iconst (-1), 1) := by decide +kernel
theorem dX5_begin_32 : decode cX5_begin 32 = .ok (.putfield 42, 3) := by decide +kernel
theorem dX5_begin_35 : decode cX5_begin 35 = .ok (.aload_n 0, 1) := by decide +kernel
theorem dX5_begin_36 : decode cX5_begin 36 = .ok (.iconst 0, 1) := by decide +kernel
theorem dX5_begin_37 : decode cX5_begin 37 = .ok (.putfield 45, 3) := by decide +kernel
theorem dX5_begin_40 : decode cX5_begin 40 = .ok (.aload_n 0, 1) := by decide +kernel
theorem dX5_begin_41 : decode cX5_begin 41 = .ok (.getfield 14, 3) := by decide +kernel
theorem dX5_begin_44 : decode cX5_begin 44 = .ok (.invokevirtual 49, 3) := by decide +kernel
theorem dX5_begin_47 : decode cX5_begin 47 = .ok (.aload_n 0, 1) := by decide +kernel
theorem dX5_begin_48 : decode cX5_begin 48 = .ok (.getfield 20, 3) := by decide +kernel
theorem dX5_begin_51 : decode cX5_begin 51 = .ok (.invokevirtual 49, 3) := by decide +kernel
theorem dX5_begin_54 : decode cX5_begin 54 = .ok (.return_, 1) := by decide +kernel
theorem dX5_isOfVerb_0 : decode cX5_isOfVerb 0 = .ok (.aload_n 0, 1) := by decide +kernel
theorem dX5_isOfVerb_1 : decode cX5_isOfVerb 1 = .ok (.getfield 23, 3) := by decide +kernel
theorem dX5_isOfVerb_4 : decode cX5_isOfVerb 4 = .ok (.iconst 4, 1) := by decide +kernel
theorem dX5_isOfVerb_5 : decode cX5_isOfVerb 5 = .ok (.if_icmp .eq 11, 3) := by decide +kernel
theorem dX5_isOfVerb_8 : decode cX5_isOfVerb 8 = .ok (.aload_n 0, 1) := by decide +kernel
theorem dX5_isOfVerb_9 : decode cX5_isOfVerb 9 = .ok (.getfield 23, 3) := by decide +kernel
theorem dX5_isOfVerb_12 : decode cX5_isOfVerb 12 = .ok (.iconst 5, 1) := by decide +kernel
theorem dX5_isOfVerb_13 : decode cX5_isOfVerb 13 = .ok (.if_icmp .ne 7, 3) := by decide +kernel
theorem dX5_isOfVerb_16 : decode cX5_isOfVerb 16 = .ok (.iconst 1, 1) := by decide +kernel
theorem dX5_isOfVerb_17 : decode cX5_isOfVerb 17 = .ok (.goto 4, 3) := by decide +kernel
theorem dX5_isOfVerb_20 : decode cX5_isOfVerb 20 = .ok (.iconst 0, 1) := by decide +kernel
theorem dX5_isOfVerb_21 : decode cX5_isOfVerb 21 = .ok (.ireturn, 1) := by decide +kernel
theorem dX6_makeAt_0 : decode cX6_makeAt 0 = .ok (.aload_n 1, 1) := by decide +kernel
theorem dX6_makeAt_1 : decode cX6_makeAt 1 = .ok (.iconst 3, 1) := by decide +kernel
theorem dX6_makeAt_2 : decode cX6_makeAt 2 = .ok (.iconst 0, 1) := by decide +kernel
theorem dX6_makeAt_3 : decode cX6_makeAt 3 = .ok (.iload_n 2, 1) := by decide +kernel
theorem dX6_makeAt_4 : decode cX6_makeAt 4 = .ok (.iload_n 3, 1) := by decide +kernel
theorem dX6_makeAt_5 : decode cX6_makeAt 5 = .ok (.iload 4, 2) := by decide +kernel
theorem dX6_makeAt_7 : decode cX6_makeAt 7 = .ok (.invokevirtual 33, 3) := by decide +kernel
theorem dX6_makeAt_10 : decode cX6_makeAt 10 = .ok (.istore 5, 2) := by decide +kernel
theorem dX6_makeAt_12 : decode cX6_makeAt 12 = .ok (.iload 5, 2) := by decide +kernel
theorem dX6_makeAt_14 : decode cX6_makeAt 14 = .ok (.iconst (-1), 1) := by decide +kernel
theorem dX6_makeAt_15 : decode cX6_makeAt 15 = .ok (.if_icmp .eq 31, 3) := by decide +kernel
theorem dX6_makeAt_18 : decode cX6_makeAt 18 = .ok (.aload_n 1, 1) := by decide +kernel
theorem dX6_makeAt_19 : decode cX6_makeAt 19 = .ok (.iconst 5, 1) := by decide +kernel
theorem dX6_makeAt_20 : decode cX6_makeAt 20 = .ok (.iconst 0, 1) := by decide +kernel
theorem dX6_makeAt_21 : decode cX6_makeAt 21 = .ok (.iload_n 2, 1) := by decide +kernel
theorem dX6_makeAt_22 : decode cX6_makeAt 22 = .ok (.iload_n 3, 1) := by decide +kernel
theorem dX6_makeAt_23 : decode cX6_makeAt 23 = .ok (.iload 4, 2) := by decide +kernel
theorem dX6_makeAt_25 : decode cX6_makeAt 25 = .ok (.invokevirtual 33, 3) := by decide +kernel
theorem dX6_makeAt_28 : decode cX6_makeAt 28 = .ok (.iconst (-1), 1) := by decide +kernel
theorem dX6_makeAt_29 : decode cX6_makeAt 29 = .ok (.if_icmp .ne 17, 3) := by decide +kernel
theorem dX6_makeAt_32 : decode cX6_makeAt 32 = .ok (.aload_n 1, 1) := by decide +kernel
theorem dX6_makeAt_33 : decode cX6_makeAt 33 = .ok (.iconst 4, 1) := by decide +kernel
theorem dX6_makeAt_34 : decode cX6_makeAt 34 = .ok (.iconst 0, 1) := by decide +kernel
theorem dX6_makeAt_35 : decode cX6_makeAt 35 = .ok (.iload_n 2, 1) := by decide +kernel
theorem dX6_makeAt_36 : decode cX6_makeAt 36 = .ok (.iload_n 3, 1) := by decide +kernel
theorem dX6_makeAt_37 : decode cX6_makeAt 37 = .ok (.iload 4, 2) := by decide +kernel
theorem dX6_makeAt_39 : decode cX6_makeAt 39 = .ok (.invokevirtual 33, 3) := by decide +kernel
theorem dX6_makeAt_42 : decode cX6_makeAt 42 = .ok (.iconst (-1), 1) := by decide +kernel
theorem dX6_makeAt_43 : decode cX6_makeAt 43 = .ok (.if_icmp .eq 17, 3) := by decide +kernel
theorem dX6_makeAt_46 : decode cX6_makeAt 46 = .ok (.aload_n 0, 1) := by decide +kernel
theorem dX6_makeAt_47 : decode cX6_makeAt 47 = .ok (.aload_n 1, 1) := by decide +kernel
theorem dX6_makeAt_48 : decode cX6_makeAt 48 = .ok (.aload_n 0, 1) := by decide +kernel
theorem dX6_makeAt_49 : decode cX6_makeAt 49 = .ok (.getfield 14, 3) := by decide +kernel
theorem dX6_makeAt_52 : decode cX6_makeAt 52 = .ok (.iload_n 2, 1) := by decide +kernel
theorem dX6_makeAt_53 : decode cX6_makeAt 53 = .ok (.iload_n 3, 1) := by decide +kernel
theorem dX6_makeAt_54 : decode cX6_makeAt 54 = .ok (.iload 4, 2) := by decide +kernel
theorem dX6_makeAt_56 : decode cX6_makeAt 56 = .ok (.invokevirtual 39, 3) := by decide +kernel
theorem dX6_makeAt_59 : decode cX6_makeAt 59 = .ok (.return_, 1) := by decide +kernel
theorem dX6_makeAt_60 : decode cX6_makeAt 60 = .ok (.aload_n 1, 1) := by decide +kernel
theorem dX6_makeAt_61 : decode cX6_makeAt 61 = .ok (.getfield 43, 3) := by decide +kernel
theorem dX6_makeAt_64 : decode cX6_makeAt 64 = .ok (.iload 5, 2) := by decide +kernel
theorem dX6_makeAt_66 : decode cX6_makeAt 66 = .ok (.aaload, 1) := by decide +kernel
theorem dX6_makeAt_67 : decode cX6_makeAt 67 = .ok (.astore 6, 2) := by decide +kernel
theorem dX6_makeAt_69 : decode cX6_makeAt 69 = .ok (.aload_n 0, 1) := by decide +kernel
theorem dX6_makeAt_70 : decode cX6_makeAt 70 = .ok (.aload_n 1, 1) := by decide +kernel
theorem dX6_makeAt_71 : decode cX6_makeAt 71 = .ok (.aload_n 0, 1) := by decide +kernel
theorem dX6_makeAt_72 : decode cX6_makeAt 72 = .ok (.getfield 20, 3) := by decide +kernel
theorem dX6_makeAt_75 : decode cX6_makeAt 75 = .ok (.aload 6, 2) := by decide +kernel
theorem dX6_makeAt_77 : decode cX6_makeAt 77 = .ok (.getfield 47, 3) := by decide +kernel
theorem dX6_makeAt_80 : decode cX6_makeAt 80 = .ok (.aload 6, 2) := by decide +kernel
theorem dX6_makeAt_82 : decode cX6_makeAt 82 = .ok (.getfield 53, 3) := by decide +kernel
theorem dX6_makeAt_85 : decode cX6_makeAt 85 = .ok (.iload 4, 2) := by decide +kernel
theorem dX6_makeAt_87 : decode cX6_makeAt 87 = .ok (.invokevirtual 39, 3) := by decide +kernel
theorem dX6_makeAt_90 : decode cX6_makeAt 90 = .ok (.aload_n 0, 1) := by decide +kernel
theorem dX6_makeAt_91 : decode cX6_makeAt 91 = .ok (.aload_n 1, 1) := by decide +kernel
theorem dX6_makeAt_92 : decode cX6_makeAt 92 = .ok (.aload_n 0, 1) := by decide +kernel
theorem dX6_makeAt_93 : decode cX6_makeAt 93 = .ok (.getfield 23, 3) := by decide +kernel
theorem dX6_makeAt_96 : decode cX6_makeAt 96 = .ok (.iload_n 2, 1) := by decide +kernel
theorem dX6_makeAt_97 : decode cX6_makeAt 97 = .ok (.aload 6, 2) := by decide +kernel
theorem dX6_makeAt_99 : decode cX6_makeAt 99 = .ok (.getfield 56, 3) := by decide +kernel
theorem dX6_makeAt_102 : decode cX6_makeAt 102 = .ok (.iconst 0, 1) := by decide +kernel
theorem dX6_makeAt_103 : decode cX6_makeAt 103 = .ok (.invokevirtual 39, 3) := by decide +kernel
theorem dX6_makeAt_106 : decode cX6_makeAt 106 = .ok (.aload_n 0, 1) := by decide +kernel
theorem dX6_makeAt_107 : decode cX6_makeAt 107 = .ok (.getfield 14, 3) := by decide +kernel
theorem dX6_makeAt_110 : decode cX6_makeAt 110 = .ok (.invokevirtual 59, 3) := by decide +kernel
theorem dX6_makeAt_113 : decode cX6_makeAt 113 = .ok (.iconst 0, 1) := by decide +kernel
theorem dX6_makeAt_114 : decode cX6_makeAt 114 = .ok (.istore 7, 2) := by decide +kernel
theorem dX6_makeAt_116 : decode cX6_makeAt 116 = .ok (.iload 7, 2) := by decide +kernel
theorem dX6_makeAt_118 : decode cX6_makeAt 118 = .ok (.aload_n 0, 1) := by decide +kernel
theorem dX6_makeAt_119 : decode cX6_makeAt 119 = .ok (.getfield 20, 3) := by decide +kernel
theorem dX6_makeAt_122 : decode cX6_makeAt 122 = .ok (.getfield 62, 3) := by decide +kernel
theorem dX6_makeAt_125 : decode cX6_makeAt 125 = .ok (.if_icmp .ge 54, 3) := by decide +kernel
theorem dX6_makeAt_128 : decode cX6_makeAt 128 = .ok (.iconst 0, 1) := by decide +kernel
theorem dX6_makeAt_129 : decode cX6_makeAt 129 = .ok (.istore 8, 2) := by decide +kernel
theorem dX6_makeAt_131 : decode cX6_makeAt 131 = .ok (.iload 8, 2) := by decide +kernel
theorem dX6_makeAt_133 : decode cX6_makeAt 133 = .ok (.aload_n 0, 1) := by decide +kernel
theorem dX6_makeAt_134 : decode cX6_makeAt 134 = .ok (.getfield 23, 3) := by decide +kernel
theorem dX6_makeAt_137 : decode cX6_makeAt 137 = .ok (.getfield 62, 3) := by decide +kernel
theorem dX6_makeAt_140 : decode cX6_makeAt 140 = .ok (.if_icmp .ge 33, 3) := by decide +kernel
theorem dX6_makeAt_143 : decode cX6_makeAt 143 = .ok (.aload_n 0, 1) := by decide +kernel
theorem dX6_makeAt_144 : decode cX6_makeAt 144 = .ok (.iload 5, 2) := by decide +kernel
theorem dX6_makeAt_146 : decode cX6_makeAt 146 = .ok (.aload_n 0, 1) := by decide +kernel
theorem dX6_makeAt_147 : decode cX6_makeAt 147 = .ok (.getfield 20, 3) := by decide +kernel
theorem dX6_makeAt_150 : decode cX6_makeAt 150 = .ok (.iload 7, 2) := by decide +kernel
theorem dX6_makeAt_152 : decode cX6_makeAt 152 = .ok (.invokevirtual 65, 3) := by decide +kernel
theorem dX6_makeAt_155 : decode cX6_makeAt 155 = .ok (.aload_n 0, 1) := by decide +kernel
theorem dX6_makeAt_156 : decode cX6_makeAt 156 = .ok (.getfield 23, 3) := by decide +kernel
theorem dX6_makeAt_159 : decode cX6_makeAt 159 = .ok (.iload 8, 2) := by decide +kernel
theorem dX6_makeAt_161 : decode cX6_makeAt 161 = .ok (.invokevirtual 65, 3) := by decide +kernel
theorem dX6_makeAt_164 : decode cX6_makeAt 164 = .ok (.invokevirtual 69, 3) := by decide +kernel
theorem dX6_makeAt_167 : decode cX6_makeAt 167 = .ok (.iinc 8 1, 3) := by decide +kernel
theorem dX6_makeAt_170 : decode cX6_makeAt 170 = .ok (.goto (-39), 3) := by decide +kernel
theorem dX6_makeAt_173 : decode cX6_makeAt 173 = .ok (.iinc 7 1, 3) := by decide +kernel
theorem dX6_makeAt_176 : decode cX6_makeAt 176 = .ok (.goto (-60), 3) := by decide +kernel
theorem dX6_makeAt_179 : decode cX6_makeAt 179 = .ok (.return_, 1) := by decide +kernel
theorem dX6_join_0 : decode cX6_join 0 = .ok (.aload_n 0, 1) := by decide +kernel
theorem dX6_join_1 : decode cX6_join 1 = .ok (.getfield 14, 3) := by decide +kernel
theorem dX6_join_4 : decode cX6_join 4 = .ok (.invokevirtual 73, 3) := by decide +kernel
theorem dX6_join_7 : decode cX6_join 7 = .ok (.astore 4, 2) := by decide +kernel
theorem dX6_join_9 : decode cX6_join 9 = .ok (.aload 4, 2) := by decide +kernel
theorem dX6_join_11 : decode cX6_join 11 = .ok (.ifnull 11, 3) := by decide +kernel
theorem dX6_join_14 : decode cX6_join 14 = .ok (.aload_n 2, 1) := by decide +kernel
theorem dX6_join_15 : decode cX6_join 15 = .ok (.ifnull 7, 3) := by decide +kernel
theorem dX6_join_18 : decode cX6_join 18 = .ok (.aload_n 3, 1) := by decide +kernel
theorem dX6_join_19 : decode cX6_join 19 = .ok (.ifnonnull 4, 3) := by decide +kernel
theorem dX6_join_22 : decode cX6_join 22 = .ok (.return_, 1) := by decide +kernel
theorem dX6_join_23 : decode cX6_join 23 = .ok (.aload 4, 2) := by decide +kernel
theorem dX6_join_25 : decode cX6_join 25 = .ok (.iload_n 1, 1) := by decide +kernel
theorem dX6_join_26 : decode cX6_join 26 = .ok (.invokevirtual 77, 3) := by decide +kernel
theorem dX6_join_29 : decode cX6_join 29 = .ok (.aload 4, 2) := by decide +kernel
theorem dX6_join_31 : decode cX6_join 31 = .ok (.aload_n 2, 1) := by decide +kernel
theorem dX6_join_32 : decode cX6_join 32 = .ok (.invokevirtual 82, 3) := by decide +kernel
theorem dX6_join_35 : decode cX6_join 35 = .ok (.aload 4, 2) := by decide +kernel
theorem dX6_join_37 : decode cX6_join 37 = .ok (.aload_n 3, 1) := by decide +kernel
theorem dX6_join_38 : decode cX6_join 38 = .ok (.invokevirtual 82, 3) := by decide +kernel
theorem dX6_join_41 : decode cX6_join 41 = .ok (.aload 4, 2) := by decide +kernel
theorem dX6_join_43 : decode cX6_join 43 = .ok (.getfield 86, 3) := by decide +kernel
theorem dX6_join_46 : decode cX6_join 46 = .ok (.aload_n 2, 1) := by decide +kernel
theorem dX6_join_47 : decode cX6_join 47 = .ok (.getfield 86, 3) := by decide +kernel
theorem dX6_join_50 : decode cX6_join 50 = .ok (.invokevirtual 89, 3) := by decide +kernel
theorem dX6_join_53 : decode cX6_join 53 = .ok (.ifCond .eq 38, 3) := by decide +kernel
theorem dX6_join_56 : decode cX6_join 56 = .ok (.aload 4, 2) := by decide +kernel
theorem dX6_join_58 : decode cX6_join 58 = .ok (.getfield 86, 3) := by decide +kernel
theorem dX6_join_61 : decode cX6_join 61 = .ok (.bipush 32, 2) := by decide +kernel
theorem dX6_join_63 : decode cX6_join 63 = .ok (.invokevirtual 93, 3) := by decide +kernel
theorem dX6_join_66 : decode cX6_join 66 = .ok (.ifCond .eq 25, 3) := by decide +kernel
theorem dX6_join_69 : decode cX6_join 69 = .ok (.aload 4, 2) := by decide +kernel
theorem dX6_join_71 : decode cX6_join 71 = .ok (.getfield 86, 3) := by decide +kernel
theorem dX6_join_74 : decode cX6_join 74 = .ok (.aload_n 3, 1) := by decide +kernel
theorem dX6_join_75 : decode cX6_join 75 = .ok (.getfield 86, 3) := by decide +kernel
theorem dX6_join_78 : decode cX6_join 78 = .ok (.invokevirtual 89, 3) := by decide +kernel
theorem dX6_join_81 : decode cX6_join 81 = .ok (.ifCond .eq 10, 3) := by decide +kernel
theorem dX6_join_84 : decode cX6_join 84 = .ok (.aload_n 0, 1) := by decide +kernel
theorem dX6_join_85 : decode cX6_join 85 = .ok (.getfield 14, 3) := by decide +kernel
theorem dX6_join_88 : decode cX6_join 88 = .ok (.invokevirtual 97, 3) := by decide +kernel
theorem dX6_join_91 : decode cX6_join 91 = .ok (.return_, 1) := by decide +kernel
theorem dX6_makePlain_0 : decode cX6_makePlain 0 = .ok (.aload_n 2, 1) := by decide +kernel
theorem dX6_makePlain_1 : decode cX6_makePlain 1 = .ok (.invokevirtual 59, 3) := by decide +kernel
theorem dX6_makePlain_4 : decode cX6_makePlain 4 = .ok (.aload_n 1, 1) := by decide +kernel
theorem dX6_makePlain_5 : decode cX6_makePlain 5 = .ok (.iconst 5, 1) := by decide +kernel
theorem dX6_makePlain_6 : decode cX6_makePlain 6 = .ok (.iconst 0, 1) := by decide +kernel
theorem dX6_makePlain_7 : decode cX6_makePlain 7 = .ok (.iload_n 3, 1) := by decide +kernel
theorem dX6_makePlain_8 : decode cX6_makePlain 8 = .ok (.iload 4, 2) := by decide +kernel
theorem dX6_makePlain_10 : decode cX6_makePlain 10 = .ok (.iload 5, 2) := by decide +kernel
theorem dX6_makePlain_12 : decode cX6_makePlain 12 = .ok (.invokevirtual 33, 3) := by decide +kernel
theorem dX6_makePlain_15 : decode cX6_makePlain 15 = .ok (.iconst (-1), 1) := by decide +kernel
theorem dX6_makePlain_16 : decode cX6_makePlain 16 = .ok (.if_icmp .eq 4, 3) := by decide +kernel
theorem dX6_makePlain_19 : decode cX6_makePlain 19 = .ok (.return_, 1) := by decide +kernel
theorem dX6_makePlain_20 : decode cX6_makePlain 20 = .ok (.aload_n 0, 1) := by decide +kernel
theorem dX6_makePlain_21 : decode cX6_makePlain 21 = .ok (.aload_n 1, 1) := by decide +kernel
theorem dX6_makePlain_22 : decode cX6_makePlain 22 = .ok (.aload_n 2, 1) := by decide +kernel
theorem dX6_makePlain_23 : decode cX6_makePlain 23 = .ok (.iload_n 3, 1) := by decide +kernel
theorem dX6_makePlain_24 : decode cX6_makePlain 24 = .ok (.iload 4, 2) := by decide +kernel
theorem dX6_makePlain_26 : decode cX6_makePlain 26 = .ok (.iload 5, 2) := by decide +kernel
theorem dX6_makePlain_28 : decode cX6_makePlain 28 = .ok (.invokevirtual 100, 3) := by decide +kernel
theorem dX6_makePlain_31 : decode cX6_makePlain 31 = .ok (.aload_n 1, 1) := by decide +kernel
theorem dX6_makePlain_32 : decode cX6_makePlain 32 = .ok (.iconst 1, 1) := by decide +kernel
theorem dX6_makePlain_33 : decode cX6_makePlain 33 = .ok (.iconst 0, 1) := by decide +kernel
theorem dX6_makePlain_34 : decode cX6_makePlain 34 = .ok (.iload_n 3, 1) := by decide +kernel
theorem dX6_makePlain_35 : decode cX6_makePlain 35 = .ok (.iload 4, 2) := by decide +kernel
theorem dX6_makePlain_37 : decode cX6_makePlain 37 = .ok (.iload 5, 2) := by decide +kernel
theorem dX6_makePlain_39 : decode cX6_makePlain 39 = .ok (.invokevirtual 33, 3) := by decide +kernel
theorem dX6_makePlain_42 : decode cX6_makePlain 42 = .ok (.istore 6, 2) := by decide +kernel
theorem dX6_makePlain_44 : decode cX6_makePlain 44 = .ok (.aload_n 2, 1) := by decide +kernel
theorem dX6_makePlain_45 : decode cX6_makePlain 45 = .ok (.invokevirtual 73, 3) := by decide +kernel
theorem dX6_makePlain_48 : decode cX6_makePlain 48 = .ok (.astore 7, 2) := by decide +kernel
theorem dX6_makePlain_50 : decode cX6_makePlain 50 = .ok (.aload_n 2, 1) := by decide +kernel
theorem dX6_makePlain_51 : decode cX6_makePlain 51 = .ok (.getfield 62, 3) := by decide +kernel
theorem dX6_makePlain_54 : decode cX6_makePlain 54 = .ok (.ifCond .gt 14, 3) := by decide +kernel
theorem dX6_makePlain_57 : decode cX6_makePlain 57 = .ok (.iload 6, 2) := by decide +kernel
theorem dX6_makePlain_59 : decode cX6_makePlain 59 = .ok (.iconst (-1), 1) := by decide +kernel
theorem dX6_makePlain_60 : decode cX6_makePlain 60 = .ok (.if_icmp .eq 8, 3) := by decide +kernel
theorem dX6_makePlain_63 : decode cX6_makePlain 63 = .ok (.aload 7, 2) := by decide +kernel
theorem dX6_makePlain_65 : decode cX6_makePlain 65 = .ok (.ifnonnull 4, 3) := by decide +kernel
theorem dX6_makePlain_68 : decode cX6_makePlain 68 = .ok (.return_, 1) := by decide +kernel
theorem dX6_makePlain_69 : decode cX6_makePlain 69 = .ok (.aload_n 1, 1) := by decide +kernel
theorem dX6_makePlain_70 : decode cX6_makePlain 70 = .ok (.iconst 0, 1) := by decide +kernel
theorem dX6_makePlain_71 : decode cX6_makePlain 71 = .ok (.iconst 0, 1) := by decide +kernel
theorem dX6_makePlain_72 : decode cX6_makePlain 72 = .ok (.iload_n 3, 1) := by decide +kernel
theorem dX6_makePlain_73 : decode cX6_makePlain 73 = .ok (.iload 4, 2) := by decide +kernel
theorem dX6_makePlain_75 : decode cX6_makePlain 75 = .ok (.iload 5, 2) := by decide +kernel
theorem dX6_makePlain_77 : decode cX6_makePlain 77 = .ok (.invokevirtual 33, 3) := by decide +kernel
theorem dX6_makePlain_80 : decode cX6_makePlain 80 = .ok (.istore 8, 2) := by decide +kernel
theorem dX6_makePlain_82 : decode cX6_makePlain 82 = .ok (.aload_n 1, 1) := by decide +kernel
theorem dX6_makePlain_83 : decode cX6_makePlain 83 = .ok (.iload_n 3, 1) := by decide +kernel
theorem dX6_makePlain_84 : decode cX6_makePlain 84 = .ok (.iload 8, 2) := by decide +kernel
theorem dX6_makePlain_86 : decode cX6_makePlain 86 = .ok (.aload 7, 2) := by decide +kernel
theorem dX6_makePlain_88 : decode cX6_makePlain 88 = .ok (.getfield 86, 3) := by decide +kernel
theorem dX6_makePlain_91 : decode cX6_makePlain 91 = .ok (.invokevirtual 103, 3) := by decide +kernel
theorem dX6_makePlain_94 : decode cX6_makePlain 94 = .ok (.ifCond .eq 10, 3) := by decide +kernel
theorem dX6_makePlain_97 : decode cX6_makePlain 97 = .ok (.aload 7, 2) := by decide +kernel
theorem dX6_makePlain_99 : decode cX6_makePlain 99 = .ok (.iload 8, 2) := by decide +kernel
theorem dX6_makePlain_101 : decode cX6_makePlain 101 = .ok (.invokevirtual 77, 3) := by decide +kernel
theorem dX6_makePlain_104 : decode cX6_makePlain 104 = .ok (.aload 7, 2) := by decide +kernel
theorem dX6_makePlain_106 : decode cX6_makePlain 106 = .ok (.getfield 86, 3) := by decide +kernel
theorem dX6_makePlain_109 : decode cX6_makePlain 109 = .ok (.aload_n 1, 1) := by decide +kernel
theorem dX6_makePlain_110 : decode cX6_makePlain 110 = .ok (.getfield 43, 3) := by decide +kernel
theorem dX6_makePlain_113 : decode cX6_makePlain 113 = .ok (.iload 6, 2) := by decide +kernel
theorem dX6_makePlain_115 : decode cX6_makePlain 115 = .ok (.aaload, 1) := by decide +kernel
theorem dX6_makePlain_116 : decode cX6_makePlain 116 = .ok (.getfield 107, 3) := by decide +kernel
theorem dX6_makePlain_119 : decode cX6_makePlain 119 = .ok (.invokevirtual 89, 3) := by decide +kernel
theorem dX6_makePlain_122 : decode cX6_makePlain 122 = .ok (.pop, 1) := by decide +kernel
theorem dX6_makePlain_123 : decode cX6_makePlain 123 = .ok (.aload 7, 2) := by decide +kernel
theorem dX6_makePlain_125 : decode cX6_makePlain 125 = .ok (.iload 6, 2) := by decide +kernel
theorem dX6_makePlain_127 : decode cX6_makePlain 127 = .ok (.invokevirtual 77, 3) := by decide +kernel
theorem dX6_makePlain_130 : decode cX6_makePlain 130 = .ok (.aload 7, 2) := by decide +kernel
theorem dX6_makePlain_132 : decode cX6_makePlain 132 = .ok (.aload_n 0, 1) := by decide +kernel
theorem dX6_makePlain_133 : decode cX6_makePlain 133 = .ok (.aload_n 1, 1) := by decide +kernel
theorem dX6_makePlain_134 : decode cX6_makePlain 134 = .ok (.aload 7, 2) := by decide +kernel
theorem dX6_makePlain_136 : decode cX6_makePlain 136 = .ok (.getfield 86, 3) := by decide +kernel
theorem dX6_makePlain_139 : decode cX6_makePlain 139 = .ok (.iconst (-1), 1) := by decide +kernel
theorem dX6_makePlain_140 : decode cX6_makePlain 140 = .ok (.iconst (-1), 1) := by decide +kernel
theorem dX6_makePlain_141 : decode cX6_makePlain 141 = .ok (.invokevirtual 110, 3) := by decide +kernel
theorem dX6_makePlain_144 : decode cX6_makePlain 144 = .ok (.invokevirtual 114, 3) := by decide +kernel
theorem dX6_makePlain_147 : decode cX6_makePlain 147 = .ok (.aload_n 0, 1) := by decide +kernel
theorem dX6_makePlain_148 : decode cX6_makePlain 148 = .ok (.getfield 118, 3) := by decide +kernel
theorem dX6_makePlain_151 : decode cX6_makePlain 151 = .ok (.ifCond .eq 7, 3) := by decide +kernel
theorem dX6_makePlain_154 : decode cX6_makePlain 154 = .ok (.aload_n 2, 1) := by decide +kernel
theorem dX6_makePlain_155 : decode cX6_makePlain 155 = .ok (.invokevirtual 97, 3) := by decide +kernel
theorem dX6_makePlain_158 : decode cX6_makePlain 158 = .ok (.return_, 1) := by decide +kernel
theorem dX6_addExcepts_0 : decode cX6_addExcepts 0 = .ok (.aload_n 1, 1) := by decide +kernel
theorem dX6_addExcepts_1 : decode cX6_addExcepts 1 = .ok (.iconst 4, 1) := by decide +kernel
theorem dX6_addExcepts_2 : decode cX6_addExcepts 2 = .ok (.iconst 0, 1) := by decide +kernel
theorem dX6_addExcepts_3 : decode cX6_addExcepts 3 = .ok (.iload_n 3, 1) := by decide +kernel
theorem dX6_addExcepts_4 : decode cX6_addExcepts 4 = .ok (.iload 4, 2) := by decide +kernel
theorem dX6_addExcepts_6 : decode cX6_addExcepts 6 = .ok (.iload 5, 2) := by decide +kernel
theorem dX6_addExcepts_8 : decode cX6_addExcepts 8 = .ok (.invokevirtual 33, 3) := by decide +kernel
theorem dX6_addExcepts_11 : decode cX6_addExcepts 11 = .ok (.istore 6, 2) := by decide +kernel
theorem dX6_addExcepts_13 : decode cX6_addExcepts 13 = .ok (.iconst 0, 1) := by decide +kernel
theorem dX6_addExcepts_14 : decode cX6_addExcepts 14 = .ok (.istore 7, 2) := by decide +kernel
theorem dX6_addExcepts_16 : decode cX6_addExcepts 16 = .ok (.iload 7, 2) := by decide +kernel
theorem dX6_addExcepts_18 : decode cX6_addExcepts 18 = .ok (.iconst 2, 1) := by decide +kernel
theorem dX6_addExcepts_19 : decode cX6_addExcepts 19 = .ok (.if_icmp .ge 72, 3) := by decide +kernel
theorem dX6_addExcepts_22 : decode cX6_addExcepts 22 = .ok (.iload 6, 2) := by decide +kernel
theorem dX6_addExcepts_24 : decode cX6_addExcepts 24 = .ok (.iconst (-1), 1) := by decide +kernel
theorem dX6_addExcepts_25 : decode cX6_addExcepts 25 = .ok (.if_icmp .eq 66, 3) := by decide +kernel
theorem dX6_addExcepts_28 : decode cX6_addExcepts 28 = .ok (.aload_n 2, 1) := by decide +kernel
theorem dX6_addExcepts_29 : decode cX6_addExcepts 29 = .ok (.invokevirtual 73, 3) := by decide +kernel
theorem dX6_addExcepts_32 : decode cX6_addExcepts 32 = .ok (.astore 8, 2) := by decide +kernel
theorem dX6_addExcepts_34 : decode cX6_addExcepts 34 = .ok (.aload 8, 2) := by decide +kernel
theorem dX6_addExcepts_36 : decode cX6_addExcepts 36 = .ok (.ifnull 33, 3) := by decide +kernel
theorem dX6_addExcepts_39 : decode cX6_addExcepts 39 = .ok (.aload 8, 2) := by decide +kernel
theorem dX6_addExcepts_41 : decode cX6_addExcepts 41 = .ok (.getfield 86, 3) := by decide +kernel
theorem dX6_addExcepts_44 : decode cX6_addExcepts 44 = .ok (.aload_n 1, 1) := by decide +kernel
theorem dX6_addExcepts_45 : decode cX6_addExcepts 45 = .ok (.getfield 43, 3) := by decide +kernel
theorem dX6_addExcepts_48 : decode cX6_addExcepts 48 = .ok (.iload 6, 2) := by decide +kernel
theorem dX6_addExcepts_50 : decode cX6_addExcepts 50 = .ok (.aaload, 1) := by decide +kernel
theorem dX6_addExcepts_51 : decode cX6_addExcepts 51 = .ok (.getfield 107, 3) := by decide +kernel
theorem dX6_addExcepts_54 : decode cX6_addExcepts 54 = .ok (.invokevirtual 89, 3) := by decide +kernel
theorem dX6_addExcepts_57 : decode cX6_addExcepts 57 = .ok (.pop, 1) := by decide +kernel
theorem dX6_addExcepts_58 : decode cX6_addExcepts 58 = .ok (.aload 8, 2) := by decide +kernel
theorem dX6_addExcepts_60 : decode cX6_addExcepts 60 = .ok (.iload 6, 2) := by decide +kernel
theorem dX6_addExcepts_62 : decode cX6_addExcepts 62 = .ok (.invokevirtual 77, 3) := by decide +kernel
theorem dX6_addExcepts_65 : decode cX6_addExcepts 65 = .ok (.aload_n 2, 1) := by decide +kernel
theorem dX6_addExcepts_66 : decode cX6_addExcepts 66 = .ok (.invokevirtual 97, 3) := by decide +kernel
theorem dX6_addExcepts_69 : decode cX6_addExcepts 69 = .ok (.aload_n 1, 1) := by decide +kernel
theorem dX6_addExcepts_70 : decode cX6_addExcepts 70 = .ok (.iconst 4, 1) := by decide +kernel
theorem dX6_addExcepts_71 : decode cX6_addExcepts 71 = .ok (.iload 6, 2) := by decide +kernel
theorem dX6_addExcepts_73 : decode cX6_addExcepts 73 = .ok (.iconst 1, 1) := by decide +kernel
theorem dX6_addExcepts_74 : decode cX6_addExcepts 74 = .ok (.iadd, 1) := by decide +kernel
theorem dX6_addExcepts_75 : decode cX6_addExcepts 75 = .ok (.iload_n 3, 1) := by decide +kernel
theorem dX6_addExcepts_76 : decode cX6_addExcepts 76 = .ok (.iload 4, 2) := by decide +kernel
theorem dX6_addExcepts_78 : decode cX6_addExcepts 78 = .ok (.iload 5, 2) := by decide +kernel
theorem dX6_addExcepts_80 : decode cX6_addExcepts 80 = .ok (.invokevirtual 33, 3) := by decide +kernel
theorem dX6_addExcepts_83 : decode cX6_addExcepts 83 = .ok (.istore 6, 2) := by decide +kernel
theorem dX6_addExcepts_85 : decode cX6_addExcepts 85 = .ok (.iinc 7 1, 3) := by decide +kernel
theorem dX6_addExcepts_88 : decode cX6_addExcepts 88 = .ok (.goto (-72), 3) := by decide +kernel
theorem dX6_addExcepts_91 : decode cX6_addExcepts 91 = .ok (.return_, 1) := by decide +kernel
theorem dX6_soundAll_0 : decode cX6_soundAll 0 = .ok (.lconst 0, 1) := by decide +kernel
theorem dX6_soundAll_1 : decode cX6_soundAll 1 = .ok (.lstore 5, 2) := by decide +kernel
theorem dX6_soundAll_3 : decode cX6_soundAll 3 = .ok (.aload_n 0, 1) := by decide +kernel
theorem dX6_soundAll_4 : decode cX6_soundAll 4 = .ok (.iconst 1, 1) := by decide +kernel
theorem dX6_soundAll_5 : decode cX6_soundAll 5 = .ok (.putfield 118, 3) := by decide +kernel
theorem dX6_soundAll_8 : decode cX6_soundAll 8 = .ok (.iconst 0, 1) := by decide +kernel
theorem dX6_soundAll_9 : decode cX6_soundAll 9 = .ok (.istore 7, 2) := by decide +kernel
theorem dX6_soundAll_11 : decode cX6_soundAll 11 = .ok (.iload 7, 2) := by decide +kernel
theorem dX6_soundAll_13 : decode cX6_soundAll 13 = .ok (.aload_n 1, 1) := by decide +kernel
theorem dX6_soundAll_14 : decode cX6_soundAll 14 = .ok (.getfield 122, 3) := by decide +kernel
theorem dX6_soundAll_17 : decode cX6_soundAll 17 = .ok (.if_icmp .ge 79, 3) := by decide +kernel
theorem dX6_soundAll_20 : decode cX6_soundAll 20 = .ok (.aload_n 0, 1) := by decide +kernel
theorem dX6_soundAll_21 : decode cX6_soundAll 21 = .ok (.getfield 118, 3) := by decide +kernel
theorem dX6_soundAll_24 : decode cX6_soundAll 24 = .ok (.ifCond .eq 72, 3) := by decide +kernel
theorem dX6_soundAll_27 : decode cX6_soundAll 27 = .ok (.aload_n 1, 1) := by decide +kernel
theorem dX6_soundAll_28 : decode cX6_soundAll 28 = .ok (.getfield 43, 3) := by decide +kernel
theorem dX6_soundAll_31 : decode cX6_soundAll 31 = .ok (.iload 7, 2) := by decide +kernel
theorem dX6_soundAll_33 : decode cX6_soundAll 33 = .ok (.aaload, 1) := by decide +kernel
theorem dX6_soundAll_34 : decode cX6_soundAll 34 = .ok (.getfield 125, 3) := by decide +kernel
theorem dX6_soundAll_37 : decode cX6_soundAll 37 = .ok (.iconst 2, 1) := by decide +kernel
theorem dX6_soundAll_38 : decode cX6_soundAll 38 = .ok (.if_icmp .ne 20, 3) := by decide +kernel
theorem dX6_soundAll_41 : decode cX6_soundAll 41 = .ok (.iload 7, 2) := by decide +kernel
theorem dX6_soundAll_43 : decode cX6_soundAll 43 = .ok (.iload_n 3, 1) := by decide +kernel
theorem dX6_soundAll_44 : decode cX6_soundAll 44 = .ok (.if_icmp .eq 14, 3) := by decide +kernel
theorem dX6_soundAll_47 : decode cX6_soundAll 47 = .ok (.iload 7, 2) := by decide +kernel
theorem dX6_soundAll_49 : decode cX6_soundAll 49 = .ok (.iload 4, 2) := by decide +kernel
theorem dX6_soundAll_51 : decode cX6_soundAll 51 = .ok (.if_icmp .eq 7, 3) := by decide +kernel
theorem dX6_soundAll_54 : decode cX6_soundAll 54 = .ok (.iconst 1, 1) := by decide +kernel
theorem dX6_soundAll_55 : decode cX6_soundAll 55 = .ok (.goto 4, 3) := by decide +kernel
theorem dX6_soundAll_58 : decode cX6_soundAll 58 = .ok (.iconst 0, 1) := by decide +kernel
theorem dX6_soundAll_59 : decode cX6_soundAll 59 = .ok (.istore 8, 2) := by decide +kernel
theorem dX6_soundAll_61 : decode cX6_soundAll 61 = .ok (.iload 8, 2) := by decide +kernel
theorem dX6_soundAll_63 : decode cX6_soundAll 63 = .ok (.ifCond .eq 27, 3) := by decide +kernel
theorem dX6_soundAll_66 : decode cX6_soundAll 66 = .ok (.aload_n 0, 1) := by decide +kernel
theorem dX6_soundAll_67 : decode cX6_soundAll 67 = .ok (.aload_n 1, 1) := by decide +kernel
theorem dX6_soundAll_68 : decode cX6_soundAll 68 = .ok (.getfield 43, 3) := by decide +kernel
theorem dX6_soundAll_71 : decode cX6_soundAll 71 = .ok (.iload 7, 2) := by decide +kernel
theorem dX6_soundAll_73 : decode cX6_soundAll 73 = .ok (.aaload, 1) := by decide +kernel
theorem dX6_soundAll_74 : decode cX6_soundAll 74 = .ok (.aload_n 2, 1) := by decide +kernel
theorem dX6_soundAll_75 : decode cX6_soundAll 75 = .ok (.invokevirtual 128, 3) := by decide +kernel
theorem dX6_soundAll_78 : decode cX6_soundAll 78 = .ok (.ifCond .eq 12, 3) := by decide +kernel
theorem dX6_soundAll_81 : decode cX6_soundAll 81 = .ok (.lload 5, 2) := by decide +kernel
theorem dX6_soundAll_83 : decode cX6_soundAll 83 = .ok (.lconst 1, 1) := by decide +kernel
theorem dX6_soundAll_84 : decode cX6_soundAll 84 = .ok (.iload 7, 2) := by decide +kernel
theorem dX6_soundAll_86 : decode cX6_soundAll 86 = .ok (.lshl, 1) := by decide +kernel
theorem dX6_soundAll_87 : decode cX6_soundAll 87 = .ok (.lor, 1) := by decide +kernel
theorem dX6_soundAll_88 : decode cX6_soundAll 88 = .ok (.lstore 5, 2) := by decide +kernel
theorem dX6_soundAll_90 : decode cX6_soundAll 90 = .ok (.iinc 7 1, 3) := by decide +kernel
theorem dX6_soundAll_93 : decode cX6_soundAll 93 = .ok (.goto (-82), 3) := by decide +kernel
theorem dX6_soundAll_96 : decode cX6_soundAll 96 = .ok (.aload_n 0, 1) := by decide +kernel
theorem dX6_soundAll_97 : decode cX6_soundAll 97 = .ok (.aload_n 0, 1) := by decide +kernel
theorem dX6_soundAll_98 : decode cX6_soundAll 98 = .ok (.getfield 118, 3) := by decide +kernel
theorem dX6_soundAll_101 : decode cX6_soundAll 101 = .ok (.ifCond .eq 14, 3) := by decide +kernel
theorem dX6_soundAll_104 : decode cX6_soundAll 104 = .ok (.aload_n 2, 1) := by decide +kernel
theorem dX6_soundAll_105 : decode cX6_soundAll 105 = .ok (.getfield 132, 3) := by decide +kernel
theorem dX6_soundAll_108 : decode cX6_soundAll 108 = .ok (.ifCond .le 7, 3) := by decide +kernel
theorem dX6_soundAll_111 : decode cX6_soundAll 111 = .ok (.iconst 1, 1) := by decide +kernel
theorem dX6_soundAll_112 : decode cX6_soundAll 112 = .ok (.goto 4, 3) := by decide +kernel
theorem dX6_soundAll_115 : decode cX6_soundAll 115 = .ok (.iconst 0, 1) := by decide +kernel
theorem dX6_soundAll_116 : decode cX6_soundAll 116 = .ok (.putfield 118, 3) := by decide +kernel
theorem dX6_soundAll_119 : decode cX6_soundAll 119 = .ok (.lload 5, 2) := by decide +kernel
theorem dX6_soundAll_121 : decode cX6_soundAll 121 = .ok (.lreturn, 1) := by decide +kernel
theorem dX6_sound_0 : decode cX6_sound 0 = .ok (.iconst 0, 1) := by decide +kernel
theorem dX6_sound_1 : decode cX6_sound 1 = .ok (.istore_n 3, 1) := by decide +kernel
theorem dX6_sound_2 : decode cX6_sound 2 = .ok (.aload_n 0, 1) := by decide +kernel
theorem dX6_sound_3 : decode cX6_sound 3 = .ok (.getfield 29, 3) := by decide +kernel
theorem dX6_sound_6 : decode cX6_sound 6 = .ok (.invokevirtual 133, 3) := by decide +kernel
theorem dX6_sound_9 : decode cX6_sound 9 = .ok (.iconst 0, 1) := by decide +kernel
theorem dX6_sound_10 : decode cX6_sound 10 = .ok (.istore 4, 2) := by decide +kernel
theorem dX6_sound_12 : decode cX6_sound 12 = .ok (.iload 4, 2) := by decide +kernel
theorem dX6_sound_14 : decode cX6_sound 14 = .ok (.bipush 30, 2) := by decide +kernel
theorem dX6_sound_16 : decode cX6_sound 16 = .ok (.if_icmp .ge 114, 3) := by decide +kernel
theorem dX6_sound_19 : decode cX6_sound 19 = .ok (.aload_n 0, 1) := by decide +kernel
theorem dX6_sound_20 : decode cX6_sound 20 = .ok (.getfield 118, 3) := by decide +kernel
theorem dX6_sound_23 : decode cX6_sound 23 = .ok (.ifCond .eq 107, 3) := by decide +kernel
theorem dX6_sound_26 : decode cX6_sound 26 = .ok (.aload_n 1, 1) := by decide +kernel
theorem dX6_sound_27 : decode cX6_sound 27 = .ok (.getfield 134, 3) := by decide +kernel
theorem dX6_sound_30 : decode cX6_sound 30 = .ok (.ifCond .eq 22, 3) := by decide +kernel
theorem dX6_sound_33 : decode cX6_sound 33 = .ok (.iload_n 3, 1) := by decide +kernel
theorem dX6_sound_34 : decode cX6_sound 34 = .ok (.aload_n 2, 1) := by decide +kernel
theorem dX6_sound_35 : decode cX6_sound 35 = .ok (.getfield 132, 3) := by decide +kernel
theorem dX6_sound_38 : decode cX6_sound 38 = .ok (.aload_n 1, 1) := by decide +kernel
theorem dX6_sound_39 : decode cX6_sound 39 = .ok (.getfield 107, 3) := by decide +kernel
theorem dX6_sound_42 : decode cX6_sound 42 = .ok (.getfield 132, 3) := by decide +kernel
theorem dX6_sound_45 : decode cX6_sound 45 = .ok (.isub, 1) := by decide +kernel
theorem dX6_sound_46 : decode cX6_sound 46 = .ok (.invokestatic 137, 3) := by decide +kernel
theorem dX6_sound_49 : decode cX6_sound 49 = .ok (.goto 4, 3) := by decide +kernel
theorem dX6_sound_52 : decode cX6_sound 52 = .ok (.iload_n 3, 1) := by decide +kernel
theorem dX6_sound_53 : decode cX6_sound 53 = .ok (.istore 5, 2) := by decide +kernel
theorem dX6_sound_55 : decode cX6_sound 55 = .ok (.aload_n 2, 1) := by decide +kernel
theorem dX6_sound_56 : decode cX6_sound 56 = .ok (.aload_n 1, 1) := by decide +kernel
theorem dX6_sound_57 : decode cX6_sound 57 = .ok (.getfield 107, 3) := by decide +kernel
theorem dX6_sound_60 : decode cX6_sound 60 = .ok (.iload 5, 2) := by decide +kernel
theorem dX6_sound_62 : decode cX6_sound 62 = .ok (.invokevirtual 143, 3) := by decide +kernel
theorem dX6_sound_65 : decode cX6_sound 65 = .ok (.istore 6, 2) := by decide +kernel
theorem dX6_sound_67 : decode cX6_sound 67 = .ok (.iload 6, 2) := by decide +kernel
theorem dX6_sound_69 : decode cX6_sound 69 = .ok (.iconst (-1), 1) := by decide +kernel
theorem dX6_sound_70 : decode cX6_sound 70 = .ok (.if_icmp .ne 6, 3) := by decide +kernel
theorem dX6_sound_73 : decode cX6_sound 73 = .ok (.goto 57, 3) := by decide +kernel
theorem dX6_sound_76 : decode cX6_sound 76 = .ok (.aload_n 0, 1) := by decide +kernel
theorem dX6_sound_77 : decode cX6_sound 77 = .ok (.aload_n 0, 1) := by decide +kernel
theorem dX6_sound_78 : decode cX6_sound 78 = .ok (.getfield 29, 3) := by decide +kernel
theorem dX6_sound_81 : decode cX6_sound 81 = .ok (.aload_n 2, 1) := by decide +kernel
theorem dX6_sound_82 : decode cX6_sound 82 = .ok (.iload_n 3, 1) := by decide +kernel
theorem dX6_sound_83 : decode cX6_sound 83 = .ok (.iload 6, 2) := by decide +kernel
theorem dX6_sound_85 : decode cX6_sound 85 = .ok (.invokevirtual 147, 3) := by decide +kernel
theorem dX6_sound_88 : decode cX6_sound 88 = .ok (.ifCond .eq 21, 3) := by decide +kernel
theorem dX6_sound_91 : decode cX6_sound 91 = .ok (.aload_n 0, 1) := by decide +kernel
theorem dX6_sound_92 : decode cX6_sound 92 = .ok (.getfield 29, 3) := by decide +kernel
theorem dX6_sound_95 : decode cX6_sound 95 = .ok (.aload_n 1, 1) := by decide +kernel
theorem dX6_sound_96 : decode cX6_sound 96 = .ok (.getfield 151, 3) := by decide +kernel
theorem dX6_sound_99 : decode cX6_sound 99 = .ok (.invokevirtual 89, 3) := by decide +kernel
theorem dX6_sound_102 : decode cX6_sound 102 = .ok (.ifCond .eq 7, 3) := by decide +kernel
theorem dX6_sound_105 : decode cX6_sound 105 = .ok (.iconst 1, 1) := by decide +kernel
theorem dX6_sound_106 : decode cX6_sound 106 = .ok (.goto 4, 3) := by decide +kernel
theorem dX6_sound_109 : decode cX6_sound 109 = .ok (.iconst 0, 1) := by decide +kernel
theorem dX6_sound_110 : decode cX6_sound 110 = .ok (.putfield 118, 3) := by decide +kernel
theorem dX6_sound_113 : decode cX6_sound 113 = .ok (.iload 6, 2) := by decide +kernel
theorem dX6_sound_115 : decode cX6_sound 115 = .ok (.aload_n 1, 1) := by decide +kernel
theorem dX6_sound_116 : decode cX6_sound 116 = .ok (.getfield 107, 3) := by decide +kernel
theorem dX6_sound_119 : decode cX6_sound 119 = .ok (.getfield 132, 3) := by decide +kernel
theorem dX6_sound_122 : decode cX6_sound 122 = .ok (.iadd, 1) := by decide +kernel
theorem dX6_sound_123 : decode cX6_sound 123 = .ok (.istore_n 3, 1) := by decide +kernel
theorem dX6_sound_124 : decode cX6_sound 124 = .ok (.iinc 4 1, 3) := by decide +kernel
theorem dX6_sound_127 : decode cX6_sound 127 = .ok (.goto (-115), 3) := by decide +kernel
theorem dX6_sound_130 : decode cX6_sound 130 = .ok (.iload_n 3, 1) := by decide +kernel
theorem dX6_sound_131 : decode cX6_sound 131 = .ok (.ifCond .eq 17, 3) := by decide +kernel
theorem dX6_sound_134 : decode cX6_sound 134 = .ok (.aload_n 1, 1) := by decide +kernel
theorem dX6_sound_135 : decode cX6_sound 135 = .ok (.getfield 107, 3) := by decide +kernel
theorem dX6_sound_138 : decode cX6_sound 138 = .ok (.aload_n 1, 1) := by decide +kernel
theorem dX6_sound_139 : decode cX6_sound 139 = .ok (.getfield 151, 3) := by decide +kernel
theorem dX6_sound_142 : decode cX6_sound 142 = .ok (.invokevirtual 154, 3) := by decide +kernel
theorem dX6_sound_145 : decode cX6_sound 145 = .ok (.ifCond .eq 5, 3) := by decide +kernel
theorem dX6_sound_148 : decode cX6_sound 148 = .ok (.iconst 0, 1) := by decide +kernel
theorem dX6_sound_149 : decode cX6_sound 149 = .ok (.ireturn, 1) := by decide +kernel
theorem dX6_sound_150 : decode cX6_sound 150 = .ok (.aload_n 0, 1) := by decide +kernel
theorem dX6_sound_151 : decode cX6_sound 151 = .ok (.aload_n 0, 1) := by decide +kernel
theorem dX6_sound_152 : decode cX6_sound 152 = .ok (.getfield 118, 3) := by decide +kernel
theorem dX6_sound_155 : decode cX6_sound 155 = .ok (.ifCond .eq 23, 3) := by decide +kernel
theorem dX6_sound_158 : decode cX6_sound 158 = .ok (.aload_n 0, 1) := by decide +kernel
theorem dX6_sound_159 : decode cX6_sound 159 = .ok (.getfield 29, 3) := by decide +kernel
theorem dX6_sound_162 : decode cX6_sound 162 = .ok (.aload_n 2, 1) := by decide +kernel
theorem dX6_sound_163 : decode cX6_sound 163 = .ok (.iload_n 3, 1) := by decide +kernel
theorem dX6_sound_164 : decode cX6_sound 164 = .ok (.aload_n 2, 1) := by decide +kernel
theorem dX6_sound_165 : decode cX6_sound 165 = .ok (.getfield 132, 3) := by decide +kernel
theorem dX6_sound_168 : decode cX6_sound 168 = .ok (.invokevirtual 147, 3) := by decide +kernel
theorem dX6_sound_171 : decode cX6_sound 171 = .ok (.ifCond .eq 7, 3) := by decide +kernel
theorem dX6_sound_174 : decode cX6_sound 174 = .ok (.iconst 1, 1) := by decide +kernel
theorem dX6_sound_175 : decode cX6_sound 175 = .ok (.goto 4, 3) := by decide +kernel
theorem dX6_sound_178 : decode cX6_sound 178 = .ok (.iconst 0, 1) := by decide +kernel
theorem dX6_sound_179 : decode cX6_sound 179 = .ok (.putfield 118, 3) := by decide +kernel
theorem dX6_sound_182 : decode cX6_sound 182 = .ok (.aload_n 2, 1) := by decide +kernel
theorem dX6_sound_183 : decode cX6_sound 183 = .ok (.aload_n 0, 1) := by decide +kernel
theorem dX6_sound_184 : decode cX6_sound 184 = .ok (.getfield 29, 3) := by decide +kernel
theorem dX6_sound_187 : decode cX6_sound 187 = .ok (.invokevirtual 157, 3) := by decide +kernel
theorem dX6_sound_190 : decode cX6_sound 190 = .ok (.iconst 1, 1) := by decide +kernel
theorem dX6_sound_191 : decode cX6_sound 191 = .ok (.ireturn, 1) := by decide +kernel
theorem dX7_takeClass_0 : decode cX7_takeClass 0 = .ok (.aload_n 0, 1) := by decide +kernel
theorem dX7_takeClass_1 : decode cX7_takeClass 1 = .ok (.getfield 30, 3) := by decide +kernel
theorem dX7_takeClass_4 : decode cX7_takeClass 4 = .ok (.getfield 62, 3) := by decide +kernel
theorem dX7_takeClass_7 : decode cX7_takeClass 7 = .ok (.bipush 6, 2) := by decide +kernel
theorem dX7_takeClass_9 : decode cX7_takeClass 9 = .ok (.if_icmp .lt 9, 3) := by decide +kernel
theorem dX7_takeClass_12 : decode cX7_takeClass 12 = .ok (.aload_n 0, 1) := by decide +kernel
theorem dX7_takeClass_13 : decode cX7_takeClass 13 = .ok (.iconst 4, 1) := by decide +kernel
theorem dX7_takeClass_14 : decode cX7_takeClass 14 = .ok (.invokevirtual 65, 3) := by decide +kernel
theorem dX7_takeClass_17 : decode cX7_takeClass 17 = .ok (.ireturn, 1) := by decide +kernel
theorem dX7_takeClass_18 : decode cX7_takeClass 18 = .ok (.aload_n 0, 1) := by decide +kernel
theorem dX7_takeClass_19 : decode cX7_takeClass 19 = .ok (.invokevirtual 42, 3) := by decide +kernel
theorem dX7_takeClass_22 : decode cX7_takeClass 22 = .ok (.aload_n 0, 1) := by decide +kernel
theorem dX7_takeClass_23 : decode cX7_takeClass 23 = .ok (.aload_n 0, 1) := by decide +kernel
theorem dX7_takeClass_24 : decode cX7_takeClass 24 = .ok (.getfield 30, 3) := by decide +kernel
theorem dX7_takeClass_27 : decode cX7_takeClass 27 = .ok (.getfield 68, 3) := by decide +kernel
theorem dX7_takeClass_30 : decode cX7_takeClass 30 = .ok (.aload_n 0, 1) := by decide +kernel
theorem dX7_takeClass_31 : decode cX7_takeClass 31 = .ok (.getfield 30, 3) := by decide +kernel
theorem dX7_takeClass_34 : decode cX7_takeClass 34 = .ok (.getfield 62, 3) := by decide +kernel
theorem dX7_takeClass_37 : decode cX7_takeClass 37 = .ok (.invokevirtual 72, 3) := by decide +kernel
theorem dX7_takeClass_40 : decode cX7_takeClass 40 = .ok (.ifCond .ne 5, 3) := by decide +kernel
theorem dX7_takeClass_43 : decode cX7_takeClass 43 = .ok (.iconst 0, 1) := by decide +kernel
theorem dX7_takeClass_44 : decode cX7_takeClass 44 = .ok (.ireturn, 1) := by decide +kernel
theorem dX7_takeClass_45 : decode cX7_takeClass 45 = .ok (.aload_n 0, 1) := by decide +kernel
theorem dX7_takeClass_46 : decode cX7_takeClass 46 = .ok (.getfield 30, 3) := by decide +kernel
theorem dX7_takeClass_49 : decode cX7_takeClass 49 = .ok (.getfield 68, 3) := by decide +kernel
theorem dX7_takeClass_52 : decode cX7_takeClass 52 = .ok (.aload_n 0, 1) := by decide +kernel
theorem dX7_takeClass_53 : decode cX7_takeClass 53 = .ok (.getfield 30, 3) := by decide +kernel
theorem dX7_takeClass_56 : decode cX7_takeClass 56 = .ok (.getfield 62, 3) := by decide +kernel
theorem dX7_takeClass_59 : decode cX7_takeClass 59 = .ok (.aaload, 1) := by decide +kernel
theorem dX7_takeClass_60 : decode cX7_takeClass 60 = .ok (.aload_n 0, 1) := by decide +kernel
theorem dX7_takeClass_61 : decode cX7_takeClass 61 = .ok (.getfield 23, 3) := by decide +kernel
theorem dX7_takeClass_64 : decode cX7_takeClass 64 = .ok (.invokevirtual 76, 3) := by decide +kernel
theorem dX7_takeClass_67 : decode cX7_takeClass 67 = .ok (.aload_n 0, 1) := by decide +kernel
theorem dX7_takeClass_68 : decode cX7_takeClass 68 = .ok (.getfield 30, 3) := by decide +kernel
theorem dX7_takeClass_71 : decode cX7_takeClass 71 = .ok (.dup, 1) := by decide +kernel
theorem dX7_takeClass_72 : decode cX7_takeClass 72 = .ok (.getfield 62, 3) := by decide +kernel
theorem dX7_takeClass_75 : decode cX7_takeClass 75 = .ok (.iconst 1, 1) := by decide +kernel
theorem dX7_takeClass_76 : decode cX7_takeClass 76 = .ok (.iadd, 1) := by decide +kernel
theorem dX7_takeClass_77 : decode cX7_takeClass 77 = .ok (.putfield 62, 3) := by decide +kernel
theorem dX7_takeClass_80 : decode cX7_takeClass 80 = .ok (.aload_n 0, 1) := by decide +kernel
theorem dX7_takeClass_81 : decode cX7_takeClass 81 = .ok (.invokevirtual 42, 3) := by decide +kernel
theorem dX7_takeClass_84 : decode cX7_takeClass 84 = .ok (.iconst 1, 1) := by decide +kernel
theorem dX7_takeClass_85 : decode cX7_takeClass 85 = .ok (.ireturn, 1) := by decide +kernel
theorem dX7_takeVerb_0 : decode cX7_takeVerb 0 = .ok (.aload_n 0, 1) := by decide +kernel
theorem dX7_takeVerb_1 : decode cX7_takeVerb 1 = .ok (.getfield 30, 3) := by decide +kernel
theorem dX7_takeVerb_4 : decode cX7_takeVerb 4 = .ok (.getfield 80, 3) := by decide +kernel
theorem dX7_takeVerb_7 : decode cX7_takeVerb 7 = .ok (.istore_n 1, 1) := by decide +kernel
theorem dX7_takeVerb_8 : decode cX7_takeVerb 8 = .ok (.iload_n 1, 1) := by decide +kernel
theorem dX7_takeVerb_9 : decode cX7_takeVerb 9 = .ok (.bipush 30, 2) := by decide +kernel
theorem dX7_takeVerb_11 : decode cX7_takeVerb 11 = .ok (.if_icmp .lt 9, 3) := by decide +kernel
theorem dX7_takeVerb_14 : decode cX7_takeVerb 14 = .ok (.aload_n 0, 1) := by decide +kernel
theorem dX7_takeVerb_15 : decode cX7_takeVerb 15 = .ok (.iconst 4, 1) := by decide +kernel
theorem dX7_takeVerb_16 : decode cX7_takeVerb 16 = .ok (.invokevirtual 65, 3) := by decide +kernel
theorem dX7_takeVerb_19 : decode cX7_takeVerb 19 = .ok (.ireturn, 1) := by decide +kernel
theorem dX7_takeVerb_20 : decode cX7_takeVerb 20 = .ok (.aload_n 0, 1) := by decide +kernel
theorem dX7_takeVerb_21 : decode cX7_takeVerb 21 = .ok (.invokevirtual 42, 3) := by decide +kernel
theorem dX7_takeVerb_24 : decode cX7_takeVerb 24 = .ok (.aload_n 0, 1) := by decide +kernel
theorem dX7_takeVerb_25 : decode cX7_takeVerb 25 = .ok (.aload_n 0, 1) := by decide +kernel
theorem dX7_takeVerb_26 : decode cX7_takeVerb 26 = .ok (.getfield 30, 3) := by decide +kernel
theorem dX7_takeVerb_29 : decode cX7_takeVerb 29 = .ok (.getfield 83, 3) := by decide +kernel
theorem dX7_takeVerb_32 : decode cX7_takeVerb 32 = .ok (.iload_n 1, 1) := by decide +kernel
theorem dX7_takeVerb_33 : decode cX7_takeVerb 33 = .ok (.invokevirtual 72, 3) := by decide +kernel
theorem dX7_takeVerb_36 : decode cX7_takeVerb 36 = .ok (.ifCond .ne 5, 3) := by decide +kernel
theorem dX7_takeVerb_39 : decode cX7_takeVerb 39 = .ok (.iconst 0, 1) := by decide +kernel
theorem dX7_takeVerb_40 : decode cX7_takeVerb 40 = .ok (.ireturn, 1) := by decide +kernel
theorem dX7_takeVerb_41 : decode cX7_takeVerb 41 = .ok (.aload_n 0, 1) := by decide +kernel
theorem dX7_takeVerb_42 : decode cX7_takeVerb 42 = .ok (.getfield 30, 3) := by decide +kernel
theorem dX7_takeVerb_45 : decode cX7_takeVerb 45 = .ok (.getfield 83, 3) := by decide +kernel
theorem dX7_takeVerb_48 : decode cX7_takeVerb 48 = .ok (.iload_n 1, 1) := by decide +kernel
theorem dX7_takeVerb_49 : decode cX7_takeVerb 49 = .ok (.aaload, 1) := by decide +kernel
theorem dX7_takeVerb_50 : decode cX7_takeVerb 50 = .ok (.aload_n 0, 1) := by decide +kernel
theorem dX7_takeVerb_51 : decode cX7_takeVerb 51 = .ok (.getfield 23, 3) := by decide +kernel
theorem dX7_takeVerb_54 : decode cX7_takeVerb 54 = .ok (.invokevirtual 76, 3) := by decide +kernel
theorem dX7_takeVerb_57 : decode cX7_takeVerb 57 = .ok (.aload_n 0, 1) := by decide +kernel
theorem dX7_takeVerb_58 : decode cX7_takeVerb 58 = .ok (.invokevirtual 42, 3) := by decide +kernel
theorem dX7_takeVerb_61 : decode cX7_takeVerb 61 = .ok (.aload_n 0, 1) := by decide +kernel
theorem dX7_takeVerb_62 : decode cX7_takeVerb 62 = .ok (.getfield 30, 3) := by decide +kernel
theorem dX7_takeVerb_65 : decode cX7_takeVerb 65 = .ok (.getfield 86, 3) := by decide +kernel
theorem dX7_takeVerb_68 : decode cX7_takeVerb 68 = .ok (.iload_n 1, 1) := by decide +kernel
theorem dX7_takeVerb_69 : decode cX7_takeVerb 69 = .ok (.aload_n 0, 1) := by decide +kernel
theorem dX7_takeVerb_70 : decode cX7_takeVerb 70 = .ok (.bipush 8, 2) := by decide +kernel
theorem dX7_takeVerb_72 : decode cX7_takeVerb 72 = .ok (.invokevirtual 58, 3) := by decide +kernel
theorem dX7_takeVerb_75 : decode cX7_takeVerb 75 = .ok (.ifCond .eq 24, 3) := by decide +kernel
theorem dX7_takeVerb_78 : decode cX7_takeVerb 78 = .ok (.aload_n 0, 1) := by decide +kernel
theorem dX7_takeVerb_79 : decode cX7_takeVerb 79 = .ok (.aload_n 0, 1) := by decide +kernel
theorem dX7_takeVerb_80 : decode cX7_takeVerb 80 = .ok (.getfield 30, 3) := by decide +kernel
theorem dX7_takeVerb_83 : decode cX7_takeVerb 83 = .ok (.getfield 68, 3) := by decide +kernel
theorem dX7_takeVerb_86 : decode cX7_takeVerb 86 = .ok (.aload_n 0, 1) := by decide +kernel
theorem dX7_takeVerb_87 : decode cX7_takeVerb 87 = .ok (.getfield 30, 3) := by decide +kernel
theorem dX7_takeVerb_90 : decode cX7_takeVerb 90 = .ok (.getfield 62, 3) := by decide +kernel
theorem dX7_takeVerb_93 : decode cX7_takeVerb 93 = .ok (.invokevirtual 90, 3) := by decide +kernel
theorem dX7_takeVerb_96 : decode cX7_takeVerb 96 = .ok (.goto 4, 3) := by decide +kernel
theorem dX7_takeVerb_99 : decode cX7_takeVerb 99 = .ok (.iconst (-1), 1) := by decide +kernel
theorem dX7_takeVerb_100 : decode cX7_takeVerb 100 = .ok (.iastore, 1) := by decide +kernel
theorem dX7_takeVerb_101 : decode cX7_takeVerb 101 = .ok (.aload_n 0, 1) := by decide +kernel
theorem dX7_takeVerb_102 : decode cX7_takeVerb 102 = .ok (.getfield 30, 3) := by decide +kernel
theorem dX7_takeVerb_105 : decode cX7_takeVerb 105 = .ok (.dup, 1) := by decide +kernel
theorem dX7_takeVerb_106 : decode cX7_takeVerb 106 = .ok (.getfield 80, 3) := by decide +kernel
theorem dX7_takeVerb_109 : decode cX7_takeVerb 109 = .ok (.iconst 1, 1) := by decide +kernel
theorem dX7_takeVerb_110 : decode cX7_takeVerb 110 = .ok (.iadd, 1) := by decide +kernel
theorem dX7_takeVerb_111 : decode cX7_takeVerb 111 = .ok (.putfield 80, 3) := by decide +kernel
theorem dX7_takeVerb_114 : decode cX7_takeVerb 114 = .ok (.aload_n 0, 1) := by decide +kernel
theorem dX7_takeVerb_115 : decode cX7_takeVerb 115 = .ok (.getfield 30, 3) := by decide +kernel
theorem dX7_takeVerb_118 : decode cX7_takeVerb 118 = .ok (.getfield 86, 3) := by decide +kernel
theorem dX7_takeVerb_121 : decode cX7_takeVerb 121 = .ok (.iload_n 1, 1) := by decide +kernel
theorem dX7_takeVerb_122 : decode cX7_takeVerb 122 = .ok (.iaload, 1) := by decide +kernel
theorem dX7_takeVerb_123 : decode cX7_takeVerb 123 = .ok (.iconst (-1), 1) := by decide +kernel
theorem dX7_takeVerb_124 : decode cX7_takeVerb 124 = .ok (.if_icmp .eq 7, 3) := by decide +kernel
theorem dX7_takeVerb_127 : decode cX7_takeVerb 127 = .ok (.iconst 1, 1) := by decide +kernel
theorem dX7_takeVerb_128 : decode cX7_takeVerb 128 = .ok (.goto 4, 3) := by decide +kernel
theorem dX7_takeVerb_131 : decode cX7_takeVerb 131 = .ok (.iconst 0, 1) := by decide +kernel
theorem dX7_takeVerb_132 : decode cX7_takeVerb 132 = .ok (.ireturn, 1) := by decide +kernel
theorem dX7_takeLine_0 : decode cX7_takeLine 0 = .ok (.aload_n 0, 1) := by decide +kernel
theorem dX7_takeLine_1 : decode cX7_takeLine 1 = .ok (.getfield 45, 3) := by decide +kernel
theorem dX7_takeLine_4 : decode cX7_takeLine 4 = .ok (.ifCond .lt 11, 3) := by decide +kernel
theorem dX7_takeLine_7 : decode cX7_takeLine 7 = .ok (.aload_n 0, 1) := by decide +kernel
theorem dX7_takeLine_8 : decode cX7_takeLine 8 = .ok (.getfield 45, 3) := by decide +kernel
theorem dX7_takeLine_11 : decode cX7_takeLine 11 = .ok (.iconst 5, 1) := by decide +kernel
theorem dX7_takeLine_12 : decode cX7_takeLine 12 = .ok (.if_icmp .le 9, 3) := by decide +kernel
theorem dX7_takeLine_15 : decode cX7_takeLine 15 = .ok (.aload_n 0, 1) := by decide +kernel
theorem dX7_takeLine_16 : decode cX7_takeLine 16 = .ok (.iconst 1, 1) := by decide +kernel
theorem dX7_takeLine_17 : decode cX7_takeLine 17 = .ok (.invokevirtual 65, 3) := by decide +kernel
theorem dX7_takeLine_20 : decode cX7_takeLine 20 = .ok (.ireturn, 1) := by decide +kernel
theorem dX7_takeLine_21 : decode cX7_takeLine 21 = .ok (.aload_n 0, 1) := by decide +kernel
theorem dX7_takeLine_22 : decode cX7_takeLine 22 = .ok (.getfield 30, 3) := by decide +kernel
theorem dX7_takeLine_25 : decode cX7_takeLine 25 = .ok (.getfield 94, 3) := by decide +kernel
theorem dX7_takeLine_28 : decode cX7_takeLine 28 = .ok (.bipush 60, 2) := by decide +kernel
theorem dX7_takeLine_30 : decode cX7_takeLine 30 = .ok (.if_icmp .lt 9, 3) := by decide +kernel
theorem dX7_takeLine_33 : decode cX7_takeLine 33 = .ok (.aload_n 0, 1) := by decide +kernel
theorem dX7_takeLine_34 : decode cX7_takeLine 34 = .ok (.iconst 4, 1) := by decide +kernel
theorem dX7_takeLine_35 : decode cX7_takeLine 35 = .ok (.invokevirtual 65, 3) := by decide +kernel
theorem dX7_takeLine_38 : decode cX7_takeLine 38 = .ok (.ireturn, 1) := by decide +kernel
theorem dX7_takeLine_39 : decode cX7_takeLine 39 = .ok (.aload_n 0, 1) := by decide +kernel
theorem dX7_takeLine_40 : decode cX7_takeLine 40 = .ok (.getfield 30, 3) := by decide +kernel
theorem dX7_takeLine_43 : decode cX7_takeLine 43 = .ok (.getfield 97, 3) := by decide +kernel
theorem dX7_takeLine_46 : decode cX7_takeLine 46 = .ok (.aload_n 0, 1) := by decide +kernel
theorem dX7_takeLine_47 : decode cX7_takeLine 47 = .ok (.getfield 30, 3) := by decide +kernel
theorem dX7_takeLine_50 : decode cX7_takeLine 50 = .ok (.getfield 94, 3) := by decide +kernel
theorem dX7_takeLine_53 : decode cX7_takeLine 53 = .ok (.aaload, 1) := by decide +kernel
theorem dX7_takeLine_54 : decode cX7_takeLine 54 = .ok (.astore_n 1, 1) := by decide +kernel
theorem dX7_takeLine_55 : decode cX7_takeLine 55 = .ok (.aload_n 1, 1) := by decide +kernel
theorem dX7_takeLine_56 : decode cX7_takeLine 56 = .ok (.aload_n 0, 1) := by decide +kernel
theorem dX7_takeLine_57 : decode cX7_takeLine 57 = .ok (.getfield 45, 3) := by decide +kernel
theorem dX7_takeLine_60 : decode cX7_takeLine 60 = .ok (.invokevirtual 101, 3) := by decide +kernel
theorem dX7_takeLine_63 : decode cX7_takeLine 63 = .ok (.aload_n 0, 1) := by decide +kernel
theorem dX7_takeLine_64 : decode cX7_takeLine 64 = .ok (.invokevirtual 42, 3) := by decide +kernel
theorem dX7_takeLine_67 : decode cX7_takeLine 67 = .ok (.aload_n 1, 1) := by decide +kernel
theorem dX7_takeLine_68 : decode cX7_takeLine 68 = .ok (.getfield 106, 3) := by decide +kernel
theorem dX7_takeLine_71 : decode cX7_takeLine 71 = .ok (.tableswitch 185 0 4 #[33, 66, 102, 127, 152], 33) := by decide +kernel
theorem dX7_takeLine_104 : decode cX7_takeLine 104 = .ok (.aload_n 0, 1) := by decide +kernel
theorem dX7_takeLine_105 : decode cX7_takeLine 105 = .ok (.aload_n 1, 1) := by decide +kernel
theorem dX7_takeLine_106 : decode cX7_takeLine 106 = .ok (.invokevirtual 109, 3) := by decide +kernel
theorem dX7_takeLine_109 : decode cX7_takeLine 109 = .ok (.ifCond .eq 23, 3) := by decide +kernel
theorem dX7_takeLine_112 : decode cX7_takeLine 112 = .ok (.aload_n 0, 1) := by decide +kernel
theorem dX7_takeLine_113 : decode cX7_takeLine 113 = .ok (.aload_n 1, 1) := by decide +kernel
theorem dX7_takeLine_114 : decode cX7_takeLine 114 = .ok (.invokevirtual 113, 3) := by decide +kernel
theorem dX7_takeLine_117 : decode cX7_takeLine 117 = .ok (.ifCond .eq 15, 3) := by decide +kernel
theorem dX7_takeLine_120 : decode cX7_takeLine 120 = .ok (.aload_n 0, 1) := by decide +kernel
theorem dX7_takeLine_121 : decode cX7_takeLine 121 = .ok (.aload_n 1, 1) := by decide +kernel
theorem dX7_takeLine_122 : decode cX7_takeLine 122 = .ok (.invokevirtual 116, 3) := by decide +kernel
theorem dX7_takeLine_125 : decode cX7_takeLine 125 = .ok (.ifCond .eq 7, 3) := by decide +kernel
theorem dX7_takeLine_128 : decode cX7_takeLine 128 = .ok (.iconst 1, 1) := by decide +kernel
theorem dX7_takeLine_129 : decode cX7_takeLine 129 = .ok (.goto 4, 3) := by decide +kernel
theorem dX7_takeLine_132 : decode cX7_takeLine 132 = .ok (.iconst 0, 1) := by decide +kernel
theorem dX7_takeLine_133 : decode cX7_takeLine 133 = .ok (.istore_n 2, 1) := by decide +kernel
theorem dX7_takeLine_134 : decode cX7_takeLine 134 = .ok (.goto 144, 3) := by decide +kernel
theorem dX7_takeLine_137 : decode cX7_takeLine 137 = .ok (.aload_n 0, 1) := by decide +kernel
theorem dX7_takeLine_138 : decode cX7_takeLine 138 = .ok (.aload_n 1, 1) := by decide +kernel
theorem dX7_takeLine_139 : decode cX7_takeLine 139 = .ok (.invokevirtual 109, 3) := by decide +kernel
theorem dX7_takeLine_142 : decode cX7_takeLine 142 = .ok (.ifCond .eq 26, 3) := by decide +kernel
theorem dX7_takeLine_145 : decode cX7_takeLine 145 = .ok (.aload_n 0, 1) := by decide +kernel
theorem dX7_takeLine_146 : decode cX7_takeLine 146 = .ok (.aload_n 1, 1) := by decide +kernel
theorem dX7_takeLine_147 : decode cX7_takeLine 147 = .ok (.invokevirtual 113, 3) := by decide +kernel
theorem dX7_takeLine_150 : decode cX7_takeLine 150 = .ok (.ifCond .eq 18, 3) := by decide +kernel
theorem dX7_takeLine_153 : decode cX7_takeLine 153 = .ok (.aload_n 0, 1) := by decide +kernel
theorem dX7_takeLine_154 : decode cX7_takeLine 154 = .ok (.aload_n 1, 1) := by decide +kernel
theorem dX7_takeLine_155 : decode cX7_takeLine 155 = .ok (.getfield 119, 3) := by decide +kernel
theorem dX7_takeLine_158 : decode cX7_takeLine 158 = .ok (.invokevirtual 122, 3) := by decide +kernel
theorem dX7_takeLine_161 : decode cX7_takeLine 161 = .ok (.ifCond .eq 7, 3) := by decide +kernel
theorem dX7_takeLine_164 : decode cX7_takeLine 164 = .ok (.iconst 1, 1) := by decide +kernel
theorem dX7_takeLine_165 : decode cX7_takeLine 165 = .ok (.goto 4, 3) := by decide +kernel
theorem dX7_takeLine_168 : decode cX7_takeLine 168 = .ok (.iconst 0, 1) := by decide +kernel
theorem dX7_takeLine_169 : decode cX7_takeLine 169 = .ok (.istore_n 2, 1) := by decide +kernel
theorem dX7_takeLine_170 : decode cX7_takeLine 170 = .ok (.goto 108, 3) := by decide +kernel
theorem dX7_takeLine_173 : decode cX7_takeLine 173 = .ok (.aload_n 0, 1) := by decide +kernel
theorem dX7_takeLine_174 : decode cX7_takeLine 174 = .ok (.aload_n 1, 1) := by decide +kernel
theorem dX7_takeLine_175 : decode cX7_takeLine 175 = .ok (.invokevirtual 116, 3) := by decide +kernel
theorem dX7_takeLine_178 : decode cX7_takeLine 178 = .ok (.ifCond .eq 15, 3) := by decide +kernel
theorem dX7_takeLine_181 : decode cX7_takeLine 181 = .ok (.aload_n 0, 1) := by decide +kernel
theorem dX7_takeLine_182 : decode cX7_takeLine 182 = .ok (.aload_n 1, 1) := by decide +kernel
theorem dX7_takeLine_183 : decode cX7_takeLine 183 = .ok (.invokevirtual 126, 3) := by decide +kernel
theorem dX7_takeLine_186 : decode cX7_takeLine 186 = .ok (.ifCond .eq 7, 3) := by decide +kernel
theorem dX7_takeLine_189 : decode cX7_takeLine 189 = .ok (.iconst 1, 1) := by decide +kernel
theorem dX7_takeLine_190 : decode cX7_takeLine 190 = .ok (.goto 4, 3) := by decide +kernel
theorem dX7_takeLine_193 : decode cX7_takeLine 193 = .ok (.iconst 0, 1) := by decide +kernel
theorem dX7_takeLine_194 : decode cX7_takeLine 194 = .ok (.istore_n 2, 1) := by decide +kernel
theorem dX7_takeLine_195 : decode cX7_takeLine 195 = .ok (.goto 83, 3) := by decide +kernel
theorem dX7_takeLine_198 : decode cX7_takeLine 198 = .ok (.aload_n 0, 1) := by decide +kernel
theorem dX7_takeLine_199 : decode cX7_takeLine 199 = .ok (.aload_n 1, 1) := by decide +kernel
theorem dX7_takeLine_200 : decode cX7_takeLine 200 = .ok (.invokevirtual 109, 3) := by decide +kernel
theorem dX7_takeLine_203 : decode cX7_takeLine 203 = .ok (.ifCond .eq 15, 3) := by decide +kernel
theorem dX7_takeLine_206 : decode cX7_takeLine 206 = .ok (.aload_n 0, 1) := by decide +kernel
theorem dX7_takeLine_207 : decode cX7_takeLine 207 = .ok (.aload_n 1, 1) := by decide +kernel
theorem dX7_takeLine_208 : decode cX7_takeLine 208 = .ok (.invokevirtual 129, 3) := by decide +kernel
theorem dX7_takeLine_211 : decode cX7_takeLine 211 = .ok (.ifCond .eq 7, 3) := by decide +kernel
theorem dX7_takeLine_214 : decode cX7_takeLine 214 = .ok (.iconst 1, 1) := by decide +kernel
theorem dX7_takeLine_215 : decode cX7_takeLine 215 = .ok (.goto 4, 3) := by decide +kernel
theorem dX7_takeLine_218 : decode cX7_takeLine 218 = .ok (.iconst 0, 1) := by decide +kernel
theorem dX7_takeLine_219 : decode cX7_takeLine 219 = .ok (.istore_n 2, 1) := by decide +kernel
theorem dX7_takeLine_220 : decode cX7_takeLine 220 = .ok (.goto 58, 3) := by decide +kernel
theorem dX7_takeLine_223 : decode cX7_takeLine 223 = .ok (.aload_n 0, 1) := by decide +kernel
theorem dX7_takeLine_224 : decode cX7_takeLine 224 = .ok (.aload_n 1, 1) := by decide +kernel
theorem dX7_takeLine_225 : decode cX7_takeLine 225 = .ok (.invokevirtual 132, 3) := by decide +kernel
theorem dX7_takeLine_228 : decode cX7_takeLine 228 = .ok (.ifCond .eq 23, 3) := by decide +kernel
theorem dX7_takeLine_231 : decode cX7_takeLine 231 = .ok (.aload_n 0, 1) := by decide +kernel
theorem dX7_takeLine_232 : decode cX7_takeLine 232 = .ok (.aload_n 1, 1) := by decide +kernel
theorem dX7_takeLine_233 : decode cX7_takeLine 233 = .ok (.invokevirtual 113, 3) := by decide +kernel
theorem dX7_takeLine_236 : decode cX7_takeLine 236 = .ok (.ifCond .eq 15, 3) := by decide +kernel
theorem dX7_takeLine_239 : decode cX7_takeLine 239 = .ok (.aload_n 0, 1) := by decide +kernel
theorem dX7_takeLine_240 : decode cX7_takeLine 240 = .ok (.aload_n 1, 1) := by decide +kernel
theorem dX7_takeLine_241 : decode cX7_takeLine 241 = .ok (.invokevirtual 135, 3) := by decide +kernel
theorem dX7_takeLine_244 : decode cX7_takeLine 244 = .ok (.ifCond .eq 7, 3) := by decide +kernel
theorem dX7_takeLine_247 : decode cX7_takeLine 247 = .ok (.iconst 1, 1) := by decide +kernel
theorem dX7_takeLine_248 : decode cX7_takeLine 248 = .ok (.goto 4, 3) := by decide +kernel
theorem dX7_takeLine_251 : decode cX7_takeLine 251 = .ok (.iconst 0, 1) := by decide +kernel
theorem dX7_takeLine_252 : decode cX7_takeLine 252 = .ok (.istore_n 2, 1) := by decide +kernel
theorem dX7_takeLine_253 : decode cX7_takeLine 253 = .ok (.goto 25, 3) := by decide +kernel
theorem dX7_takeLine_256 : decode cX7_takeLine 256 = .ok (.aload_n 0, 1) := by decide +kernel
theorem dX7_takeLine_257 : decode cX7_takeLine 257 = .ok (.aload_n 1, 1) := by decide +kernel
theorem dX7_takeLine_258 : decode cX7_takeLine 258 = .ok (.invokevirtual 132, 3) := by decide +kernel
theorem dX7_takeLine_261 : decode cX7_takeLine 261 = .ok (.ifCond .eq 15, 3) := by decide +kernel
theorem dX7_takeLine_264 : decode cX7_takeLine 264 = .ok (.aload_n 0, 1) := by decide +kernel
theorem dX7_takeLine_265 : decode cX7_takeLine 265 = .ok (.aload_n 1, 1) := by decide +kernel
theorem dX7_takeLine_266 : decode cX7_takeLine 266 = .ok (.invokevirtual 113, 3) := by decide +kernel
theorem dX7_takeLine_269 : decode cX7_takeLine 269 = .ok (.ifCond .eq 7, 3) := by decide +kernel
theorem dX7_takeLine_272 : decode cX7_takeLine 272 = .ok (.iconst 1, 1) := by decide +kernel
theorem dX7_takeLine_273 : decode cX7_takeLine 273 = .ok (.goto 4, 3) := by decide +kernel
theorem dX7_takeLine_276 : decode cX7_takeLine 276 = .ok (.iconst 0, 1) := by decide +kernel
theorem dX7_takeLine_277 : decode cX7_takeLine 277 = .ok (.istore_n 2, 1) := by decide +kernel
theorem dX7_takeLine_278 : decode cX7_takeLine 278 = .ok (.aload_n 0, 1) := by decide +kernel
theorem dX7_takeLine_279 : decode cX7_takeLine 279 = .ok (.getfield 30, 3) := by decide +kernel
theorem dX7_takeLine_282 : decode cX7_takeLine 282 = .ok (.dup, 1) := by decide +kernel
theorem dX7_takeLine_283 : decode cX7_takeLine 283 = .ok (.getfield 94, 3) := by decide +kernel
theorem dX7_takeLine_286 : decode cX7_takeLine 286 = .ok (.iconst 1, 1) := by decide +kernel
theorem dX7_takeLine_287 : decode cX7_takeLine 287 = .ok (.iadd, 1) := by decide +kernel
theorem dX7_takeLine_288 : decode cX7_takeLine 288 = .ok (.putfield 94, 3) := by decide +kernel
theorem dX7_takeLine_291 : decode cX7_takeLine 291 = .ok (.iload_n 2, 1) := by decide +kernel
theorem dX7_takeLine_292 : decode cX7_takeLine 292 = .ok (.ireturn, 1) := by decide +kernel
theorem dX7_takeWhere_0 : decode cX7_takeWhere 0 = .ok (.aload_n 0, 1) := by decide +kernel
theorem dX7_takeWhere_1 : decode cX7_takeWhere 1 = .ok (.getfield 45, 3) := by decide +kernel
theorem dX7_takeWhere_4 : decode cX7_takeWhere 4 = .ok (.bipush 14, 2) := by decide +kernel
theorem dX7_takeWhere_6 : decode cX7_takeWhere 6 = .ok (.if_icmp .ne 9, 3) := by decide +kernel
theorem dX7_takeWhere_9 : decode cX7_takeWhere 9 = .ok (.aload_n 0, 1) := by decide +kernel
theorem dX7_takeWhere_10 : decode cX7_takeWhere 10 = .ok (.invokevirtual 42, 3) := by decide +kernel
theorem dX7_takeWhere_13 : decode cX7_takeWhere 13 = .ok (.iconst 1, 1) := by decide +kernel
theorem dX7_takeWhere_14 : decode cX7_takeWhere 14 = .ok (.ireturn, 1) := by decide +kernel
theorem dX7_takeWhere_15 : decode cX7_takeWhere 15 = .ok (.aload_n 1, 1) := by decide +kernel
theorem dX7_takeWhere_16 : decode cX7_takeWhere 16 = .ok (.aload_n 0, 1) := by decide +kernel
theorem dX7_takeWhere_17 : decode cX7_takeWhere 17 = .ok (.bipush 15, 2) := by decide +kernel
theorem dX7_takeWhere_19 : decode cX7_takeWhere 19 = .ok (.invokevirtual 58, 3) := by decide +kernel
theorem dX7_takeWhere_22 : decode cX7_takeWhere 22 = .ok (.ifCond .eq 24, 3) := by decide +kernel
theorem dX7_takeWhere_25 : decode cX7_takeWhere 25 = .ok (.aload_n 0, 1) := by decide +kernel
theorem dX7_takeWhere_26 : decode cX7_takeWhere 26 = .ok (.aload_n 0, 1) := by decide +kernel
theorem dX7_takeWhere_27 : decode cX7_takeWhere 27 = .ok (.getfield 30, 3) := by decide +kernel
theorem dX7_takeWhere_30 : decode cX7_takeWhere 30 = .ok (.getfield 68, 3) := by decide +kernel
theorem dX7_takeWhere_33 : decode cX7_takeWhere 33 = .ok (.aload_n 0, 1) := by decide +kernel
theorem dX7_takeWhere_34 : decode cX7_takeWhere 34 = .ok (.getfield 30, 3) := by decide +kernel
theorem dX7_takeWhere_37 : decode cX7_takeWhere 37 = .ok (.getfield 62, 3) := by decide +kernel
theorem dX7_takeWhere_40 : decode cX7_takeWhere 40 = .ok (.invokevirtual 90, 3) := by decide +kernel
theorem dX7_takeWhere_43 : decode cX7_takeWhere 43 = .ok (.goto 4, 3) := by decide +kernel
theorem dX7_takeWhere_46 : decode cX7_takeWhere 46 = .ok (.iconst (-1), 1) := by decide +kernel
theorem dX7_takeWhere_47 : decode cX7_takeWhere 47 = .ok (.putfield 138, 3) := by decide +kernel
theorem dX7_takeWhere_50 : decode cX7_takeWhere 50 = .ok (.aload_n 1, 1) := by decide +kernel
theorem dX7_takeWhere_51 : decode cX7_takeWhere 51 = .ok (.getfield 138, 3) := by decide +kernel
theorem dX7_takeWhere_54 : decode cX7_takeWhere 54 = .ok (.iconst (-1), 1) := by decide +kernel
theorem dX7_takeWhere_55 : decode cX7_takeWhere 55 = .ok (.if_icmp .eq 7, 3) := by decide +kernel
theorem dX7_takeWhere_58 : decode cX7_takeWhere 58 = .ok (.iconst 1, 1) := by decide +kernel
theorem dX7_takeWhere_59 : decode cX7_takeWhere 59 = .ok (.goto 4, 3) := by decide +kernel
theorem dX7_takeWhere_62 : decode cX7_takeWhere 62 = .ok (.iconst 0, 1) := by decide +kernel
theorem dX7_takeWhere_63 : decode cX7_takeWhere 63 = .ok (.ireturn, 1) := by decide +kernel
theorem dX7_takeOwner_0 : decode cX7_takeOwner 0 = .ok (.aload_n 1, 1) := by decide +kernel
theorem dX7_takeOwner_1 : decode cX7_takeOwner 1 = .ok (.aload_n 0, 1) := by decide +kernel
theorem dX7_takeOwner_2 : decode cX7_takeOwner 2 = .ok (.aload_n 0, 1) := by decide +kernel
theorem dX7_takeOwner_3 : decode cX7_takeOwner 3 = .ok (.getfield 30, 3) := by decide +kernel
theorem dX7_takeOwner_6 : decode cX7_takeOwner 6 = .ok (.getfield 83, 3) := by decide +kernel
theorem dX7_takeOwner_9 : decode cX7_takeOwner 9 = .ok (.aload_n 0, 1) := by decide +kernel
theorem dX7_takeOwner_10 : decode cX7_takeOwner 10 = .ok (.getfield 30, 3) := by decide +kernel
theorem dX7_takeOwner_13 : decode cX7_takeOwner 13 = .ok (.getfield 80, 3) := by decide +kernel
theorem dX7_takeOwner_16 : decode cX7_takeOwner 16 = .ok (.invokevirtual 90, 3) := by decide +kernel
theorem dX7_takeOwner_19 : decode cX7_takeOwner 19 = .ok (.putfield 138, 3) := by decide +kernel
theorem dX7_takeOwner_22 : decode cX7_takeOwner 22 = .ok (.aload_n 1, 1) := by decide +kernel
theorem dX7_takeOwner_23 : decode cX7_takeOwner 23 = .ok (.getfield 138, 3) := by decide +kernel
theorem dX7_takeOwner_26 : decode cX7_takeOwner 26 = .ok (.iconst (-1), 1) := by decide +kernel
theorem dX7_takeOwner_27 : decode cX7_takeOwner 27 = .ok (.if_icmp .eq 7, 3) := by decide +kernel
theorem dX7_takeOwner_30 : decode cX7_takeOwner 30 = .ok (.iconst 1, 1) := by decide +kernel
theorem dX7_takeOwner_31 : decode cX7_takeOwner 31 = .ok (.goto 4, 3) := by decide +kernel
theorem dX7_takeOwner_34 : decode cX7_takeOwner 34 = .ok (.iconst 0, 1) := by decide +kernel
theorem dX7_takeOwner_35 : decode cX7_takeOwner 35 = .ok (.ireturn, 1) := by decide +kernel
theorem dX7_takeSlot_0 : decode cX7_takeSlot 0 = .ok (.aload_n 1, 1) := by decide +kernel
theorem dX7_takeSlot_1 : decode cX7_takeSlot 1 = .ok (.aload_n 0, 1) := by decide +kernel
theorem dX7_takeSlot_2 : decode cX7_takeSlot 2 = .ok (.bipush 11, 2) := by decide +kernel
theorem dX7_takeSlot_4 : decode cX7_takeSlot 4 = .ok (.invokevirtual 58, 3) := by decide +kernel
theorem dX7_takeSlot_7 : decode cX7_takeSlot 7 = .ok (.ifCond .eq 11, 3) := by decide +kernel
theorem dX7_takeSlot_10 : decode cX7_takeSlot 10 = .ok (.aload_n 0, 1) := by decide +kernel
theorem dX7_takeSlot_11 : decode cX7_takeSlot 11 = .ok (.iconst 5, 1) := by decide +kernel
theorem dX7_takeSlot_12 : decode cX7_takeSlot 12 = .ok (.invokevirtual 141, 3) := by decide +kernel
theorem dX7_takeSlot_15 : decode cX7_takeSlot 15 = .ok (.goto 4, 3) := by decide +kernel
theorem dX7_takeSlot_18 : decode cX7_takeSlot 18 = .ok (.iconst (-1), 1) := by decide +kernel
theorem dX7_takeSlot_19 : decode cX7_takeSlot 19 = .ok (.putfield 145, 3) := by decide +kernel
theorem dX7_takeSlot_22 : decode cX7_takeSlot 22 = .ok (.aload_n 1, 1) := by decide +kernel
theorem dX7_takeSlot_23 : decode cX7_takeSlot 23 = .ok (.getfield 145, 3) := by decide +kernel
theorem dX7_takeSlot_26 : decode cX7_takeSlot 26 = .ok (.iconst (-1), 1) := by decide +kernel
theorem dX7_takeSlot_27 : decode cX7_takeSlot 27 = .ok (.if_icmp .eq 12, 3) := by decide +kernel
theorem dX7_takeSlot_30 : decode cX7_takeSlot 30 = .ok (.aload_n 0, 1) := by decide +kernel
theorem dX7_takeSlot_31 : decode cX7_takeSlot 31 = .ok (.getfield 45, 3) := by decide +kernel
theorem dX7_takeSlot_34 : decode cX7_takeSlot 34 = .ok (.bipush 16, 2) := by decide +kernel
theorem dX7_takeSlot_36 : decode cX7_takeSlot 36 = .ok (.if_icmp .eq 17, 3) := by decide +kernel
theorem dX7_takeSlot_39 : decode cX7_takeSlot 39 = .ok (.aload_n 1, 1) := by decide +kernel
theorem dX7_takeSlot_40 : decode cX7_takeSlot 40 = .ok (.getfield 145, 3) := by decide +kernel
theorem dX7_takeSlot_43 : decode cX7_takeSlot 43 = .ok (.iconst (-1), 1) := by decide +kernel
theorem dX7_takeSlot_44 : decode cX7_takeSlot 44 = .ok (.if_icmp .eq 7, 3) := by decide +kernel
theorem dX7_takeSlot_47 : decode cX7_takeSlot 47 = .ok (.iconst 1, 1) := by decide +kernel
theorem dX7_takeSlot_48 : decode cX7_takeSlot 48 = .ok (.goto 4, 3) := by decide +kernel
theorem dX7_takeSlot_51 : decode cX7_takeSlot 51 = .ok (.iconst 0, 1) := by decide +kernel
theorem dX7_takeSlot_52 : decode cX7_takeSlot 52 = .ok (.ireturn, 1) := by decide +kernel
theorem dX7_takeSlot_53 : decode cX7_takeSlot 53 = .ok (.aload_n 0, 1) := by decide +kernel
theorem dX7_takeSlot_54 : decode cX7_takeSlot 54 = .ok (.invokevirtual 42, 3) := by decide +kernel
theorem dX7_takeSlot_57 : decode cX7_takeSlot 57 = .ok (.aload_n 1, 1) := by decide +kernel
theorem dX7_takeSlot_58 : decode cX7_takeSlot 58 = .ok (.aload_n 0, 1) := by decide +kernel
theorem dX7_takeSlot_59 : decode cX7_takeSlot 59 = .ok (.bipush 6, 2) := by decide +kernel
theorem dX7_takeSlot_61 : decode cX7_takeSlot 61 = .ok (.invokevirtual 141, 3) := by decide +kernel
theorem dX7_takeSlot_64 : decode cX7_takeSlot 64 = .ok (.putfield 148, 3) := by decide +kernel
theorem dX7_takeSlot_67 : decode cX7_takeSlot 67 = .ok (.aload_n 1, 1) := by decide +kernel
theorem dX7_takeSlot_68 : decode cX7_takeSlot 68 = .ok (.getfield 148, 3) := by decide +kernel
theorem dX7_takeSlot_71 : decode cX7_takeSlot 71 = .ok (.iconst (-1), 1) := by decide +kernel
theorem dX7_takeSlot_72 : decode cX7_takeSlot 72 = .ok (.if_icmp .eq 7, 3) := by decide +kernel
theorem dX7_takeSlot_75 : decode cX7_takeSlot 75 = .ok (.iconst 1, 1) := by decide +kernel
theorem dX7_takeSlot_76 : decode cX7_takeSlot 76 = .ok (.goto 4, 3) := by decide +kernel
theorem dX7_takeSlot_79 : decode cX7_takeSlot 79 = .ok (.iconst 0, 1) := by decide +kernel
theorem dX7_takeSlot_80 : decode cX7_takeSlot 80 = .ok (.ireturn, 1) := by decide +kernel
theorem dX7_takeChange_0 : decode cX7_takeChange 0 = .ok (.aload_n 0, 1) := by decide +kernel
theorem dX7_takeChange_1 : decode cX7_takeChange 1 = .ok (.invokevirtual 151, 3) := by decide +kernel
theorem dX7_takeChange_4 : decode cX7_takeChange 4 = .ok (.ifCond .eq 38, 3) := by decide +kernel
theorem dX7_takeChange_7 : decode cX7_takeChange 7 = .ok (.aload_n 0, 1) := by decide +kernel
theorem dX7_takeChange_8 : decode cX7_takeChange 8 = .ok (.aload_n 1, 1) := by decide +kernel
theorem dX7_takeChange_9 : decode cX7_takeChange 9 = .ok (.getfield 119, 3) := by decide +kernel
theorem dX7_takeChange_12 : decode cX7_takeChange 12 = .ok (.invokevirtual 122, 3) := by decide +kernel
theorem dX7_takeChange_15 : decode cX7_takeChange 15 = .ok (.ifCond .eq 27, 3) := by decide +kernel
theorem dX7_takeChange_18 : decode cX7_takeChange 18 = .ok (.aload_n 0, 1) := by decide +kernel
theorem dX7_takeChange_19 : decode cX7_takeChange 19 = .ok (.bipush 9, 2) := by decide +kernel
theorem dX7_takeChange_21 : decode cX7_takeChange 21 = .ok (.invokevirtual 58, 3) := by decide +kernel
theorem dX7_takeChange_24 : decode cX7_takeChange 24 = .ok (.ifCond .eq 18, 3) := by decide +kernel
theorem dX7_takeChange_27 : decode cX7_takeChange 27 = .ok (.aload_n 0, 1) := by decide +kernel
theorem dX7_takeChange_28 : decode cX7_takeChange 28 = .ok (.aload_n 1, 1) := by decide +kernel
theorem dX7_takeChange_29 : decode cX7_takeChange 29 = .ok (.getfield 154, 3) := by decide +kernel
theorem dX7_takeChange_32 : decode cX7_takeChange 32 = .ok (.invokevirtual 122, 3) := by decide +kernel
theorem dX7_takeChange_35 : decode cX7_takeChange 35 = .ok (.ifCond .eq 7, 3) := by decide +kernel
theorem dX7_takeChange_38 : decode cX7_takeChange 38 = .ok (.iconst 1, 1) := by decide +kernel
theorem dX7_takeChange_39 : decode cX7_takeChange 39 = .ok (.goto 4, 3) := by decide +kernel
theorem dX7_takeChange_42 : decode cX7_takeChange 42 = .ok (.iconst 0, 1) := by decide +kernel
theorem dX7_takeChange_43 : decode cX7_takeChange 43 = .ok (.ireturn, 1) := by decide +kernel
theorem dX7_takeLast_0 : decode cX7_takeLast 0 = .ok (.aload_n 1, 1) := by decide +kernel
theorem dX7_takeLast_1 : decode cX7_takeLast 1 = .ok (.aload_n 0, 1) := by decide +kernel
theorem dX7_takeLast_2 : decode cX7_takeLast 2 = .ok (.getfield 45, 3) := by decide +kernel
theorem dX7_takeLast_5 : decode cX7_takeLast 5 = .ok (.bipush 10, 2) := by decide +kernel
theorem dX7_takeLast_7 : decode cX7_takeLast 7 = .ok (.if_icmp .ne 7, 3) := by decide +kernel
theorem dX7_takeLast_10 : decode cX7_takeLast 10 = .ok (.iconst 1, 1) := by decide +kernel
theorem dX7_takeLast_11 : decode cX7_takeLast 11 = .ok (.goto 4, 3) := by decide +kernel
theorem dX7_takeLast_14 : decode cX7_takeLast 14 = .ok (.iconst 0, 1) := by decide +kernel
theorem dX7_takeLast_15 : decode cX7_takeLast 15 = .ok (.putfield 157, 3) := by decide +kernel
theorem dX7_takeLast_18 : decode cX7_takeLast 18 = .ok (.aload_n 1, 1) := by decide +kernel
theorem dX7_takeLast_19 : decode cX7_takeLast 19 = .ok (.getfield 157, 3) := by decide +kernel
theorem dX7_takeLast_22 : decode cX7_takeLast 22 = .ok (.ifCond .eq 7, 3) := by decide +kernel
theorem dX7_takeLast_25 : decode cX7_takeLast 25 = .ok (.aload_n 0, 1) := by decide +kernel
theorem dX7_takeLast_26 : decode cX7_takeLast 26 = .ok (.invokevirtual 42, 3) := by decide +kernel
theorem dX7_takeLast_29 : decode cX7_takeLast 29 = .ok (.iconst 1, 1) := by decide +kernel
theorem dX7_takeLast_30 : decode cX7_takeLast 30 = .ok (.ireturn, 1) := by decide +kernel
theorem dX7_takeCompound_0 : decode cX7_takeCompound 0 = .ok (.aload_n 1, 1) := by decide +kernel
theorem dX7_takeCompound_1 : decode cX7_takeCompound 1 = .ok (.aload_n 0, 1) := by decide +kernel
theorem dX7_takeCompound_2 : decode cX7_takeCompound 2 = .ok (.bipush 11, 2) := by decide +kernel
theorem dX7_takeCompound_4 : decode cX7_takeCompound 4 = .ok (.invokevirtual 58, 3) := by decide +kernel
theorem dX7_takeCompound_7 : decode cX7_takeCompound 7 = .ok (.ifCond .eq 11, 3) := by decide +kernel
theorem dX7_takeCompound_10 : decode cX7_takeCompound 10 = .ok (.aload_n 0, 1) := by decide +kernel
theorem dX7_takeCompound_11 : decode cX7_takeCompound 11 = .ok (.iconst 5, 1) := by decide +kernel
theorem dX7_takeCompound_12 : decode cX7_takeCompound 12 = .ok (.invokevirtual 141, 3) := by decide +kernel
theorem dX7_takeCompound_15 : decode cX7_takeCompound 15 = .ok (.goto 4, 3) := by decide +kernel
theorem dX7_takeCompound_18 : decode cX7_takeCompound 18 = .ok (.iconst (-1), 1) := by decide +kernel
theorem dX7_takeCompound_19 : decode cX7_takeCompound 19 = .ok (.putfield 145, 3) := by decide +kernel
theorem dX7_takeCompound_22 : decode cX7_takeCompound 22 = .ok (.aload_n 1, 1) := by decide +kernel
theorem dX7_takeCompound_23 : decode cX7_takeCompound 23 = .ok (.getfield 145, 3) := by decide +kernel
theorem dX7_takeCompound_26 : decode cX7_takeCompound 26 = .ok (.iconst (-1), 1) := by decide +kernel
theorem dX7_takeCompound_27 : decode cX7_takeCompound 27 = .ok (.if_icmp .eq 16, 3) := by decide +kernel
theorem dX7_takeCompound_30 : decode cX7_takeCompound 30 = .ok (.aload_n 0, 1) := by decide +kernel
theorem dX7_takeCompound_31 : decode cX7_takeCompound 31 = .ok (.bipush 12, 2) := by decide +kernel
theorem dX7_takeCompound_33 : decode cX7_takeCompound 33 = .ok (.invokevirtual 58, 3) := by decide +kernel
theorem dX7_takeCompound_36 : decode cX7_takeCompound 36 = .ok (.ifCond .eq 7, 3) := by decide +kernel
theorem dX7_takeCompound_39 : decode cX7_takeCompound 39 = .ok (.iconst 1, 1) := by decide +kernel
theorem dX7_takeCompound_40 : decode cX7_takeCompound 40 = .ok (.goto 4, 3) := by decide +kernel
theorem dX7_takeCompound_43 : decode cX7_takeCompound 43 = .ok (.iconst 0, 1) := by decide +kernel
theorem dX7_takeCompound_44 : decode cX7_takeCompound 44 = .ok (.istore_n 2, 1) := by decide +kernel
theorem dX7_takeCompound_45 : decode cX7_takeCompound 45 = .ok (.aload_n 1, 1) := by decide +kernel
theorem dX7_takeCompound_46 : decode cX7_takeCompound 46 = .ok (.iload_n 2, 1) := by decide +kernel
theorem dX7_takeCompound_47 : decode cX7_takeCompound 47 = .ok (.ifCond .eq 24, 3) := by decide +kernel
theorem dX7_takeCompound_50 : decode cX7_takeCompound 50 = .ok (.aload_n 0, 1) := by decide +kernel
theorem dX7_takeCompound_51 : decode cX7_takeCompound 51 = .ok (.aload_n 0, 1) := by decide +kernel
theorem dX7_takeCompound_52 : decode cX7_takeCompound 52 = .ok (.getfield 30, 3) := by decide +kernel
theorem dX7_takeCompound_55 : decode cX7_takeCompound 55 = .ok (.getfield 83, 3) := by decide +kernel
theorem dX7_takeCompound_58 : decode cX7_takeCompound 58 = .ok (.aload_n 0, 1) := by decide +kernel
theorem dX7_takeCompound_59 : decode cX7_takeCompound 59 = .ok (.getfield 30, 3) := by decide +kernel
theorem dX7_takeCompound_62 : decode cX7_takeCompound 62 = .ok (.getfield 80, 3) := by decide +kernel
theorem dX7_takeCompound_65 : decode cX7_takeCompound 65 = .ok (.invokevirtual 90, 3) := by decide +kernel
theorem dX7_takeCompound_68 : decode cX7_takeCompound 68 = .ok (.goto 4, 3) := by decide +kernel
theorem dX7_takeCompound_71 : decode cX7_takeCompound 71 = .ok (.iconst (-1), 1) := by decide +kernel
theorem dX7_takeCompound_72 : decode cX7_takeCompound 72 = .ok (.putfield 161, 3) := by decide +kernel
theorem dX7_takeCompound_75 : decode cX7_takeCompound 75 = .ok (.aload_n 1, 1) := by decide +kernel
theorem dX7_takeCompound_76 : decode cX7_takeCompound 76 = .ok (.aload_n 1, 1) := by decide +kernel
theorem dX7_takeCompound_77 : decode cX7_takeCompound 77 = .ok (.getfield 161, 3) := by decide +kernel
theorem dX7_takeCompound_80 : decode cX7_takeCompound 80 = .ok (.iconst (-1), 1) := by decide +kernel
theorem dX7_takeCompound_81 : decode cX7_takeCompound 81 = .ok (.if_icmp .eq 20, 3) := by decide +kernel
theorem dX7_takeCompound_84 : decode cX7_takeCompound 84 = .ok (.aload_n 0, 1) := by decide +kernel
theorem dX7_takeCompound_85 : decode cX7_takeCompound 85 = .ok (.bipush 11, 2) := by decide +kernel
theorem dX7_takeCompound_87 : decode cX7_takeCompound 87 = .ok (.invokevirtual 58, 3) := by decide +kernel
theorem dX7_takeCompound_90 : decode cX7_takeCompound 90 = .ok (.ifCond .eq 11, 3) := by decide +kernel
theorem dX7_takeCompound_93 : decode cX7_takeCompound 93 = .ok (.aload_n 0, 1) := by decide +kernel
theorem dX7_takeCompound_94 : decode cX7_takeCompound 94 = .ok (.iconst 5, 1) := by decide +kernel
theorem dX7_takeCompound_95 : decode cX7_takeCompound 95 = .ok (.invokevirtual 141, 3) := by decide +kernel
