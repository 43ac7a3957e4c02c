theorem dX13_look_16 : decode cX13_look 16 = .ok (.aload_n 0, 1) := by decide +kernel
theorem dX13_look_17 : decode cX13_look 17 = .ok (.getfield 310, 3) := by decide +kernel
theorem dX13_look_20 : decode cX13_look 20 = .ok (.bipush 60, 2) := by decide +kernel
theorem dX13_look_22 : decode cX13_look 22 = .ok (.if_icmp .ge 33, 3) := by decide +kernel
theorem dX13_look_25 : decode cX13_look 25 = .ok (.aload_n 0, 1) := by decide +kernel
theorem dX13_look_26 : decode cX13_look 26 = .ok (.getfield 265, 3) := by decide +kernel
theorem dX13_look_29 : decode cX13_look 29 = .ok (.aload_n 0, 1) := by decide +kernel
theorem dX13_look_30 : decode cX13_look 30 = .ok (.getfield 310, 3) := by decide +kernel
theorem dX13_look_33 : decode cX13_look 33 = .ok (.iload_n 1, 1) := by decide +kernel
theorem dX13_look_34 : decode cX13_look 34 = .ok (.iastore, 1) := by decide +kernel
theorem dX13_look_35 : decode cX13_look 35 = .ok (.aload_n 0, 1) := by decide +kernel
theorem dX13_look_36 : decode cX13_look 36 = .ok (.getfield 268, 3) := by decide +kernel
theorem dX13_look_39 : decode cX13_look 39 = .ok (.aload_n 0, 1) := by decide +kernel
theorem dX13_look_40 : decode cX13_look 40 = .ok (.getfield 310, 3) := by decide +kernel
theorem dX13_look_43 : decode cX13_look 43 = .ok (.iload_n 2, 1) := by decide +kernel
theorem dX13_look_44 : decode cX13_look 44 = .ok (.iastore, 1) := by decide +kernel
theorem dX13_look_45 : decode cX13_look 45 = .ok (.aload_n 0, 1) := by decide +kernel
theorem dX13_look_46 : decode cX13_look 46 = .ok (.getfield 271, 3) := by decide +kernel
theorem dX13_look_49 : decode cX13_look 49 = .ok (.aload_n 0, 1) := by decide +kernel
theorem dX13_look_50 : decode cX13_look 50 = .ok (.getfield 310, 3) := by decide +kernel
theorem dX13_look_53 : decode cX13_look 53 = .ok (.iload_n 3, 1) := by decide +kernel
theorem dX13_look_54 : decode cX13_look 54 = .ok (.iastore, 1) := by decide +kernel
theorem dX13_look_55 : decode cX13_look 55 = .ok (.aload_n 0, 1) := by decide +kernel
theorem dX13_look_56 : decode cX13_look 56 = .ok (.dup, 1) := by decide +kernel
theorem dX13_look_57 : decode cX13_look 57 = .ok (.getfield 310, 3) := by decide +kernel
theorem dX13_look_60 : decode cX13_look 60 = .ok (.iconst 1, 1) := by decide +kernel
theorem dX13_look_61 : decode cX13_look 61 = .ok (.iadd, 1) := by decide +kernel
theorem dX13_look_62 : decode cX13_look 62 = .ok (.putfield 310, 3) := by decide +kernel
theorem dX13_look_65 : decode cX13_look 65 = .ok (.return_, 1) := by decide +kernel
theorem dX13_isUsed_0 : decode cX13_isUsed 0 = .ok (.iconst 0, 1) := by decide +kernel
theorem dX13_isUsed_1 : decode cX13_isUsed 1 = .ok (.istore_n 2, 1) := by decide +kernel
theorem dX13_isUsed_2 : decode cX13_isUsed 2 = .ok (.iload_n 2, 1) := by decide +kernel
theorem dX13_isUsed_3 : decode cX13_isUsed 3 = .ok (.aload_n 0, 1) := by decide +kernel
theorem dX13_isUsed_4 : decode cX13_isUsed 4 = .ok (.getfield 344, 3) := by decide +kernel
theorem dX13_isUsed_7 : decode cX13_isUsed 7 = .ok (.if_icmp .ge 45, 3) := by decide +kernel
theorem dX13_isUsed_10 : decode cX13_isUsed 10 = .ok (.iconst 0, 1) := by decide +kernel
theorem dX13_isUsed_11 : decode cX13_isUsed 11 = .ok (.istore_n 3, 1) := by decide +kernel
theorem dX13_isUsed_12 : decode cX13_isUsed 12 = .ok (.iload_n 3, 1) := by decide +kernel
theorem dX13_isUsed_13 : decode cX13_isUsed 13 = .ok (.aload_n 0, 1) := by decide +kernel
theorem dX13_isUsed_14 : decode cX13_isUsed 14 = .ok (.getfield 241, 3) := by decide +kernel
theorem dX13_isUsed_17 : decode cX13_isUsed 17 = .ok (.iload_n 2, 1) := by decide +kernel
theorem dX13_isUsed_18 : decode cX13_isUsed 18 = .ok (.iaload, 1) := by decide +kernel
theorem dX13_isUsed_19 : decode cX13_isUsed 19 = .ok (.if_icmp .ge 27, 3) := by decide +kernel
theorem dX13_isUsed_22 : decode cX13_isUsed 22 = .ok (.aload_n 0, 1) := by decide +kernel
theorem dX13_isUsed_23 : decode cX13_isUsed 23 = .ok (.getfield 238, 3) := by decide +kernel
theorem dX13_isUsed_26 : decode cX13_isUsed 26 = .ok (.sipush 140, 3) := by decide +kernel
theorem dX13_isUsed_29 : decode cX13_isUsed 29 = .ok (.iload_n 2, 1) := by decide +kernel
theorem dX13_isUsed_30 : decode cX13_isUsed 30 = .ok (.imul, 1) := by decide +kernel
theorem dX13_isUsed_31 : decode cX13_isUsed 31 = .ok (.iload_n 3, 1) := by decide +kernel
theorem dX13_isUsed_32 : decode cX13_isUsed 32 = .ok (.iadd, 1) := by decide +kernel
theorem dX13_isUsed_33 : decode cX13_isUsed 33 = .ok (.iaload, 1) := by decide +kernel
theorem dX13_isUsed_34 : decode cX13_isUsed 34 = .ok (.iload_n 1, 1) := by decide +kernel
theorem dX13_isUsed_35 : decode cX13_isUsed 35 = .ok (.if_icmp .ne 5, 3) := by decide +kernel
theorem dX13_isUsed_38 : decode cX13_isUsed 38 = .ok (.iconst 1, 1) := by decide +kernel
theorem dX13_isUsed_39 : decode cX13_isUsed 39 = .ok (.ireturn, 1) := by decide +kernel
theorem dX13_isUsed_40 : decode cX13_isUsed 40 = .ok (.iinc 3 1, 3) := by decide +kernel
theorem dX13_isUsed_43 : decode cX13_isUsed 43 = .ok (.goto (-31), 3) := by decide +kernel
theorem dX13_isUsed_46 : decode cX13_isUsed 46 = .ok (.iinc 2 1, 3) := by decide +kernel
theorem dX13_isUsed_49 : decode cX13_isUsed 49 = .ok (.goto (-47), 3) := by decide +kernel
theorem dX13_isUsed_52 : decode cX13_isUsed 52 = .ok (.iconst 0, 1) := by decide +kernel
theorem dX13_isUsed_53 : decode cX13_isUsed 53 = .ok (.ireturn, 1) := by decide +kernel
theorem dX13_isAsked_0 : decode cX13_isAsked 0 = .ok (.aload_n 0, 1) := by decide +kernel
theorem dX13_isAsked_1 : decode cX13_isAsked 1 = .ok (.getfield 331, 3) := by decide +kernel
theorem dX13_isAsked_4 : decode cX13_isAsked 4 = .ok (.aload_n 0, 1) := by decide +kernel
theorem dX13_isAsked_5 : decode cX13_isAsked 5 = .ok (.getfield 389, 3) := by decide +kernel
theorem dX13_isAsked_8 : decode cX13_isAsked 8 = .ok (.if_icmp .eq 5, 3) := by decide +kernel
theorem dX13_isAsked_11 : decode cX13_isAsked 11 = .ok (.iconst 0, 1) := by decide +kernel
theorem dX13_isAsked_12 : decode cX13_isAsked 12 = .ok (.ireturn, 1) := by decide +kernel
theorem dX13_isAsked_13 : decode cX13_isAsked 13 = .ok (.iconst 0, 1) := by decide +kernel
theorem dX13_isAsked_14 : decode cX13_isAsked 14 = .ok (.istore_n 1, 1) := by decide +kernel
theorem dX13_isAsked_15 : decode cX13_isAsked 15 = .ok (.iload_n 1, 1) := by decide +kernel
theorem dX13_isAsked_16 : decode cX13_isAsked 16 = .ok (.aload_n 0, 1) := by decide +kernel
theorem dX13_isAsked_17 : decode cX13_isAsked 17 = .ok (.getfield 331, 3) := by decide +kernel
theorem dX13_isAsked_20 : decode cX13_isAsked 20 = .ok (.if_icmp .ge 26, 3) := by decide +kernel
theorem dX13_isAsked_23 : decode cX13_isAsked 23 = .ok (.aload_n 0, 1) := by decide +kernel
theorem dX13_isAsked_24 : decode cX13_isAsked 24 = .ok (.getfield 213, 3) := by decide +kernel
theorem dX13_isAsked_27 : decode cX13_isAsked 27 = .ok (.iload_n 1, 1) := by decide +kernel
theorem dX13_isAsked_28 : decode cX13_isAsked 28 = .ok (.baload, 1) := by decide +kernel
theorem dX13_isAsked_29 : decode cX13_isAsked 29 = .ok (.aload_n 0, 1) := by decide +kernel
theorem dX13_isAsked_30 : decode cX13_isAsked 30 = .ok (.getfield 262, 3) := by decide +kernel
theorem dX13_isAsked_33 : decode cX13_isAsked 33 = .ok (.iload_n 1, 1) := by decide +kernel
theorem dX13_isAsked_34 : decode cX13_isAsked 34 = .ok (.baload, 1) := by decide +kernel
theorem dX13_isAsked_35 : decode cX13_isAsked 35 = .ok (.if_icmp .eq 5, 3) := by decide +kernel
theorem dX13_isAsked_38 : decode cX13_isAsked 38 = .ok (.iconst 0, 1) := by decide +kernel
theorem dX13_isAsked_39 : decode cX13_isAsked 39 = .ok (.ireturn, 1) := by decide +kernel
theorem dX13_isAsked_40 : decode cX13_isAsked 40 = .ok (.iinc 1 1, 3) := by decide +kernel
theorem dX13_isAsked_43 : decode cX13_isAsked 43 = .ok (.goto (-28), 3) := by decide +kernel
theorem dX13_isAsked_46 : decode cX13_isAsked 46 = .ok (.iconst 1, 1) := by decide +kernel
theorem dX13_isAsked_47 : decode cX13_isAsked 47 = .ok (.ireturn, 1) := by decide +kernel
theorem dX13_attempt_0 : decode cX13_attempt 0 = .ok (.iload 7, 2) := by decide +kernel
theorem dX13_attempt_2 : decode cX13_attempt 2 = .ok (.iconst 2, 1) := by decide +kernel
theorem dX13_attempt_3 : decode cX13_attempt 3 = .ok (.if_icmp .gt 30, 3) := by decide +kernel
theorem dX13_attempt_6 : decode cX13_attempt 6 = .ok (.iload 6, 2) := by decide +kernel
theorem dX13_attempt_8 : decode cX13_attempt 8 = .ok (.aload_n 0, 1) := by decide +kernel
theorem dX13_attempt_9 : decode cX13_attempt 9 = .ok (.getfield 413, 3) := by decide +kernel
theorem dX13_attempt_12 : decode cX13_attempt 12 = .ok (.if_icmp .gt 21, 3) := by decide +kernel
theorem dX13_attempt_15 : decode cX13_attempt 15 = .ok (.iload 6, 2) := by decide +kernel
theorem dX13_attempt_17 : decode cX13_attempt 17 = .ok (.aload_n 0, 1) := by decide +kernel
theorem dX13_attempt_18 : decode cX13_attempt 18 = .ok (.getfield 413, 3) := by decide +kernel
theorem dX13_attempt_21 : decode cX13_attempt 21 = .ok (.if_icmp .ne 13, 3) := by decide +kernel
theorem dX13_attempt_24 : decode cX13_attempt 24 = .ok (.iload 7, 2) := by decide +kernel
theorem dX13_attempt_26 : decode cX13_attempt 26 = .ok (.aload_n 0, 1) := by decide +kernel
theorem dX13_attempt_27 : decode cX13_attempt 27 = .ok (.getfield 416, 3) := by decide +kernel
theorem dX13_attempt_30 : decode cX13_attempt 30 = .ok (.if_icmp .lt 4, 3) := by decide +kernel
theorem dX13_attempt_33 : decode cX13_attempt 33 = .ok (.return_, 1) := by decide +kernel
theorem dX13_attempt_34 : decode cX13_attempt 34 = .ok (.aload_n 0, 1) := by decide +kernel
theorem dX13_attempt_35 : decode cX13_attempt 35 = .ok (.iload_n 1, 1) := by decide +kernel
theorem dX13_attempt_36 : decode cX13_attempt 36 = .ok (.iload_n 2, 1) := by decide +kernel
theorem dX13_attempt_37 : decode cX13_attempt 37 = .ok (.iload_n 3, 1) := by decide +kernel
theorem dX13_attempt_38 : decode cX13_attempt 38 = .ok (.iload 4, 2) := by decide +kernel
theorem dX13_attempt_40 : decode cX13_attempt 40 = .ok (.iload 5, 2) := by decide +kernel
theorem dX13_attempt_42 : decode cX13_attempt 42 = .ok (.invokevirtual 360, 3) := by decide +kernel
theorem dX13_attempt_45 : decode cX13_attempt 45 = .ok (.ifCond .eq 10, 3) := by decide +kernel
theorem dX13_attempt_48 : decode cX13_attempt 48 = .ok (.aload_n 0, 1) := by decide +kernel
theorem dX13_attempt_49 : decode cX13_attempt 49 = .ok (.invokevirtual 419, 3) := by decide +kernel
theorem dX13_attempt_52 : decode cX13_attempt 52 = .ok (.ifCond .ne 4, 3) := by decide +kernel
theorem dX13_attempt_55 : decode cX13_attempt 55 = .ok (.return_, 1) := by decide +kernel
theorem dX13_attempt_56 : decode cX13_attempt 56 = .ok (.aload_n 0, 1) := by decide +kernel
theorem dX13_attempt_57 : decode cX13_attempt 57 = .ok (.iload 6, 2) := by decide +kernel
theorem dX13_attempt_59 : decode cX13_attempt 59 = .ok (.putfield 413, 3) := by decide +kernel
theorem dX13_attempt_62 : decode cX13_attempt 62 = .ok (.aload_n 0, 1) := by decide +kernel
theorem dX13_attempt_63 : decode cX13_attempt 63 = .ok (.iload 7, 2) := by decide +kernel
theorem dX13_attempt_65 : decode cX13_attempt 65 = .ok (.putfield 416, 3) := by decide +kernel
theorem dX13_attempt_68 : decode cX13_attempt 68 = .ok (.aload_n 0, 1) := by decide +kernel
theorem dX13_attempt_69 : decode cX13_attempt 69 = .ok (.iload_n 2, 1) := by decide +kernel
theorem dX13_attempt_70 : decode cX13_attempt 70 = .ok (.putfield 422, 3) := by decide +kernel
theorem dX13_attempt_73 : decode cX13_attempt 73 = .ok (.aload_n 0, 1) := by decide +kernel
theorem dX13_attempt_74 : decode cX13_attempt 74 = .ok (.iload_n 3, 1) := by decide +kernel
theorem dX13_attempt_75 : decode cX13_attempt 75 = .ok (.putfield 425, 3) := by decide +kernel
theorem dX13_attempt_78 : decode cX13_attempt 78 = .ok (.aload_n 0, 1) := by decide +kernel
theorem dX13_attempt_79 : decode cX13_attempt 79 = .ok (.iload 4, 2) := by decide +kernel
theorem dX13_attempt_81 : decode cX13_attempt 81 = .ok (.putfield 428, 3) := by decide +kernel
theorem dX13_attempt_84 : decode cX13_attempt 84 = .ok (.aload_n 0, 1) := by decide +kernel
theorem dX13_attempt_85 : decode cX13_attempt 85 = .ok (.iload 5, 2) := by decide +kernel
theorem dX13_attempt_87 : decode cX13_attempt 87 = .ok (.putfield 431, 3) := by decide +kernel
theorem dX13_attempt_90 : decode cX13_attempt 90 = .ok (.return_, 1) := by decide +kernel
theorem dX13_withSounds_0 : decode cX13_withSounds 0 = .ok (.aload_n 0, 1) := by decide +kernel
theorem dX13_withSounds_1 : decode cX13_withSounds 1 = .ok (.iload_n 1, 1) := by decide +kernel
theorem dX13_withSounds_2 : decode cX13_withSounds 2 = .ok (.iload_n 2, 1) := by decide +kernel
theorem dX13_withSounds_3 : decode cX13_withSounds 3 = .ok (.iload_n 3, 1) := by decide +kernel
theorem dX13_withSounds_4 : decode cX13_withSounds 4 = .ok (.iconst (-1), 1) := by decide +kernel
theorem dX13_withSounds_5 : decode cX13_withSounds 5 = .ok (.iconst (-1), 1) := by decide +kernel
theorem dX13_withSounds_6 : decode cX13_withSounds 6 = .ok (.iload 4, 2) := by decide +kernel
theorem dX13_withSounds_8 : decode cX13_withSounds 8 = .ok (.iload 5, 2) := by decide +kernel
theorem dX13_withSounds_10 : decode cX13_withSounds 10 = .ok (.invokevirtual 434, 3) := by decide +kernel
theorem dX13_withSounds_13 : decode cX13_withSounds 13 = .ok (.iconst 0, 1) := by decide +kernel
theorem dX13_withSounds_14 : decode cX13_withSounds 14 = .ok (.istore 6, 2) := by decide +kernel
theorem dX13_withSounds_16 : decode cX13_withSounds 16 = .ok (.iload 6, 2) := by decide +kernel
theorem dX13_withSounds_18 : decode cX13_withSounds 18 = .ok (.aload_n 0, 1) := by decide +kernel
theorem dX13_withSounds_19 : decode cX13_withSounds 19 = .ok (.getfield 10, 3) := by decide +kernel
theorem dX13_withSounds_22 : decode cX13_withSounds 22 = .ok (.iconst 0, 1) := by decide +kernel
theorem dX13_withSounds_23 : decode cX13_withSounds 23 = .ok (.iaload, 1) := by decide +kernel
theorem dX13_withSounds_24 : decode cX13_withSounds 24 = .ok (.if_icmp .ge 100, 3) := by decide +kernel
theorem dX13_withSounds_27 : decode cX13_withSounds 27 = .ok (.aload_n 0, 1) := by decide +kernel
theorem dX13_withSounds_28 : decode cX13_withSounds 28 = .ok (.getfield 29, 3) := by decide +kernel
theorem dX13_withSounds_31 : decode cX13_withSounds 31 = .ok (.iload 6, 2) := by decide +kernel
theorem dX13_withSounds_33 : decode cX13_withSounds 33 = .ok (.iaload, 1) := by decide +kernel
theorem dX13_withSounds_34 : decode cX13_withSounds 34 = .ok (.iconst 2, 1) := by decide +kernel
theorem dX13_withSounds_35 : decode cX13_withSounds 35 = .ok (.if_icmp .ne 83, 3) := by decide +kernel
theorem dX13_withSounds_38 : decode cX13_withSounds 38 = .ok (.iload 5, 2) := by decide +kernel
theorem dX13_withSounds_40 : decode cX13_withSounds 40 = .ok (.iconst 1, 1) := by decide +kernel
theorem dX13_withSounds_41 : decode cX13_withSounds 41 = .ok (.if_icmp .le 6, 3) := by decide +kernel
theorem dX13_withSounds_44 : decode cX13_withSounds 44 = .ok (.goto 74, 3) := by decide +kernel
theorem dX13_withSounds_47 : decode cX13_withSounds 47 = .ok (.aload_n 0, 1) := by decide +kernel
theorem dX13_withSounds_48 : decode cX13_withSounds 48 = .ok (.iload_n 1, 1) := by decide +kernel
theorem dX13_withSounds_49 : decode cX13_withSounds 49 = .ok (.iload_n 2, 1) := by decide +kernel
theorem dX13_withSounds_50 : decode cX13_withSounds 50 = .ok (.iload_n 3, 1) := by decide +kernel
theorem dX13_withSounds_51 : decode cX13_withSounds 51 = .ok (.iload 6, 2) := by decide +kernel
theorem dX13_withSounds_53 : decode cX13_withSounds 53 = .ok (.iconst (-1), 1) := by decide +kernel
theorem dX13_withSounds_54 : decode cX13_withSounds 54 = .ok (.iload 4, 2) := by decide +kernel
theorem dX13_withSounds_56 : decode cX13_withSounds 56 = .ok (.iconst 2, 1) := by decide +kernel
theorem dX13_withSounds_57 : decode cX13_withSounds 57 = .ok (.iadd, 1) := by decide +kernel
theorem dX13_withSounds_58 : decode cX13_withSounds 58 = .ok (.iload 5, 2) := by decide +kernel
theorem dX13_withSounds_60 : decode cX13_withSounds 60 = .ok (.iconst 1, 1) := by decide +kernel
theorem dX13_withSounds_61 : decode cX13_withSounds 61 = .ok (.iadd, 1) := by decide +kernel
theorem dX13_withSounds_62 : decode cX13_withSounds 62 = .ok (.invokevirtual 434, 3) := by decide +kernel
theorem dX13_withSounds_65 : decode cX13_withSounds 65 = .ok (.iload 6, 2) := by decide +kernel
theorem dX13_withSounds_67 : decode cX13_withSounds 67 = .ok (.iconst 1, 1) := by decide +kernel
theorem dX13_withSounds_68 : decode cX13_withSounds 68 = .ok (.iadd, 1) := by decide +kernel
theorem dX13_withSounds_69 : decode cX13_withSounds 69 = .ok (.istore 7, 2) := by decide +kernel
theorem dX13_withSounds_71 : decode cX13_withSounds 71 = .ok (.iload 7, 2) := by decide +kernel
theorem dX13_withSounds_73 : decode cX13_withSounds 73 = .ok (.aload_n 0, 1) := by decide +kernel
theorem dX13_withSounds_74 : decode cX13_withSounds 74 = .ok (.getfield 10, 3) := by decide +kernel
theorem dX13_withSounds_77 : decode cX13_withSounds 77 = .ok (.iconst 0, 1) := by decide +kernel
theorem dX13_withSounds_78 : decode cX13_withSounds 78 = .ok (.iaload, 1) := by decide +kernel
theorem dX13_withSounds_79 : decode cX13_withSounds 79 = .ok (.if_icmp .ge 39, 3) := by decide +kernel
theorem dX13_withSounds_82 : decode cX13_withSounds 82 = .ok (.aload_n 0, 1) := by decide +kernel
theorem dX13_withSounds_83 : decode cX13_withSounds 83 = .ok (.getfield 29, 3) := by decide +kernel
theorem dX13_withSounds_86 : decode cX13_withSounds 86 = .ok (.iload 7, 2) := by decide +kernel
theorem dX13_withSounds_88 : decode cX13_withSounds 88 = .ok (.iaload, 1) := by decide +kernel
theorem dX13_withSounds_89 : decode cX13_withSounds 89 = .ok (.iconst 2, 1) := by decide +kernel
theorem dX13_withSounds_90 : decode cX13_withSounds 90 = .ok (.if_icmp .ne 22, 3) := by decide +kernel
theorem dX13_withSounds_93 : decode cX13_withSounds 93 = .ok (.aload_n 0, 1) := by decide +kernel
theorem dX13_withSounds_94 : decode cX13_withSounds 94 = .ok (.iload_n 1, 1) := by decide +kernel
theorem dX13_withSounds_95 : decode cX13_withSounds 95 = .ok (.iload_n 2, 1) := by decide +kernel
theorem dX13_withSounds_96 : decode cX13_withSounds 96 = .ok (.iload_n 3, 1) := by decide +kernel
theorem dX13_withSounds_97 : decode cX13_withSounds 97 = .ok (.iload 6, 2) := by decide +kernel
theorem dX13_withSounds_99 : decode cX13_withSounds 99 = .ok (.iload 7, 2) := by decide +kernel
theorem dX13_withSounds_101 : decode cX13_withSounds 101 = .ok (.iload 4, 2) := by decide +kernel
theorem dX13_withSounds_103 : decode cX13_withSounds 103 = .ok (.iconst 4, 1) := by decide +kernel
theorem dX13_withSounds_104 : decode cX13_withSounds 104 = .ok (.iadd, 1) := by decide +kernel
theorem dX13_withSounds_105 : decode cX13_withSounds 105 = .ok (.iload 5, 2) := by decide +kernel
theorem dX13_withSounds_107 : decode cX13_withSounds 107 = .ok (.iconst 2, 1) := by decide +kernel
theorem dX13_withSounds_108 : decode cX13_withSounds 108 = .ok (.iadd, 1) := by decide +kernel
theorem dX13_withSounds_109 : decode cX13_withSounds 109 = .ok (.invokevirtual 434, 3) := by decide +kernel
theorem dX13_withSounds_112 : decode cX13_withSounds 112 = .ok (.iinc 7 1, 3) := by decide +kernel
theorem dX13_withSounds_115 : decode cX13_withSounds 115 = .ok (.goto (-44), 3) := by decide +kernel
theorem dX13_withSounds_118 : decode cX13_withSounds 118 = .ok (.iinc 6 1, 3) := by decide +kernel
theorem dX13_withSounds_121 : decode cX13_withSounds 121 = .ok (.goto (-105), 3) := by decide +kernel
theorem dX13_withSounds_124 : decode cX13_withSounds 124 = .ok (.return_, 1) := by decide +kernel
theorem dX13_withEndings_0 : decode cX13_withEndings 0 = .ok (.iload_n 3, 1) := by decide +kernel
theorem dX13_withEndings_1 : decode cX13_withEndings 1 = .ok (.iconst (-1), 1) := by decide +kernel
theorem dX13_withEndings_2 : decode cX13_withEndings 2 = .ok (.if_icmp .eq 14, 3) := by decide +kernel
theorem dX13_withEndings_5 : decode cX13_withEndings 5 = .ok (.aload_n 0, 1) := by decide +kernel
theorem dX13_withEndings_6 : decode cX13_withEndings 6 = .ok (.iload_n 1, 1) := by decide +kernel
theorem dX13_withEndings_7 : decode cX13_withEndings 7 = .ok (.iload_n 2, 1) := by decide +kernel
theorem dX13_withEndings_8 : decode cX13_withEndings 8 = .ok (.iload_n 3, 1) := by decide +kernel
theorem dX13_withEndings_9 : decode cX13_withEndings 9 = .ok (.iload 4, 2) := by decide +kernel
theorem dX13_withEndings_11 : decode cX13_withEndings 11 = .ok (.iload 5, 2) := by decide +kernel
theorem dX13_withEndings_13 : decode cX13_withEndings 13 = .ok (.invokevirtual 438, 3) := by decide +kernel
theorem dX13_withEndings_16 : decode cX13_withEndings 16 = .ok (.iload 5, 2) := by decide +kernel
theorem dX13_withEndings_18 : decode cX13_withEndings 18 = .ok (.iconst 1, 1) := by decide +kernel
theorem dX13_withEndings_19 : decode cX13_withEndings 19 = .ok (.if_icmp .le 4, 3) := by decide +kernel
theorem dX13_withEndings_22 : decode cX13_withEndings 22 = .ok (.return_, 1) := by decide +kernel
theorem dX13_withEndings_23 : decode cX13_withEndings 23 = .ok (.iconst 0, 1) := by decide +kernel
theorem dX13_withEndings_24 : decode cX13_withEndings 24 = .ok (.istore 6, 2) := by decide +kernel
theorem dX13_withEndings_26 : decode cX13_withEndings 26 = .ok (.iload 6, 2) := by decide +kernel
theorem dX13_withEndings_28 : decode cX13_withEndings 28 = .ok (.aload_n 0, 1) := by decide +kernel
theorem dX13_withEndings_29 : decode cX13_withEndings 29 = .ok (.getfield 10, 3) := by decide +kernel
theorem dX13_withEndings_32 : decode cX13_withEndings 32 = .ok (.iconst 0, 1) := by decide +kernel
theorem dX13_withEndings_33 : decode cX13_withEndings 33 = .ok (.iaload, 1) := by decide +kernel
theorem dX13_withEndings_34 : decode cX13_withEndings 34 = .ok (.if_icmp .ge 42, 3) := by decide +kernel
theorem dX13_withEndings_37 : decode cX13_withEndings 37 = .ok (.aload_n 0, 1) := by decide +kernel
theorem dX13_withEndings_38 : decode cX13_withEndings 38 = .ok (.getfield 29, 3) := by decide +kernel
theorem dX13_withEndings_41 : decode cX13_withEndings 41 = .ok (.iload 6, 2) := by decide +kernel
theorem dX13_withEndings_43 : decode cX13_withEndings 43 = .ok (.iaload, 1) := by decide +kernel
theorem dX13_withEndings_44 : decode cX13_withEndings 44 = .ok (.iconst 1, 1) := by decide +kernel
theorem dX13_withEndings_45 : decode cX13_withEndings 45 = .ok (.if_icmp .ne 25, 3) := by decide +kernel
theorem dX13_withEndings_48 : decode cX13_withEndings 48 = .ok (.iload 6, 2) := by decide +kernel
theorem dX13_withEndings_50 : decode cX13_withEndings 50 = .ok (.iload_n 3, 1) := by decide +kernel
theorem dX13_withEndings_51 : decode cX13_withEndings 51 = .ok (.if_icmp .eq 19, 3) := by decide +kernel
theorem dX13_withEndings_54 : decode cX13_withEndings 54 = .ok (.aload_n 0, 1) := by decide +kernel
theorem dX13_withEndings_55 : decode cX13_withEndings 55 = .ok (.iload_n 1, 1) := by decide +kernel
theorem dX13_withEndings_56 : decode cX13_withEndings 56 = .ok (.iload_n 2, 1) := by decide +kernel
theorem dX13_withEndings_57 : decode cX13_withEndings 57 = .ok (.iload 6, 2) := by decide +kernel
theorem dX13_withEndings_59 : decode cX13_withEndings 59 = .ok (.iload 4, 2) := by decide +kernel
theorem dX13_withEndings_61 : decode cX13_withEndings 61 = .ok (.iconst 3, 1) := by decide +kernel
theorem dX13_withEndings_62 : decode cX13_withEndings 62 = .ok (.iadd, 1) := by decide +kernel
theorem dX13_withEndings_63 : decode cX13_withEndings 63 = .ok (.iload 5, 2) := by decide +kernel
theorem dX13_withEndings_65 : decode cX13_withEndings 65 = .ok (.iconst 1, 1) := by decide +kernel
theorem dX13_withEndings_66 : decode cX13_withEndings 66 = .ok (.iadd, 1) := by decide +kernel
theorem dX13_withEndings_67 : decode cX13_withEndings 67 = .ok (.invokevirtual 438, 3) := by decide +kernel
theorem dX13_withEndings_70 : decode cX13_withEndings 70 = .ok (.iinc 6 1, 3) := by decide +kernel
theorem dX13_withEndings_73 : decode cX13_withEndings 73 = .ok (.goto (-47), 3) := by decide +kernel
theorem dX13_withEndings_76 : decode cX13_withEndings 76 = .ok (.aload_n 0, 1) := by decide +kernel
theorem dX13_withEndings_77 : decode cX13_withEndings 77 = .ok (.iload_n 1, 1) := by decide +kernel
theorem dX13_withEndings_78 : decode cX13_withEndings 78 = .ok (.iload_n 2, 1) := by decide +kernel
theorem dX13_withEndings_79 : decode cX13_withEndings 79 = .ok (.iconst (-1), 1) := by decide +kernel
theorem dX13_withEndings_80 : decode cX13_withEndings 80 = .ok (.iload 4, 2) := by decide +kernel
theorem dX13_withEndings_82 : decode cX13_withEndings 82 = .ok (.iconst 4, 1) := by decide +kernel
theorem dX13_withEndings_83 : decode cX13_withEndings 83 = .ok (.iadd, 1) := by decide +kernel
theorem dX13_withEndings_84 : decode cX13_withEndings 84 = .ok (.iload 5, 2) := by decide +kernel
theorem dX13_withEndings_86 : decode cX13_withEndings 86 = .ok (.iconst 1, 1) := by decide +kernel
theorem dX13_withEndings_87 : decode cX13_withEndings 87 = .ok (.iadd, 1) := by decide +kernel
theorem dX13_withEndings_88 : decode cX13_withEndings 88 = .ok (.invokevirtual 438, 3) := by decide +kernel
theorem dX13_withEndings_91 : decode cX13_withEndings 91 = .ok (.return_, 1) := by decide +kernel
theorem dX13_explain_0 : decode cX13_explain 0 = .ok (.aload_n 0, 1) := by decide +kernel
theorem dX13_explain_1 : decode cX13_explain 1 = .ok (.iconst 0, 1) := by decide +kernel
theorem dX13_explain_2 : decode cX13_explain 2 = .ok (.iload_n 1, 1) := by decide +kernel
theorem dX13_explain_3 : decode cX13_explain 3 = .ok (.iload_n 2, 1) := by decide +kernel
theorem dX13_explain_4 : decode cX13_explain 4 = .ok (.iload_n 3, 1) := by decide +kernel
theorem dX13_explain_5 : decode cX13_explain 5 = .ok (.invokevirtual 347, 3) := by decide +kernel
theorem dX13_explain_8 : decode cX13_explain 8 = .ok (.istore 4, 2) := by decide +kernel
theorem dX13_explain_10 : decode cX13_explain 10 = .ok (.aload_n 0, 1) := by decide +kernel
theorem dX13_explain_11 : decode cX13_explain 11 = .ok (.iconst 1, 1) := by decide +kernel
theorem dX13_explain_12 : decode cX13_explain 12 = .ok (.iload_n 1, 1) := by decide +kernel
theorem dX13_explain_13 : decode cX13_explain 13 = .ok (.iload_n 2, 1) := by decide +kernel
theorem dX13_explain_14 : decode cX13_explain 14 = .ok (.iload_n 3, 1) := by decide +kernel
theorem dX13_explain_15 : decode cX13_explain 15 = .ok (.invokevirtual 347, 3) := by decide +kernel
theorem dX13_explain_18 : decode cX13_explain 18 = .ok (.istore 5, 2) := by decide +kernel
theorem dX13_explain_20 : decode cX13_explain 20 = .ok (.aload_n 0, 1) := by decide +kernel
theorem dX13_explain_21 : decode cX13_explain 21 = .ok (.iconst 4, 1) := by decide +kernel
theorem dX13_explain_22 : decode cX13_explain 22 = .ok (.iload_n 1, 1) := by decide +kernel
theorem dX13_explain_23 : decode cX13_explain 23 = .ok (.iload_n 2, 1) := by decide +kernel
theorem dX13_explain_24 : decode cX13_explain 24 = .ok (.iload_n 3, 1) := by decide +kernel
theorem dX13_explain_25 : decode cX13_explain 25 = .ok (.invokevirtual 347, 3) := by decide +kernel
theorem dX13_explain_28 : decode cX13_explain 28 = .ok (.iconst (-1), 1) := by decide +kernel
theorem dX13_explain_29 : decode cX13_explain 29 = .ok (.if_icmp .ne 7, 3) := by decide +kernel
theorem dX13_explain_32 : decode cX13_explain 32 = .ok (.iconst 0, 1) := by decide +kernel
theorem dX13_explain_33 : decode cX13_explain 33 = .ok (.goto 4, 3) := by decide +kernel
theorem dX13_explain_36 : decode cX13_explain 36 = .ok (.iconst 1, 1) := by decide +kernel
theorem dX13_explain_37 : decode cX13_explain 37 = .ok (.istore 6, 2) := by decide +kernel
theorem dX13_explain_39 : decode cX13_explain 39 = .ok (.aload_n 0, 1) := by decide +kernel
theorem dX13_explain_40 : decode cX13_explain 40 = .ok (.sipush 1000, 3) := by decide +kernel
theorem dX13_explain_43 : decode cX13_explain 43 = .ok (.putfield 413, 3) := by decide +kernel
theorem dX13_explain_46 : decode cX13_explain 46 = .ok (.aload_n 0, 1) := by decide +kernel
theorem dX13_explain_47 : decode cX13_explain 47 = .ok (.bipush 9, 2) := by decide +kernel
theorem dX13_explain_49 : decode cX13_explain 49 = .ok (.putfield 416, 3) := by decide +kernel
theorem dX13_explain_52 : decode cX13_explain 52 = .ok (.aload_n 0, 1) := by decide +kernel
theorem dX13_explain_53 : decode cX13_explain 53 = .ok (.iload_n 1, 1) := by decide +kernel
theorem dX13_explain_54 : decode cX13_explain 54 = .ok (.iload 4, 2) := by decide +kernel
theorem dX13_explain_56 : decode cX13_explain 56 = .ok (.iload 5, 2) := by decide +kernel
theorem dX13_explain_58 : decode cX13_explain 58 = .ok (.iconst 2, 1) := by decide +kernel
theorem dX13_explain_59 : decode cX13_explain 59 = .ok (.iload 6, 2) := by decide +kernel
theorem dX13_explain_61 : decode cX13_explain 61 = .ok (.imul, 1) := by decide +kernel
theorem dX13_explain_62 : decode cX13_explain 62 = .ok (.iload 6, 2) := by decide +kernel
theorem dX13_explain_64 : decode cX13_explain 64 = .ok (.invokevirtual 442, 3) := by decide +kernel
theorem dX13_explain_67 : decode cX13_explain 67 = .ok (.iload 4, 2) := by decide +kernel
theorem dX13_explain_69 : decode cX13_explain 69 = .ok (.iconst (-1), 1) := by decide +kernel
theorem dX13_explain_70 : decode cX13_explain 70 = .ok (.if_icmp .eq 21, 3) := by decide +kernel
theorem dX13_explain_73 : decode cX13_explain 73 = .ok (.aload_n 0, 1) := by decide +kernel
theorem dX13_explain_74 : decode cX13_explain 74 = .ok (.iload_n 1, 1) := by decide +kernel
theorem dX13_explain_75 : decode cX13_explain 75 = .ok (.iconst (-1), 1) := by decide +kernel
theorem dX13_explain_76 : decode cX13_explain 76 = .ok (.iload 5, 2) := by decide +kernel
theorem dX13_explain_78 : decode cX13_explain 78 = .ok (.iconst 2, 1) := by decide +kernel
theorem dX13_explain_79 : decode cX13_explain 79 = .ok (.iload 6, 2) := by decide +kernel
theorem dX13_explain_81 : decode cX13_explain 81 = .ok (.imul, 1) := by decide +kernel
theorem dX13_explain_82 : decode cX13_explain 82 = .ok (.iconst 2, 1) := by decide +kernel
theorem dX13_explain_83 : decode cX13_explain 83 = .ok (.iadd, 1) := by decide +kernel
theorem dX13_explain_84 : decode cX13_explain 84 = .ok (.iload 6, 2) := by decide +kernel
theorem dX13_explain_86 : decode cX13_explain 86 = .ok (.iconst 1, 1) := by decide +kernel
theorem dX13_explain_87 : decode cX13_explain 87 = .ok (.iadd, 1) := by decide +kernel
theorem dX13_explain_88 : decode cX13_explain 88 = .ok (.invokevirtual 442, 3) := by decide +kernel
theorem dX13_explain_91 : decode cX13_explain 91 = .ok (.iconst 0, 1) := by decide +kernel
theorem dX13_explain_92 : decode cX13_explain 92 = .ok (.istore 7, 2) := by decide +kernel
theorem dX13_explain_94 : decode cX13_explain 94 = .ok (.iload 7, 2) := by decide +kernel
theorem dX13_explain_96 : decode cX13_explain 96 = .ok (.aload_n 0, 1) := by decide +kernel
theorem dX13_explain_97 : decode cX13_explain 97 = .ok (.getfield 10, 3) := by decide +kernel
theorem dX13_explain_100 : decode cX13_explain 100 = .ok (.iconst 0, 1) := by decide +kernel
theorem dX13_explain_101 : decode cX13_explain 101 = .ok (.iaload, 1) := by decide +kernel
theorem dX13_explain_102 : decode cX13_explain 102 = .ok (.if_icmp .ge 45, 3) := by decide +kernel
theorem dX13_explain_105 : decode cX13_explain 105 = .ok (.aload_n 0, 1) := by decide +kernel
theorem dX13_explain_106 : decode cX13_explain 106 = .ok (.getfield 29, 3) := by decide +kernel
theorem dX13_explain_109 : decode cX13_explain 109 = .ok (.iload 7, 2) := by decide +kernel
theorem dX13_explain_111 : decode cX13_explain 111 = .ok (.iaload, 1) := by decide +kernel
theorem dX13_explain_112 : decode cX13_explain 112 = .ok (.ifCond .ne 29, 3) := by decide +kernel
theorem dX13_explain_115 : decode cX13_explain 115 = .ok (.iload 7, 2) := by decide +kernel
theorem dX13_explain_117 : decode cX13_explain 117 = .ok (.iload 4, 2) := by decide +kernel
theorem dX13_explain_119 : decode cX13_explain 119 = .ok (.if_icmp .eq 22, 3) := by decide +kernel
theorem dX13_explain_122 : decode cX13_explain 122 = .ok (.aload_n 0, 1) := by decide +kernel
theorem dX13_explain_123 : decode cX13_explain 123 = .ok (.iload_n 1, 1) := by decide +kernel
theorem dX13_explain_124 : decode cX13_explain 124 = .ok (.iload 7, 2) := by decide +kernel
theorem dX13_explain_126 : decode cX13_explain 126 = .ok (.iload 5, 2) := by decide +kernel
theorem dX13_explain_128 : decode cX13_explain 128 = .ok (.iconst 2, 1) := by decide +kernel
theorem dX13_explain_129 : decode cX13_explain 129 = .ok (.iload 6, 2) := by decide +kernel
theorem dX13_explain_131 : decode cX13_explain 131 = .ok (.imul, 1) := by decide +kernel
theorem dX13_explain_132 : decode cX13_explain 132 = .ok (.iconst 3, 1) := by decide +kernel
theorem dX13_explain_133 : decode cX13_explain 133 = .ok (.iadd, 1) := by decide +kernel
theorem dX13_explain_134 : decode cX13_explain 134 = .ok (.iload 6, 2) := by decide +kernel
theorem dX13_explain_136 : decode cX13_explain 136 = .ok (.iconst 1, 1) := by decide +kernel
theorem dX13_explain_137 : decode cX13_explain 137 = .ok (.iadd, 1) := by decide +kernel
theorem dX13_explain_138 : decode cX13_explain 138 = .ok (.invokevirtual 442, 3) := by decide +kernel
theorem dX13_explain_141 : decode cX13_explain 141 = .ok (.iinc 7 1, 3) := by decide +kernel
theorem dX13_explain_144 : decode cX13_explain 144 = .ok (.goto (-50), 3) := by decide +kernel
theorem dX13_explain_147 : decode cX13_explain 147 = .ok (.return_, 1) := by decide +kernel
theorem dX13_noteChange_0 : decode cX13_noteChange 0 = .ok (.aload_n 0, 1) := by decide +kernel
theorem dX13_noteChange_1 : decode cX13_noteChange 1 = .ok (.getfield 283, 3) := by decide +kernel
theorem dX13_noteChange_4 : decode cX13_noteChange 4 = .ok (.aload_n 0, 1) := by decide +kernel
theorem dX13_noteChange_5 : decode cX13_noteChange 5 = .ok (.getfield 445, 3) := by decide +kernel
theorem dX13_noteChange_8 : decode cX13_noteChange 8 = .ok (.iload_n 1, 1) := by decide +kernel
theorem dX13_noteChange_9 : decode cX13_noteChange 9 = .ok (.iastore, 1) := by decide +kernel
theorem dX13_noteChange_10 : decode cX13_noteChange 10 = .ok (.aload_n 0, 1) := by decide +kernel
theorem dX13_noteChange_11 : decode cX13_noteChange 11 = .ok (.getfield 286, 3) := by decide +kernel
theorem dX13_noteChange_14 : decode cX13_noteChange 14 = .ok (.aload_n 0, 1) := by decide +kernel
theorem dX13_noteChange_15 : decode cX13_noteChange 15 = .ok (.getfield 445, 3) := by decide +kernel
theorem dX13_noteChange_18 : decode cX13_noteChange 18 = .ok (.iload_n 2, 1) := by decide +kernel
theorem dX13_noteChange_19 : decode cX13_noteChange 19 = .ok (.iastore, 1) := by decide +kernel
theorem dX13_noteChange_20 : decode cX13_noteChange 20 = .ok (.aload_n 0, 1) := by decide +kernel
theorem dX13_noteChange_21 : decode cX13_noteChange 21 = .ok (.getfield 289, 3) := by decide +kernel
theorem dX13_noteChange_24 : decode cX13_noteChange 24 = .ok (.aload_n 0, 1) := by decide +kernel
theorem dX13_noteChange_25 : decode cX13_noteChange 25 = .ok (.getfield 445, 3) := by decide +kernel
theorem dX13_noteChange_28 : decode cX13_noteChange 28 = .ok (.iload_n 3, 1) := by decide +kernel
theorem dX13_noteChange_29 : decode cX13_noteChange 29 = .ok (.iastore, 1) := by decide +kernel
theorem dX13_noteChange_30 : decode cX13_noteChange 30 = .ok (.aload_n 0, 1) := by decide +kernel
theorem dX13_noteChange_31 : decode cX13_noteChange 31 = .ok (.dup, 1) := by decide +kernel
theorem dX13_noteChange_32 : decode cX13_noteChange 32 = .ok (.getfield 445, 3) := by decide +kernel
theorem dX13_noteChange_35 : decode cX13_noteChange 35 = .ok (.iconst 1, 1) := by decide +kernel
theorem dX13_noteChange_36 : decode cX13_noteChange 36 = .ok (.iadd, 1) := by decide +kernel
theorem dX13_noteChange_37 : decode cX13_noteChange 37 = .ok (.putfield 445, 3) := by decide +kernel
theorem dX13_noteChange_40 : decode cX13_noteChange 40 = .ok (.return_, 1) := by decide +kernel
theorem dX13_keepChanges_0 : decode cX13_keepChanges 0 = .ok (.aload_n 0, 1) := by decide +kernel
theorem dX13_keepChanges_1 : decode cX13_keepChanges 1 = .ok (.iconst 1, 1) := by decide +kernel
theorem dX13_keepChanges_2 : decode cX13_keepChanges 2 = .ok (.putfield 313, 3) := by decide +kernel
theorem dX13_keepChanges_5 : decode cX13_keepChanges 5 = .ok (.aload_n 0, 1) := by decide +kernel
theorem dX13_keepChanges_6 : decode cX13_keepChanges 6 = .ok (.iconst 0, 1) := by decide +kernel
theorem dX13_keepChanges_7 : decode cX13_keepChanges 7 = .ok (.putfield 445, 3) := by decide +kernel
theorem dX13_keepChanges_10 : decode cX13_keepChanges 10 = .ok (.aload_n 0, 1) := by decide +kernel
theorem dX13_keepChanges_11 : decode cX13_keepChanges 11 = .ok (.iconst 4, 1) := by decide +kernel
theorem dX13_keepChanges_12 : decode cX13_keepChanges 12 = .ok (.iload_n 1, 1) := by decide +kernel
theorem dX13_keepChanges_13 : decode cX13_keepChanges 13 = .ok (.iload_n 2, 1) := by decide +kernel
theorem dX13_keepChanges_14 : decode cX13_keepChanges 14 = .ok (.iload_n 3, 1) := by decide +kernel
theorem dX13_keepChanges_15 : decode cX13_keepChanges 15 = .ok (.invokevirtual 347, 3) := by decide +kernel
theorem dX13_keepChanges_18 : decode cX13_keepChanges 18 = .ok (.istore 4, 2) := by decide +kernel
theorem dX13_keepChanges_20 : decode cX13_keepChanges 20 = .ok (.aload_n 0, 1) := by decide +kernel
theorem dX13_keepChanges_21 : decode cX13_keepChanges 21 = .ok (.iconst 0, 1) := by decide +kernel
theorem dX13_keepChanges_22 : decode cX13_keepChanges 22 = .ok (.iload_n 1, 1) := by decide +kernel
theorem dX13_keepChanges_23 : decode cX13_keepChanges 23 = .ok (.iload_n 2, 1) := by decide +kernel
theorem dX13_keepChanges_24 : decode cX13_keepChanges 24 = .ok (.iload_n 3, 1) := by decide +kernel
theorem dX13_keepChanges_25 : decode cX13_keepChanges 25 = .ok (.invokevirtual 347, 3) := by decide +kernel
theorem dX13_keepChanges_28 : decode cX13_keepChanges 28 = .ok (.istore 5, 2) := by decide +kernel
theorem dX13_keepChanges_30 : decode cX13_keepChanges 30 = .ok (.aload_n 0, 1) := by decide +kernel
theorem dX13_keepChanges_31 : decode cX13_keepChanges 31 = .ok (.iconst 1, 1) := by decide +kernel
theorem dX13_keepChanges_32 : decode cX13_keepChanges 32 = .ok (.iload_n 1, 1) := by decide +kernel
theorem dX13_keepChanges_33 : decode cX13_keepChanges 33 = .ok (.iload_n 2, 1) := by decide +kernel
theorem dX13_keepChanges_34 : decode cX13_keepChanges 34 = .ok (.iload_n 3, 1) := by decide +kernel
theorem dX13_keepChanges_35 : decode cX13_keepChanges 35 = .ok (.invokevirtual 347, 3) := by decide +kernel
theorem dX13_keepChanges_38 : decode cX13_keepChanges 38 = .ok (.istore 6, 2) := by decide +kernel
theorem dX13_keepChanges_40 : decode cX13_keepChanges 40 = .ok (.iload 4, 2) := by decide +kernel
theorem dX13_keepChanges_42 : decode cX13_keepChanges 42 = .ok (.iconst (-1), 1) := by decide +kernel
theorem dX13_keepChanges_43 : decode cX13_keepChanges 43 = .ok (.if_icmp .eq 11, 3) := by decide +kernel
theorem dX13_keepChanges_46 : decode cX13_keepChanges 46 = .ok (.aload_n 0, 1) := by decide +kernel
theorem dX13_keepChanges_47 : decode cX13_keepChanges 47 = .ok (.iconst 0, 1) := by decide +kernel
theorem dX13_keepChanges_48 : decode cX13_keepChanges 48 = .ok (.iload 4, 2) := by decide +kernel
theorem dX13_keepChanges_50 : decode cX13_keepChanges 50 = .ok (.iconst (-1), 1) := by decide +kernel
theorem dX13_keepChanges_51 : decode cX13_keepChanges 51 = .ok (.invokevirtual 448, 3) := by decide +kernel
theorem dX13_keepChanges_54 : decode cX13_keepChanges 54 = .ok (.aload_n 0, 1) := by decide +kernel
theorem dX13_keepChanges_55 : decode cX13_keepChanges 55 = .ok (.getfield 422, 3) := by decide +kernel
theorem dX13_keepChanges_58 : decode cX13_keepChanges 58 = .ok (.iload 5, 2) := by decide +kernel
theorem dX13_keepChanges_60 : decode cX13_keepChanges 60 = .ok (.if_icmp .eq 39, 3) := by decide +kernel
theorem dX13_keepChanges_63 : decode cX13_keepChanges 63 = .ok (.aload_n 0, 1) := by decide +kernel
theorem dX13_keepChanges_64 : decode cX13_keepChanges 64 = .ok (.aload_n 0, 1) := by decide +kernel
theorem dX13_keepChanges_65 : decode cX13_keepChanges 65 = .ok (.getfield 422, 3) := by decide +kernel
theorem dX13_keepChanges_68 : decode cX13_keepChanges 68 = .ok (.iconst (-1), 1) := by decide +kernel
theorem dX13_keepChanges_69 : decode cX13_keepChanges 69 = .ok (.if_icmp .ne 7, 3) := by decide +kernel
theorem dX13_keepChanges_72 : decode cX13_keepChanges 72 = .ok (.iconst 1, 1) := by decide +kernel
theorem dX13_keepChanges_73 : decode cX13_keepChanges 73 = .ok (.goto 4, 3) := by decide +kernel
theorem dX13_keepChanges_76 : decode cX13_keepChanges 76 = .ok (.iconst 2, 1) := by decide +kernel
theorem dX13_keepChanges_77 : decode cX13_keepChanges 77 = .ok (.iload 5, 2) := by decide +kernel
theorem dX13_keepChanges_79 : decode cX13_keepChanges 79 = .ok (.iconst (-1), 1) := by decide +kernel
theorem dX13_keepChanges_80 : decode cX13_keepChanges 80 = .ok (.if_icmp .ne 10, 3) := by decide +kernel
theorem dX13_keepChanges_83 : decode cX13_keepChanges 83 = .ok (.aload_n 0, 1) := by decide +kernel
theorem dX13_keepChanges_84 : decode cX13_keepChanges 84 = .ok (.getfield 422, 3) := by decide +kernel
theorem dX13_keepChanges_87 : decode cX13_keepChanges 87 = .ok (.goto 5, 3) := by decide +kernel
theorem dX13_keepChanges_90 : decode cX13_keepChanges 90 = .ok (.iload 5, 2) := by decide +kernel
theorem dX13_keepChanges_92 : decode cX13_keepChanges 92 = .ok (.aload_n 0, 1) := by decide +kernel
theorem dX13_keepChanges_93 : decode cX13_keepChanges 93 = .ok (.getfield 422, 3) := by decide +kernel
theorem dX13_keepChanges_96 : decode cX13_keepChanges 96 = .ok (.invokevirtual 448, 3) := by decide +kernel
theorem dX13_keepChanges_99 : decode cX13_keepChanges 99 = .ok (.aload_n 0, 1) := by decide +kernel
theorem dX13_keepChanges_100 : decode cX13_keepChanges 100 = .ok (.getfield 425, 3) := by decide +kernel
theorem dX13_keepChanges_103 : decode cX13_keepChanges 103 = .ok (.iload 6, 2) := by decide +kernel
theorem dX13_keepChanges_105 : decode cX13_keepChanges 105 = .ok (.if_icmp .ne 9, 3) := by decide +kernel
theorem dX13_keepChanges_108 : decode cX13_keepChanges 108 = .ok (.iload 6, 2) := by decide +kernel
theorem dX13_keepChanges_110 : decode cX13_keepChanges 110 = .ok (.iconst (-1), 1) := by decide +kernel
theorem dX13_keepChanges_111 : decode cX13_keepChanges 111 = .ok (.if_icmp .ne 39, 3) := by decide +kernel
theorem dX13_keepChanges_114 : decode cX13_keepChanges 114 = .ok (.aload_n 0, 1) := by decide +kernel
theorem dX13_keepChanges_115 : decode cX13_keepChanges 115 = .ok (.aload_n 0, 1) := by decide +kernel
theorem dX13_keepChanges_116 : decode cX13_keepChanges 116 = .ok (.getfield 425, 3) := by decide +kernel
theorem dX13_keepChanges_119 : decode cX13_keepChanges 119 = .ok (.iconst (-1), 1) := by decide +kernel
theorem dX13_keepChanges_120 : decode cX13_keepChanges 120 = .ok (.if_icmp .ne 7, 3) := by decide +kernel
theorem dX13_keepChanges_123 : decode cX13_keepChanges 123 = .ok (.iconst 4, 1) := by decide +kernel
theorem dX13_keepChanges_124 : decode cX13_keepChanges 124 = .ok (.goto 4, 3) := by decide +kernel
theorem dX13_keepChanges_127 : decode cX13_keepChanges 127 = .ok (.iconst 3, 1) := by decide +kernel
theorem dX13_keepChanges_128 : decode cX13_keepChanges 128 = .ok (.iload 6, 2) := by decide +kernel
theorem dX13_keepChanges_130 : decode cX13_keepChanges 130 = .ok (.iconst (-1), 1) := by decide +kernel
theorem dX13_keepChanges_131 : decode cX13_keepChanges 131 = .ok (.if_icmp .ne 10, 3) := by decide +kernel
theorem dX13_keepChanges_134 : decode cX13_keepChanges 134 = .ok (.aload_n 0, 1) := by decide +kernel
theorem dX13_keepChanges_135 : decode cX13_keepChanges 135 = .ok (.getfield 425, 3) := by decide +kernel
theorem dX13_keepChanges_138 : decode cX13_keepChanges 138 = .ok (.goto 5, 3) := by decide +kernel
theorem dX13_keepChanges_141 : decode cX13_keepChanges 141 = .ok (.iload 6, 2) := by decide +kernel
theorem dX13_keepChanges_143 : decode cX13_keepChanges 143 = .ok (.aload_n 0, 1) := by decide +kernel
theorem dX13_keepChanges_144 : decode cX13_keepChanges 144 = .ok (.getfield 425, 3) := by decide +kernel
theorem dX13_keepChanges_147 : decode cX13_keepChanges 147 = .ok (.invokevirtual 448, 3) := by decide +kernel
theorem dX13_keepChanges_150 : decode cX13_keepChanges 150 = .ok (.aload_n 0, 1) := by decide +kernel
theorem dX13_keepChanges_151 : decode cX13_keepChanges 151 = .ok (.getfield 428, 3) := by decide +kernel
theorem dX13_keepChanges_154 : decode cX13_keepChanges 154 = .ok (.iconst (-1), 1) := by decide +kernel
theorem dX13_keepChanges_155 : decode cX13_keepChanges 155 = .ok (.if_icmp .eq 13, 3) := by decide +kernel
theorem dX13_keepChanges_158 : decode cX13_keepChanges 158 = .ok (.aload_n 0, 1) := by decide +kernel
theorem dX13_keepChanges_159 : decode cX13_keepChanges 159 = .ok (.iconst 5, 1) := by decide +kernel
theorem dX13_keepChanges_160 : decode cX13_keepChanges 160 = .ok (.aload_n 0, 1) := by decide +kernel
theorem dX13_keepChanges_161 : decode cX13_keepChanges 161 = .ok (.getfield 428, 3) := by decide +kernel
theorem dX13_keepChanges_164 : decode cX13_keepChanges 164 = .ok (.iconst (-1), 1) := by decide +kernel
theorem dX13_keepChanges_165 : decode cX13_keepChanges 165 = .ok (.invokevirtual 448, 3) := by decide +kernel
theorem dX13_keepChanges_168 : decode cX13_keepChanges 168 = .ok (.aload_n 0, 1) := by decide +kernel
theorem dX13_keepChanges_169 : decode cX13_keepChanges 169 = .ok (.getfield 431, 3) := by decide +kernel
theorem dX13_keepChanges_172 : decode cX13_keepChanges 172 = .ok (.iconst (-1), 1) := by decide +kernel
theorem dX13_keepChanges_173 : decode cX13_keepChanges 173 = .ok (.if_icmp .eq 13, 3) := by decide +kernel
theorem dX13_keepChanges_176 : decode cX13_keepChanges 176 = .ok (.aload_n 0, 1) := by decide +kernel
theorem dX13_keepChanges_177 : decode cX13_keepChanges 177 = .ok (.iconst 5, 1) := by decide +kernel
theorem dX13_keepChanges_178 : decode cX13_keepChanges 178 = .ok (.aload_n 0, 1) := by decide +kernel
theorem dX13_keepChanges_179 : decode cX13_keepChanges 179 = .ok (.getfield 431, 3) := by decide +kernel
theorem dX13_keepChanges_182 : decode cX13_keepChanges 182 = .ok (.iconst (-1), 1) := by decide +kernel
theorem dX13_keepChanges_183 : decode cX13_keepChanges 183 = .ok (.invokevirtual 448, 3) := by decide +kernel
theorem dX13_keepChanges_186 : decode cX13_keepChanges 186 = .ok (.return_, 1) := by decide +kernel
theorem dX13_remember_0 : decode cX13_remember 0 = .ok (.aload_n 0, 1) := by decide +kernel
theorem dX13_remember_1 : decode cX13_remember 1 = .ok (.getfield 280, 3) := by decide +kernel
theorem dX13_remember_4 : decode cX13_remember 4 = .ok (.iconst 3, 1) := by decide +kernel
theorem dX13_remember_5 : decode cX13_remember 5 = .ok (.iload_n 1, 1) := by decide +kernel
theorem dX13_remember_6 : decode cX13_remember 6 = .ok (.imul, 1) := by decide +kernel
theorem dX13_remember_7 : decode cX13_remember 7 = .ok (.iconst 2, 1) := by decide +kernel
theorem dX13_remember_8 : decode cX13_remember 8 = .ok (.iadd, 1) := by decide +kernel
theorem dX13_remember_9 : decode cX13_remember 9 = .ok (.aload_n 0, 1) := by decide +kernel
theorem dX13_remember_10 : decode cX13_remember 10 = .ok (.getfield 280, 3) := by decide +kernel
theorem dX13_remember_13 : decode cX13_remember 13 = .ok (.iconst 3, 1) := by decide +kernel
theorem dX13_remember_14 : decode cX13_remember 14 = .ok (.iload_n 1, 1) := by decide +kernel
theorem dX13_remember_15 : decode cX13_remember 15 = .ok (.imul, 1) := by decide +kernel
theorem dX13_remember_16 : decode cX13_remember 16 = .ok (.iconst 1, 1) := by decide +kernel
theorem dX13_remember_17 : decode cX13_remember 17 = .ok (.iadd, 1) := by decide +kernel
theorem dX13_remember_18 : decode cX13_remember 18 = .ok (.iaload, 1) := by decide +kernel
theorem dX13_remember_19 : decode cX13_remember 19 = .ok (.iastore, 1) := by decide +kernel
theorem dX13_remember_20 : decode cX13_remember 20 = .ok (.aload_n 0, 1) := by decide +kernel
theorem dX13_remember_21 : decode cX13_remember 21 = .ok (.getfield 280, 3) := by decide +kernel
theorem dX13_remember_24 : decode cX13_remember 24 = .ok (.iconst 3, 1) := by decide +kernel
theorem dX13_remember_25 : decode cX13_remember 25 = .ok (.iload_n 1, 1) := by decide +kernel
theorem dX13_remember_26 : decode cX13_remember 26 = .ok (.imul, 1) := by decide +kernel
theorem dX13_remember_27 : decode cX13_remember 27 = .ok (.iconst 1, 1) := by decide +kernel
theorem dX13_remember_28 : decode cX13_remember 28 = .ok (.iadd, 1) := by decide +kernel
theorem dX13_remember_29 : decode cX13_remember 29 = .ok (.aload_n 0, 1) := by decide +kernel
theorem dX13_remember_30 : decode cX13_remember 30 = .ok (.getfield 280, 3) := by decide +kernel
theorem dX13_remember_33 : decode cX13_remember 33 = .ok (.iconst 3, 1) := by decide +kernel
theorem dX13_remember_34 : decode cX13_remember 34 = .ok (.iload_n 1, 1) := by decide +kernel
theorem dX13_remember_35 : decode cX13_remember 35 = .ok (.imul, 1) := by decide +kernel
theorem dX13_remember_36 : decode cX13_remember 36 = .ok (.iaload, 1) := by decide +kernel
theorem dX13_remember_37 : decode cX13_remember 37 = .ok (.iastore, 1) := by decide +kernel
theorem dX13_remember_38 : decode cX13_remember 38 = .ok (.aload_n 0, 1) := by decide +kernel
theorem dX13_remember_39 : decode cX13_remember 39 = .ok (.getfield 280, 3) := by decide +kernel
theorem dX13_remember_42 : decode cX13_remember 42 = .ok (.iconst 3, 1) := by decide +kernel
theorem dX13_remember_43 : decode cX13_remember 43 = .ok (.iload_n 1, 1) := by decide +kernel
theorem dX13_remember_44 : decode cX13_remember 44 = .ok (.imul, 1) := by decide +kernel
theorem dX13_remember_45 : decode cX13_remember 45 = .ok (.iload_n 2, 1) := by decide +kernel
theorem dX13_remember_46 : decode cX13_remember 46 = .ok (.iastore, 1) := by decide +kernel
theorem dX13_remember_47 : decode cX13_remember 47 = .ok (.return_, 1) := by decide +kernel
theorem dX13_praise_0 : decode cX13_praise 0 = .ok (.iconst 0, 1) := by decide +kernel
theorem dX13_praise_1 : decode cX13_praise 1 = .ok (.istore_n 3, 1) := by decide +kernel
theorem dX13_praise_2 : decode cX13_praise 2 = .ok (.iload_n 3, 1) := by decide +kernel
theorem dX13_praise_3 : decode cX13_praise 3 = .ok (.aload_n 0, 1) := by decide +kernel
theorem dX13_praise_4 : decode cX13_praise 4 = .ok (.getfield 241, 3) := by decide +kernel
theorem dX13_praise_7 : decode cX13_praise 7 = .ok (.iload_n 2, 1) := by decide +kernel
theorem dX13_praise_8 : decode cX13_praise 8 = .ok (.iaload, 1) := by decide +kernel
theorem dX13_praise_9 : decode cX13_praise 9 = .ok (.if_icmp .ge 111, 3) := by decide +kernel
theorem dX13_praise_12 : decode cX13_praise 12 = .ok (.iconst 0, 1) := by decide +kernel
theorem dX13_praise_13 : decode cX13_praise 13 = .ok (.istore 4, 2) := by decide +kernel
theorem dX13_praise_15 : decode cX13_praise 15 = .ok (.iconst 0, 1) := by decide +kernel
theorem dX13_praise_16 : decode cX13_praise 16 = .ok (.istore 5, 2) := by decide +kernel
theorem dX13_praise_18 : decode cX13_praise 18 = .ok (.iload 5, 2) := by decide +kernel
theorem dX13_praise_20 : decode cX13_praise 20 = .ok (.iload_n 3, 1) := by decide +kernel
theorem dX13_praise_21 : decode cX13_praise 21 = .ok (.if_icmp .ge 49, 3) := by decide +kernel
theorem dX13_praise_24 : decode cX13_praise 24 = .ok (.iload 4, 2) := by decide +kernel
theorem dX13_praise_26 : decode cX13_praise 26 = .ok (.ifCond .ne 31, 3) := by decide +kernel
theorem dX13_praise_29 : decode cX13_praise 29 = .ok (.aload_n 0, 1) := by decide +kernel
theorem dX13_praise_30 : decode cX13_praise 30 = .ok (.getfield 238, 3) := by decide +kernel
theorem dX13_praise_33 : decode cX13_praise 33 = .ok (.sipush 140, 3) := by decide +kernel
theorem dX13_praise_36 : decode cX13_praise 36 = .ok (.iload_n 2, 1) := by decide +kernel
theorem dX13_praise_37 : decode cX13_praise 37 = .ok (.imul, 1) := by decide +kernel
theorem dX13_praise_38 : decode cX13_praise 38 = .ok (.iload 5, 2) := by decide +kernel
theorem dX13_praise_40 : decode cX13_praise 40 = .ok (.iadd, 1) := by decide +kernel
theorem dX13_praise_41 : decode cX13_praise 41 = .ok (.iaload, 1) := by decide +kernel
theorem dX13_praise_42 : decode cX13_praise 42 = .ok (.aload_n 0, 1) := by decide +kernel
theorem dX13_praise_43 : decode cX13_praise 43 = .ok (.getfield 238, 3) := by decide +kernel
theorem dX13_praise_46 : decode cX13_praise 46 = .ok (.sipush 140, 3) := by decide +kernel
theorem dX13_praise_49 : decode cX13_praise 49 = .ok (.iload_n 2, 1) := by decide +kernel
theorem dX13_praise_50 : decode cX13_praise 50 = .ok (.imul, 1) := by decide +kernel
theorem dX13_praise_51 : decode cX13_praise 51 = .ok (.iload_n 3, 1) := by decide +kernel
theorem dX13_praise_52 : decode cX13_praise 52 = .ok (.iadd, 1) := by decide +kernel
theorem dX13_praise_53 : decode cX13_praise 53 = .ok (.iaload, 1) := by decide +kernel
theorem dX13_praise_54 : decode cX13_praise 54 = .ok (.if_icmp .ne 7, 3) := by decide +kernel
theorem dX13_praise_57 : decode cX13_praise 57 = .ok (.iconst 1, 1) := by decide +kernel
theorem dX13_praise_58 : decode cX13_praise 58 = .ok (.goto 4, 3) := by decide +kernel
theorem dX13_praise_61 : decode cX13_praise 61 = .ok (.iconst 0, 1) := by decide +kernel
theorem dX13_praise_62 : decode cX13_praise 62 = .ok (.istore 4, 2) := by decide +kernel
theorem dX13_praise_64 : decode cX13_praise 64 = .ok (.iinc 5 1, 3) := by decide +kernel
theorem dX13_praise_67 : decode cX13_praise 67 = .ok (.goto (-49), 3) := by decide +kernel
theorem dX13_praise_70 : decode cX13_praise 70 = .ok (.bipush 60, 2) := by decide +kernel
theorem dX13_praise_72 : decode cX13_praise 72 = .ok (.iload_n 1, 1) := by decide +kernel
theorem dX13_praise_73 : decode cX13_praise 73 = .ok (.imul, 1) := by decide +kernel
theorem dX13_praise_74 : decode cX13_praise 74 = .ok (.aload_n 0, 1) := by decide +kernel
theorem dX13_praise_75 : decode cX13_praise 75 = .ok (.getfield 238, 3) := by decide +kernel
theorem dX13_praise_78 : decode cX13_praise 78 = .ok (.sipush 140, 3) := by decide +kernel
theorem dX13_praise_81 : decode cX13_praise 81 = .ok (.iload_n 2, 1) := by decide +kernel
theorem dX13_praise_82 : decode cX13_praise 82 = .ok (.imul, 1) := by decide +kernel
theorem dX13_praise_83 : decode cX13_praise 83 = .ok (.iload_n 3, 1) := by decide +kernel
theorem dX13_praise_84 : decode cX13_praise 84 = .ok (.iadd, 1) := by decide +kernel
theorem dX13_praise_85 : decode cX13_praise 85 = .ok (.iaload, 1) := by decide +kernel
theorem dX13_praise_86 : decode cX13_praise 86 = .ok (.iadd, 1) := by decide +kernel
theorem dX13_praise_87 : decode cX13_praise 87 = .ok (.istore 5, 2) := by decide +kernel
theorem dX13_praise_89 : decode cX13_praise 89 = .ok (.iload 4, 2) := by decide +kernel
theorem dX13_praise_91 : decode cX13_praise 91 = .ok (.ifCond .ne 23, 3) := by decide +kernel
theorem dX13_praise_94 : decode cX13_praise 94 = .ok (.aload_n 0, 1) := by decide +kernel
theorem dX13_praise_95 : decode cX13_praise 95 = .ok (.getfield 277, 3) := by decide +kernel
theorem dX13_praise_98 : decode cX13_praise 98 = .ok (.iload 5, 2) := by decide +kernel
theorem dX13_praise_100 : decode cX13_praise 100 = .ok (.iconst 0, 1) := by decide +kernel
theorem dX13_praise_101 : decode cX13_praise 101 = .ok (.aload_n 0, 1) := by decide +kernel
theorem dX13_praise_102 : decode cX13_praise 102 = .ok (.getfield 277, 3) := by decide +kernel
theorem dX13_praise_105 : decode cX13_praise 105 = .ok (.iload 5, 2) := by decide +kernel
theorem dX13_praise_107 : decode cX13_praise 107 = .ok (.iaload, 1) := by decide +kernel
theorem dX13_praise_108 : decode cX13_praise 108 = .ok (.iconst 1, 1) := by decide +kernel
theorem dX13_praise_109 : decode cX13_praise 109 = .ok (.isub, 1) := by decide +kernel
theorem dX13_praise_110 : decode cX13_praise 110 = .ok (.invokestatic 453, 3) := by decide +kernel
theorem dX13_praise_113 : decode cX13_praise 113 = .ok (.iastore, 1) := by decide +kernel
theorem dX13_praise_114 : decode cX13_praise 114 = .ok (.iinc 3 1, 3) := by decide +kernel
theorem dX13_praise_117 : decode cX13_praise 117 = .ok (.goto (-115), 3) := by decide +kernel
theorem dX13_praise_120 : decode cX13_praise 120 = .ok (.return_, 1) := by decide +kernel
theorem dX13_blame_0 : decode cX13_blame 0 = .ok (.iconst 0, 1) := by decide +kernel
theorem dX13_blame_1 : decode cX13_blame 1 = .ok (.istore_n 2, 1) := by decide +kernel
theorem dX13_blame_2 : decode cX13_blame 2 = .ok (.iload_n 2, 1) := by decide +kernel
theorem dX13_blame_3 : decode cX13_blame 3 = .ok (.aload_n 0, 1) := by decide +kernel
theorem dX13_blame_4 : decode cX13_blame 4 = .ok (.getfield 445, 3) := by decide +kernel
theorem dX13_blame_7 : decode cX13_blame 7 = .ok (.if_icmp .ge 73, 3) := by decide +kernel
theorem dX13_blame_10 : decode cX13_blame 10 = .ok (.aload_n 0, 1) := by decide +kernel
theorem dX13_blame_11 : decode cX13_blame 11 = .ok (.getfield 286, 3) := by decide +kernel
theorem dX13_blame_14 : decode cX13_blame 14 = .ok (.iload_n 2, 1) := by decide +kernel
theorem dX13_blame_15 : decode cX13_blame 15 = .ok (.iaload, 1) := by decide +kernel
theorem dX13_blame_16 : decode cX13_blame 16 = .ok (.iconst (-1), 1) := by decide +kernel
theorem dX13_blame_17 : decode cX13_blame 17 = .ok (.if_icmp .eq 57, 3) := by decide +kernel
theorem dX13_blame_20 : decode cX13_blame 20 = .ok (.iload_n 2, 1) := by decide +kernel
theorem dX13_blame_21 : decode cX13_blame 21 = .ok (.iconst 1, 1) := by decide +kernel
theorem dX13_blame_22 : decode cX13_blame 22 = .ok (.if_icmp .ne 21, 3) := by decide +kernel
theorem dX13_blame_25 : decode cX13_blame 25 = .ok (.aload_n 0, 1) := by decide +kernel
theorem dX13_blame_26 : decode cX13_blame 26 = .ok (.getfield 286, 3) := by decide +kernel
theorem dX13_blame_29 : decode cX13_blame 29 = .ok (.iconst 1, 1) := by decide +kernel
theorem dX13_blame_30 : decode cX13_blame 30 = .ok (.iaload, 1) := by decide +kernel
theorem dX13_blame_31 : decode cX13_blame 31 = .ok (.aload_n 0, 1) := by decide +kernel
theorem dX13_blame_32 : decode cX13_blame 32 = .ok (.getfield 286, 3) := by decide +kernel
theorem dX13_blame_35 : decode cX13_blame 35 = .ok (.iconst 0, 1) := by decide +kernel
theorem dX13_blame_36 : decode cX13_blame 36 = .ok (.iaload, 1) := by decide +kernel
theorem dX13_blame_37 : decode cX13_blame 37 = .ok (.if_icmp .ne 6, 3) := by decide +kernel
theorem dX13_blame_40 : decode cX13_blame 40 = .ok (.goto 34, 3) := by decide +kernel
theorem dX13_blame_43 : decode cX13_blame 43 = .ok (.bipush 60, 2) := by decide +kernel
theorem dX13_blame_45 : decode cX13_blame 45 = .ok (.iload_n 1, 1) := by decide +kernel
theorem dX13_blame_46 : decode cX13_blame 46 = .ok (.imul, 1) := by decide +kernel
theorem dX13_blame_47 : decode cX13_blame 47 = .ok (.aload_n 0, 1) := by decide +kernel
theorem dX13_blame_48 : decode cX13_blame 48 = .ok (.getfield 286, 3) := by decide +kernel
theorem dX13_blame_51 : decode cX13_blame 51 = .ok (.iload_n 2, 1) := by decide +kernel
theorem dX13_blame_52 : decode cX13_blame 52 = .ok (.iaload, 1) := by decide +kernel
theorem dX13_blame_53 : decode cX13_blame 53 = .ok (.iadd, 1) := by decide +kernel
theorem dX13_blame_54 : decode cX13_blame 54 = .ok (.istore_n 3, 1) := by decide +kernel
theorem dX13_blame_55 : decode cX13_blame 55 = .ok (.aload_n 0, 1) := by decide +kernel
theorem dX13_blame_56 : decode cX13_blame 56 = .ok (.getfield 277, 3) := by decide +kernel
theorem dX13_blame_59 : decode cX13_blame 59 = .ok (.iload_n 3, 1) := by decide +kernel
theorem dX13_blame_60 : decode cX13_blame 60 = .ok (.bipush 99, 2) := by decide +kernel
theorem dX13_blame_62 : decode cX13_blame 62 = .ok (.aload_n 0, 1) := by decide +kernel
theorem dX13_blame_63 : decode cX13_blame 63 = .ok (.getfield 277, 3) := by decide +kernel
theorem dX13_blame_66 : decode cX13_blame 66 = .ok (.iload_n 3, 1) := by decide +kernel
theorem dX13_blame_67 : decode cX13_blame 67 = .ok (.iaload, 1) := by decide +kernel
theorem dX13_blame_68 : decode cX13_blame 68 = .ok (.iconst 1, 1) := by decide +kernel
theorem dX13_blame_69 : decode cX13_blame 69 = .ok (.iadd, 1) := by decide +kernel
theorem dX13_blame_70 : decode cX13_blame 70 = .ok (.invokestatic 401, 3) := by decide +kernel
theorem dX13_blame_73 : decode cX13_blame 73 = .ok (.iastore, 1) := by decide +kernel
theorem dX13_blame_74 : decode cX13_blame 74 = .ok (.iinc 2 1, 3) := by decide +kernel
theorem dX13_blame_77 : decode cX13_blame 77 = .ok (.goto (-75), 3) := by decide +kernel
theorem dX13_blame_80 : decode cX13_blame 80 = .ok (.return_, 1) := by decide +kernel
theorem dX13_placeOf_0 : decode cX13_placeOf 0 = .ok (.bipush 100, 2) := by decide +kernel
theorem dX13_placeOf_2 : decode cX13_placeOf 2 = .ok (.iload_n 0, 1) := by decide +kernel
theorem dX13_placeOf_3 : decode cX13_placeOf 3 = .ok (.imul, 1) := by decide +kernel
theorem dX13_placeOf_4 : decode cX13_placeOf 4 = .ok (.bipush 10, 2) := by decide +kernel
theorem dX13_placeOf_6 : decode cX13_placeOf 6 = .ok (.iload_n 1, 1) := by decide +kernel
theorem dX13_placeOf_7 : decode cX13_placeOf 7 = .ok (.imul, 1) := by decide +kernel
theorem dX13_placeOf_8 : decode cX13_placeOf 8 = .ok (.iadd, 1) := by decide +kernel
theorem dX13_placeOf_9 : decode cX13_placeOf 9 = .ok (.iload_n 2, 1) := by decide +kernel
theorem dX13_placeOf_10 : decode cX13_placeOf 10 = .ok (.iadd, 1) := by decide +kernel
theorem dX13_placeOf_11 : decode cX13_placeOf 11 = .ok (.ireturn, 1) := by decide +kernel
theorem dX13_weight_0 : decode cX13_weight 0 = .ok (.aload_n 0, 1) := by decide +kernel
theorem dX13_weight_1 : decode cX13_weight 1 = .ok (.iload_n 2, 1) := by decide +kernel
theorem dX13_weight_2 : decode cX13_weight 2 = .ok (.iload_n 3, 1) := by decide +kernel
theorem dX13_weight_3 : decode cX13_weight 3 = .ok (.iload 4, 2) := by decide +kernel
theorem dX13_weight_5 : decode cX13_weight 5 = .ok (.invokevirtual 384, 3) := by decide +kernel
theorem dX13_weight_8 : decode cX13_weight 8 = .ok (.aload_n 0, 1) := by decide +kernel
theorem dX13_weight_9 : decode cX13_weight 9 = .ok (.getfield 344, 3) := by decide +kernel
theorem dX13_weight_12 : decode cX13_weight 12 = .ok (.ifCond .ne 5, 3) := by decide +kernel
theorem dX13_weight_15 : decode cX13_weight 15 = .ok (.iconst (-1), 1) := by decide +kernel
theorem dX13_weight_16 : decode cX13_weight 16 = .ok (.ireturn, 1) := by decide +kernel
theorem dX13_weight_17 : decode cX13_weight 17 = .ok (.iconst 0, 1) := by decide +kernel
theorem dX13_weight_18 : decode cX13_weight 18 = .ok (.istore 5, 2) := by decide +kernel
theorem dX13_weight_20 : decode cX13_weight 20 = .ok (.iconst 0, 1) := by decide +kernel
theorem dX13_weight_21 : decode cX13_weight 21 = .ok (.istore 6, 2) := by decide +kernel
theorem dX13_weight_23 : decode cX13_weight 23 = .ok (.iload 6, 2) := by decide +kernel
theorem dX13_weight_25 : decode cX13_weight 25 = .ok (.aload_n 0, 1) := by decide +kernel
theorem dX13_weight_26 : decode cX13_weight 26 = .ok (.getfield 241, 3) := by decide +kernel
theorem dX13_weight_29 : decode cX13_weight 29 = .ok (.iconst 0, 1) := by decide +kernel
theorem dX13_weight_30 : decode cX13_weight 30 = .ok (.iaload, 1) := by decide +kernel
theorem dX13_weight_31 : decode cX13_weight 31 = .ok (.if_icmp .ge 88, 3) := by decide +kernel
theorem dX13_weight_34 : decode cX13_weight 34 = .ok (.iconst 0, 1) := by decide +kernel
theorem dX13_weight_35 : decode cX13_weight 35 = .ok (.istore 7, 2) := by decide +kernel
theorem dX13_weight_37 : decode cX13_weight 37 = .ok (.iconst 0, 1) := by decide +kernel
theorem dX13_weight_38 : decode cX13_weight 38 = .ok (.istore 8, 2) := by decide +kernel
theorem dX13_weight_40 : decode cX13_weight 40 = .ok (.iload 8, 2) := by decide +kernel
theorem dX13_weight_42 : decode cX13_weight 42 = .ok (.iload 6, 2) := by decide +kernel
theorem dX13_weight_44 : decode cX13_weight 44 = .ok (.if_icmp .ge 38, 3) := by decide +kernel
theorem dX13_weight_47 : decode cX13_weight 47 = .ok (.iload 7, 2) := by decide +kernel
theorem dX13_weight_49 : decode cX13_weight 49 = .ok (.ifCond .ne 20, 3) := by decide +kernel
theorem dX13_weight_52 : decode cX13_weight 52 = .ok (.aload_n 0, 1) := by decide +kernel
theorem dX13_weight_53 : decode cX13_weight 53 = .ok (.getfield 238, 3) := by decide +kernel
theorem dX13_weight_56 : decode cX13_weight 56 = .ok (.iload 8, 2) := by decide +kernel
theorem dX13_weight_58 : decode cX13_weight 58 = .ok (.iaload, 1) := by decide +kernel
theorem dX13_weight_59 : decode cX13_weight 59 = .ok (.aload_n 0, 1) := by decide +kernel
theorem dX13_weight_60 : decode cX13_weight 60 = .ok (.getfield 238, 3) := by decide +kernel
theorem dX13_weight_63 : decode cX13_weight 63 = .ok (.iload 6, 2) := by decide +kernel
theorem dX13_weight_65 : decode cX13_weight 65 = .ok (.iaload, 1) := by decide +kernel
theorem dX13_weight_66 : decode cX13_weight 66 = .ok (.if_icmp .ne 7, 3) := by decide +kernel
theorem dX13_weight_69 : decode cX13_weight 69 = .ok (.iconst 1, 1) := by decide +kernel
theorem dX13_weight_70 : decode cX13_weight 70 = .ok (.goto 4, 3) := by decide +kernel
theorem dX13_weight_73 : decode cX13_weight 73 = .ok (.iconst 0, 1) := by decide +kernel
theorem dX13_weight_74 : decode cX13_weight 74 = .ok (.istore 7, 2) := by decide +kernel
theorem dX13_weight_76 : decode cX13_weight 76 = .ok (.iinc 8 1, 3) := by decide +kernel
theorem dX13_weight_79 : decode cX13_weight 79 = .ok (.goto (-39), 3) := by decide +kernel
theorem dX13_weight_82 : decode cX13_weight 82 = .ok (.iload 5, 2) := by decide +kernel
theorem dX13_weight_84 : decode cX13_weight 84 = .ok (.iload 7, 2) := by decide +kernel
theorem dX13_weight_86 : decode cX13_weight 86 = .ok (.ifCond .eq 7, 3) := by decide +kernel
theorem dX13_weight_89 : decode cX13_weight 89 = .ok (.iconst 0, 1) := by decide +kernel
theorem dX13_weight_90 : decode cX13_weight 90 = .ok (.goto 20, 3) := by decide +kernel
theorem dX13_weight_93 : decode cX13_weight 93 = .ok (.aload_n 0, 1) := by decide +kernel
theorem dX13_weight_94 : decode cX13_weight 94 = .ok (.getfield 277, 3) := by decide +kernel
theorem dX13_weight_97 : decode cX13_weight 97 = .ok (.bipush 60, 2) := by decide +kernel
theorem dX13_weight_99 : decode cX13_weight 99 = .ok (.iload_n 1, 1) := by decide +kernel
theorem dX13_weight_100 : decode cX13_weight 100 = .ok (.imul, 1) := by decide +kernel
theorem dX13_weight_101 : decode cX13_weight 101 = .ok (.aload_n 0, 1) := by decide +kernel
theorem dX13_weight_102 : decode cX13_weight 102 = .ok (.getfield 238, 3) := by decide +kernel
theorem dX13_weight_105 : decode cX13_weight 105 = .ok (.iload 6, 2) := by decide +kernel
theorem dX13_weight_107 : decode cX13_weight 107 = .ok (.iaload, 1) := by decide +kernel
theorem dX13_weight_108 : decode cX13_weight 108 = .ok (.iadd, 1) := by decide +kernel
theorem dX13_weight_109 : decode cX13_weight 109 = .ok (.iaload, 1) := by decide +kernel
theorem dX13_weight_110 : decode cX13_weight 110 = .ok (.iadd, 1) := by decide +kernel
theorem dX13_weight_111 : decode cX13_weight 111 = .ok (.istore 5, 2) := by decide +kernel
theorem dX13_weight_113 : decode cX13_weight 113 = .ok (.iinc 6 1, 3) := by decide +kernel
theorem dX13_weight_116 : decode cX13_weight 116 = .ok (.goto (-93), 3) := by decide +kernel
theorem dX13_weight_119 : decode cX13_weight 119 = .ok (.iload 5, 2) := by decide +kernel
theorem dX13_weight_121 : decode cX13_weight 121 = .ok (.ireturn, 1) := by decide +kernel
theorem dJ13_bitCount_95d88_0 : decode cJ13_bitCount_95d88 0 = .ok (.lload_n 0, 1) := by decide +kernel
theorem dJ13_bitCount_95d88_1 : decode cJ13_bitCount_95d88 1 = .ok (.lload_n 0, 1) := by decide +kernel
theorem dJ13_bitCount_95d88_2 : decode cJ13_bitCount_95d88 2 = .ok (.iconst 1, 1) := by decide +kernel
theorem dJ13_bitCount_95d88_3 : decode cJ13_bitCount_95d88 3 = .ok (.lushr, 1) := by decide +kernel
theorem dJ13_bitCount_95d88_4 : decode cJ13_bitCount_95d88 4 = .ok (.ldc2_w 314, 3) := by decide +kernel
theorem dJ13_bitCount_95d88_7 : decode cJ13_bitCount_95d88 7 = .ok (.land, 1) := by decide +kernel
theorem dJ13_bitCount_95d88_8 : decode cJ13_bitCount_95d88 8 = .ok (.lsub, 1) := by decide +kernel
theorem dJ13_bitCount_95d88_9 : decode cJ13_bitCount_95d88 9 = .ok (.lstore_n 0, 1) := by decide +kernel
theorem dJ13_bitCount_95d88_10 : decode cJ13_bitCount_95d88 10 = .ok (.lload_n 0, 1) := by decide +kernel
theorem dJ13_bitCount_95d88_11 : decode cJ13_bitCount_95d88 11 = .ok (.ldc2_w 316, 3) := by decide +kernel
theorem dJ13_bitCount_95d88_14 : decode cJ13_bitCount_95d88 14 = .ok (.land, 1) := by decide +kernel
theorem dJ13_bitCount_95d88_15 : decode cJ13_bitCount_95d88 15 = .ok (.lload_n 0, 1) := by decide +kernel
theorem dJ13_bitCount_95d88_16 : decode cJ13_bitCount_95d88 16 = .ok (.iconst 2, 1) := by decide +kernel
theorem dJ13_bitCount_95d88_17 : decode cJ13_bitCount_95d88 17 = .ok (.lushr, 1) := by decide +kernel
theorem dJ13_bitCount_95d88_18 : decode cJ13_bitCount_95d88 18 = .ok (.ldc2_w 316, 3) := by decide +kernel
theorem dJ13_bitCount_95d88_21 : decode cJ13_bitCount_95d88 21 = .ok (.land, 1) := by decide +kernel
theorem dJ13_bitCount_95d88_22 : decode cJ13_bitCount_95d88 22 = .ok (.ladd, 1) := by decide +kernel
theorem dJ13_bitCount_95d88_23 : decode cJ13_bitCount_95d88 23 = .ok (.lstore_n 0, 1) := by decide +kernel
theorem dJ13_bitCount_95d88_24 : decode cJ13_bitCount_95d88 24 = .ok (.lload_n 0, 1) := by decide +kernel
theorem dJ13_bitCount_95d88_25 : decode cJ13_bitCount_95d88 25 = .ok (.lload_n 0, 1) := by decide +kernel
theorem dJ13_bitCount_95d88_26 : decode cJ13_bitCount_95d88 26 = .ok (.iconst 4, 1) := by decide +kernel
theorem dJ13_bitCount_95d88_27 : decode cJ13_bitCount_95d88 27 = .ok (.lushr, 1) := by decide +kernel
theorem dJ13_bitCount_95d88_28 : decode cJ13_bitCount_95d88 28 = .ok (.ladd, 1) := by decide +kernel
theorem dJ13_bitCount_95d88_29 : decode cJ13_bitCount_95d88 29 = .ok (.ldc2_w 318, 3) := by decide +kernel
theorem dJ13_bitCount_95d88_32 : decode cJ13_bitCount_95d88 32 = .ok (.land, 1) := by decide +kernel
theorem dJ13_bitCount_95d88_33 : decode cJ13_bitCount_95d88 33 = .ok (.lstore_n 0, 1) := by decide +kernel
theorem dJ13_bitCount_95d88_34 : decode cJ13_bitCount_95d88 34 = .ok (.lload_n 0, 1) := by decide +kernel
theorem dJ13_bitCount_95d88_35 : decode cJ13_bitCount_95d88 35 = .ok (.lload_n 0, 1) := by decide +kernel
theorem dJ13_bitCount_95d88_36 : decode cJ13_bitCount_95d88 36 = .ok (.bipush 8, 2) := by decide +kernel
theorem dJ13_bitCount_95d88_38 : decode cJ13_bitCount_95d88 38 = .ok (.lushr, 1) := by decide +kernel
theorem dJ13_bitCount_95d88_39 : decode cJ13_bitCount_95d88 39 = .ok (.ladd, 1) := by decide +kernel
theorem dJ13_bitCount_95d88_40 : decode cJ13_bitCount_95d88 40 = .ok (.lstore_n 0, 1) := by decide +kernel
theorem dJ13_bitCount_95d88_41 : decode cJ13_bitCount_95d88 41 = .ok (.lload_n 0, 1) := by decide +kernel
theorem dJ13_bitCount_95d88_42 : decode cJ13_bitCount_95d88 42 = .ok (.lload_n 0, 1) := by decide +kernel
theorem dJ13_bitCount_95d88_43 : decode cJ13_bitCount_95d88 43 = .ok (.bipush 16, 2) := by decide +kernel
theorem dJ13_bitCount_95d88_45 : decode cJ13_bitCount_95d88 45 = .ok (.lushr, 1) := by decide +kernel
theorem dJ13_bitCount_95d88_46 : decode cJ13_bitCount_95d88 46 = .ok (.ladd, 1) := by decide +kernel
theorem dJ13_bitCount_95d88_47 : decode cJ13_bitCount_95d88 47 = .ok (.lstore_n 0, 1) := by decide +kernel
theorem dJ13_bitCount_95d88_48 : decode cJ13_bitCount_95d88 48 = .ok (.lload_n 0, 1) := by decide +kernel
theorem dJ13_bitCount_95d88_49 : decode cJ13_bitCount_95d88 49 = .ok (.lload_n 0, 1) := by decide +kernel
theorem dJ13_bitCount_95d88_50 : decode cJ13_bitCount_95d88 50 = .ok (.bipush 32, 2) := by decide +kernel
theorem dJ13_bitCount_95d88_52 : decode cJ13_bitCount_95d88 52 = .ok (.lushr, 1) := by decide +kernel
theorem dJ13_bitCount_95d88_53 : decode cJ13_bitCount_95d88 53 = .ok (.ladd, 1) := by decide +kernel
theorem dJ13_bitCount_95d88_54 : decode cJ13_bitCount_95d88 54 = .ok (.lstore_n 0, 1) := by decide +kernel
theorem dJ13_bitCount_95d88_55 : decode cJ13_bitCount_95d88 55 = .ok (.lload_n 0, 1) := by decide +kernel
theorem dJ13_bitCount_95d88_56 : decode cJ13_bitCount_95d88 56 = .ok (.l2i, 1) := by decide +kernel
theorem dJ13_bitCount_95d88_57 : decode cJ13_bitCount_95d88 57 = .ok (.bipush 127, 2) := by decide +kernel
theorem dJ13_bitCount_95d88_59 : decode cJ13_bitCount_95d88 59 = .ok (.iand, 1) := by decide +kernel
theorem dJ13_bitCount_95d88_60 : decode cJ13_bitCount_95d88 60 = .ok (.ireturn, 1) := by decide +kernel
theorem dJ0_length_8abf5_0 : decode cJ0_length_8abf5 0 = .ok (.aload_n 0, 1) := by decide +kernel
theorem dJ0_length_8abf5_1 : decode cJ0_length_8abf5 1 = .ok (.getfield 9, 3) := by decide +kernel
theorem dJ0_length_8abf5_4 : decode cJ0_length_8abf5 4 = .ok (.arraylength, 1) := by decide +kernel
theorem dJ0_length_8abf5_5 : decode cJ0_length_8abf5 5 = .ok (.aload_n 0, 1) := by decide +kernel
theorem dJ0_length_8abf5_6 : decode cJ0_length_8abf5 6 = .ok (.invokevirtual 335, 3) := by decide +kernel
theorem dJ0_length_8abf5_9 : decode cJ0_length_8abf5 9 = .ok (.ishr, 1) := by decide +kernel
theorem dJ0_length_8abf5_10 : decode cJ0_length_8abf5 10 = .ok (.ireturn, 1) := by decide +kernel
theorem dJ0_charAt_5068e_0 : decode cJ0_charAt_5068e 0 = .ok (.aload_n 0, 1) := by decide +kernel
theorem dJ0_charAt_5068e_1 : decode cJ0_charAt_5068e 1 = .ok (.invokevirtual 492, 3) := by decide +kernel
theorem dJ0_charAt_5068e_4 : decode cJ0_charAt_5068e 4 = .ok (.ifCond .eq 12, 3) := by decide +kernel
theorem dJ0_charAt_5068e_7 : decode cJ0_charAt_5068e 7 = .ok (.aload_n 0, 1) := by decide +kernel
theorem dJ0_charAt_5068e_8 : decode cJ0_charAt_5068e 8 = .ok (.getfield 9, 3) := by decide +kernel
theorem dJ0_charAt_5068e_11 : decode cJ0_charAt_5068e 11 = .ok (.iload_n 1, 1) := by decide +kernel
theorem dJ0_charAt_5068e_12 : decode cJ0_charAt_5068e 12 = .ok (.invokestatic 495, 3) := by decide +kernel
theorem dJ0_charAt_5068e_15 : decode cJ0_charAt_5068e 15 = .ok (.ireturn, 1) := by decide +kernel
theorem dJ0_coder_7d493_0 : decode cJ0_coder_7d493 0 = .ok (.getstatic 38, 3) := by decide +kernel
theorem dJ0_coder_7d493_3 : decode cJ0_coder_7d493 3 = .ok (.ifCond .eq 10, 3) := by decide +kernel
theorem dJ0_coder_7d493_6 : decode cJ0_coder_7d493 6 = .ok (.aload_n 0, 1) := by decide +kernel
theorem dJ0_coder_7d493_7 : decode cJ0_coder_7d493 7 = .ok (.getfield 15, 3) := by decide +kernel
theorem dJ0_coder_7d493_10 : decode cJ0_coder_7d493 10 = .ok (.goto 4, 3) := by decide +kernel
theorem dJ0_coder_7d493_14 : decode cJ0_coder_7d493 14 = .ok (.ireturn, 1) := by decide +kernel
theorem dJ0_isLatin1_aae02_0 : decode cJ0_isLatin1_aae02 0 = .ok (.getstatic 38, 3) := by decide +kernel
theorem dJ0_isLatin1_aae02_3 : decode cJ0_isLatin1_aae02 3 = .ok (.ifCond .eq 14, 3) := by decide +kernel
theorem dJ0_isLatin1_aae02_6 : decode cJ0_isLatin1_aae02 6 = .ok (.aload_n 0, 1) := by decide +kernel
theorem dJ0_isLatin1_aae02_7 : decode cJ0_isLatin1_aae02 7 = .ok (.getfield 15, 3) := by decide +kernel
theorem dJ0_isLatin1_aae02_10 : decode cJ0_isLatin1_aae02 10 = .ok (.ifCond .ne 7, 3) := by decide +kernel
theorem dJ0_isLatin1_aae02_13 : decode cJ0_isLatin1_aae02 13 = .ok (.iconst 1, 1) := by decide +kernel
theorem dJ0_isLatin1_aae02_14 : decode cJ0_isLatin1_aae02 14 = .ok (.goto 4, 3) := by decide +kernel
theorem dJ0_isLatin1_aae02_18 : decode cJ0_isLatin1_aae02 18 = .ok (.ireturn, 1) := by decide +kernel
theorem dJ0_checkIndex_df160_0 : decode cJ0_checkIndex_df160 0 = .ok (.iload_n 0, 1) := by decide +kernel
theorem dJ0_checkIndex_df160_1 : decode cJ0_checkIndex_df160 1 = .ok (.iload_n 1, 1) := by decide +kernel
theorem dJ0_checkIndex_df160_2 : decode cJ0_checkIndex_df160 2 = .ok (.getstatic 1053, 3) := by decide +kernel
theorem dJ0_checkIndex_df160_5 : decode cJ0_checkIndex_df160 5 = .ok (.invokestatic 1059, 3) := by decide +kernel
theorem dJ0_checkIndex_df160_8 : decode cJ0_checkIndex_df160 8 = .ok (.pop, 1) := by decide +kernel
theorem dJ0_checkIndex_df160_9 : decode cJ0_checkIndex_df160 9 = .ok (.return_, 1) := by decide +kernel
theorem dJ1_charAt_3b067_0 : decode cJ1_charAt_3b067 0 = .ok (.iload_n 1, 1) := by decide +kernel
theorem dJ1_charAt_3b067_1 : decode cJ1_charAt_3b067 1 = .ok (.aload_n 0, 1) := by decide +kernel
theorem dJ1_charAt_3b067_2 : decode cJ1_charAt_3b067 2 = .ok (.arraylength, 1) := by decide +kernel
theorem dJ1_charAt_3b067_3 : decode cJ1_charAt_3b067 3 = .ok (.invokestatic 9, 3) := by decide +kernel
theorem dJ1_charAt_3b067_6 : decode cJ1_charAt_3b067 6 = .ok (.aload_n 0, 1) := by decide +kernel
theorem dJ1_charAt_3b067_7 : decode cJ1_charAt_3b067 7 = .ok (.iload_n 1, 1) := by decide +kernel
theorem dJ1_charAt_3b067_8 : decode cJ1_charAt_3b067 8 = .ok (.baload, 1) := by decide +kernel
theorem dJ1_charAt_3b067_9 : decode cJ1_charAt_3b067 9 = .ok (.sipush 255, 3) := by decide +kernel
theorem dJ1_charAt_3b067_12 : decode cJ1_charAt_3b067 12 = .ok (.iand, 1) := by decide +kernel
theorem dJ1_charAt_3b067_13 : decode cJ1_charAt_3b067 13 = .ok (.i2c, 1) := by decide +kernel
theorem dJ1_charAt_3b067_14 : decode cJ1_charAt_3b067 14 = .ok (.ireturn, 1) := by decide +kernel
theorem dJ3_checkIndex_8e157_0 : decode cJ3_checkIndex_8e157 0 = .ok (.iload_n 0, 1) := by decide +kernel
theorem dJ3_checkIndex_8e157_1 : decode cJ3_checkIndex_8e157 1 = .ok (.ifCond .lt 8, 3) := by decide +kernel
theorem dJ3_checkIndex_8e157_4 : decode cJ3_checkIndex_8e157 4 = .ok (.iload_n 0, 1) := by decide +kernel
theorem dJ3_checkIndex_8e157_5 : decode cJ3_checkIndex_8e157 5 = .ok (.iload_n 1, 1) := by decide +kernel
theorem dJ3_checkIndex_8e157_6 : decode cJ3_checkIndex_8e157 6 = .ok (.if_icmp .lt 10, 3) := by decide +kernel
theorem dJ3_checkIndex_8e157_16 : decode cJ3_checkIndex_8e157 16 = .ok (.iload_n 0, 1) := by decide +kernel
theorem dJ3_checkIndex_8e157_17 : decode cJ3_checkIndex_8e157 17 = .ok (.ireturn, 1) := by decide +kernel
theorem dE_init_0 : decode cE_init 0 = .ok (.aload_n 0, 1) := by decide +kernel
theorem dE_init_1 : decode cE_init 1 = .ok (.aload_n 1, 1) := by decide +kernel
theorem dE_init_2 : decode cE_init 2 = .ok (.aload_n 2, 1) := by decide +kernel
theorem dE_init_3 : decode cE_init 3 = .ok (.iload_n 3, 1) := by decide +kernel
theorem dE_init_4 : decode cE_init 4 = .ok (.iload 4, 2) := by decide +kernel
theorem dE_init_6 : decode cE_init 6 = .ok (.invokespecial 16, 3) := by decide +kernel
theorem dE_init_9 : decode cE_init 9 = .ok (.return_, 1) := by decide +kernel
theorem dT_init_0 : decode cT_init 0 = .ok (.aload_n 0, 1) := by decide +kernel
theorem dT_init_1 : decode cT_init 1 = .ok (.invokespecial 1, 3) := by decide +kernel
theorem dT_init_4 : decode cT_init 4 = .ok (.aload_n 0, 1) := by decide +kernel
theorem dT_init_5 : decode cT_init 5 = .ok (.aload_n 0, 1) := by decide +kernel
theorem dT_init_6 : decode cT_init 6 = .ok (.putfield 7, 3) := by decide +kernel
theorem dT_init_9 : decode cT_init 9 = .ok (.aload_n 0, 1) := by decide +kernel
theorem dT_init_10 : decode cT_init 10 = .ok (.getstatic 13, 3) := by decide +kernel
theorem dT_init_13 : decode cT_init 13 = .ok (.putfield 17, 3) := by decide +kernel
theorem dT_init_16 : decode cT_init 16 = .ok (.aload_n 0, 1) := by decide +kernel
theorem dT_init_17 : decode cT_init 17 = .ok (.getstatic 20, 3) := by decide +kernel
theorem dT_init_20 : decode cT_init 20 = .ok (.putfield 24, 3) := by decide +kernel
theorem dT_init_23 : decode cT_init 23 = .ok (.iload 4, 2) := by decide +kernel
theorem dT_init_25 : decode cT_init 25 = .ok (.ifCond .eq 11, 3) := by decide +kernel
theorem dT_init_36 : decode cT_init 36 = .ok (.aload_n 0, 1) := by decide +kernel
theorem dT_init_37 : decode cT_init 37 = .ok (.aconst_null, 1) := by decide +kernel
theorem dT_init_38 : decode cT_init 38 = .ok (.putfield 17, 3) := by decide +kernel
theorem dT_init_41 : decode cT_init 41 = .ok (.aload_n 0, 1) := by decide +kernel
theorem dT_init_42 : decode cT_init 42 = .ok (.aload_n 1, 1) := by decide +kernel
theorem dT_init_43 : decode cT_init 43 = .ok (.putfield 31, 3) := by decide +kernel
theorem dT_init_46 : decode cT_init 46 = .ok (.aload_n 0, 1) := by decide +kernel
theorem dT_init_47 : decode cT_init 47 = .ok (.aload_n 2, 1) := by decide +kernel
theorem dT_init_48 : decode cT_init 48 = .ok (.putfield 7, 3) := by decide +kernel
theorem dT_init_51 : decode cT_init 51 = .ok (.iload_n 3, 1) := by decide +kernel
theorem dT_init_52 : decode cT_init 52 = .ok (.ifCond .ne 8, 3) := by decide +kernel
theorem dT_init_55 : decode cT_init 55 = .ok (.aload_n 0, 1) := by decide +kernel
theorem dT_init_56 : decode cT_init 56 = .ok (.aconst_null, 1) := by decide +kernel
theorem dT_init_57 : decode cT_init 57 = .ok (.putfield 24, 3) := by decide +kernel
theorem dT_init_60 : decode cT_init 60 = .ok (.return_, 1) := by decide +kernel
