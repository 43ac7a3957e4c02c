theorem dX13_isKeyword_142 : decode cX13_isKeyword 142 = .ok (.ifCond .ne 21, 3) := by decide +kernel
theorem dX13_isKeyword_145 : decode cX13_isKeyword 145 = .ok (.aload_n 0, 1) := by decide +kernel
theorem dX13_isKeyword_146 : decode cX13_isKeyword 146 = .ok (.ldc 143, 2) := by decide +kernel
theorem dX13_isKeyword_148 : decode cX13_isKeyword 148 = .ok (.invokevirtual 103, 3) := by decide +kernel
theorem dX13_isKeyword_151 : decode cX13_isKeyword 151 = .ok (.ifCond .ne 12, 3) := by decide +kernel
theorem dX13_isKeyword_154 : decode cX13_isKeyword 154 = .ok (.aload_n 0, 1) := by decide +kernel
theorem dX13_isKeyword_155 : decode cX13_isKeyword 155 = .ok (.ldc 145, 2) := by decide +kernel
theorem dX13_isKeyword_157 : decode cX13_isKeyword 157 = .ok (.invokevirtual 103, 3) := by decide +kernel
theorem dX13_isKeyword_160 : decode cX13_isKeyword 160 = .ok (.ifCond .eq 7, 3) := by decide +kernel
theorem dX13_isKeyword_163 : decode cX13_isKeyword 163 = .ok (.iconst 1, 1) := by decide +kernel
theorem dX13_isKeyword_164 : decode cX13_isKeyword 164 = .ok (.goto 4, 3) := by decide +kernel
theorem dX13_isKeyword_167 : decode cX13_isKeyword 167 = .ok (.iconst 0, 1) := by decide +kernel
theorem dX13_isKeyword_168 : decode cX13_isKeyword 168 = .ok (.ireturn, 1) := by decide +kernel
theorem dX13_needName_0 : decode cX13_needName 0 = .ok (.aload_n 0, 1) := by decide +kernel
theorem dX13_needName_1 : decode cX13_needName 1 = .ok (.getfield 83, 3) := by decide +kernel
theorem dX13_needName_4 : decode cX13_needName 4 = .ok (.iconst 1, 1) := by decide +kernel
theorem dX13_needName_5 : decode cX13_needName 5 = .ok (.if_icmp .ne 10, 3) := by decide +kernel
theorem dX13_needName_8 : decode cX13_needName 8 = .ok (.aload_n 0, 1) := by decide +kernel
theorem dX13_needName_9 : decode cX13_needName 9 = .ok (.invokevirtual 146, 3) := by decide +kernel
theorem dX13_needName_12 : decode cX13_needName 12 = .ok (.ifCond .eq 9, 3) := by decide +kernel
theorem dX13_needName_15 : decode cX13_needName 15 = .ok (.aload_n 0, 1) := by decide +kernel
theorem dX13_needName_16 : decode cX13_needName 16 = .ok (.iconst 1, 1) := by decide +kernel
theorem dX13_needName_17 : decode cX13_needName 17 = .ok (.invokevirtual 107, 3) := by decide +kernel
theorem dX13_needName_20 : decode cX13_needName 20 = .ok (.athrow, 1) := by decide +kernel
theorem dX13_needName_21 : decode cX13_needName 21 = .ok (.return_, 1) := by decide +kernel
theorem dX13_digit_0 : decode cX13_digit 0 = .ok (.aload_n 0, 1) := by decide +kernel
theorem dX13_digit_1 : decode cX13_digit 1 = .ok (.getfield 83, 3) := by decide +kernel
theorem dX13_digit_4 : decode cX13_digit 4 = .ok (.iconst 2, 1) := by decide +kernel
theorem dX13_digit_5 : decode cX13_digit 5 = .ok (.if_icmp .eq 9, 3) := by decide +kernel
theorem dX13_digit_8 : decode cX13_digit 8 = .ok (.aload_n 0, 1) := by decide +kernel
theorem dX13_digit_9 : decode cX13_digit 9 = .ok (.iconst 1, 1) := by decide +kernel
theorem dX13_digit_10 : decode cX13_digit 10 = .ok (.invokevirtual 107, 3) := by decide +kernel
theorem dX13_digit_13 : decode cX13_digit 13 = .ok (.athrow, 1) := by decide +kernel
theorem dX13_digit_14 : decode cX13_digit 14 = .ok (.aload_n 0, 1) := by decide +kernel
theorem dX13_digit_15 : decode cX13_digit 15 = .ok (.getfield 73, 3) := by decide +kernel
theorem dX13_digit_18 : decode cX13_digit 18 = .ok (.aload_n 0, 1) := by decide +kernel
theorem dX13_digit_19 : decode cX13_digit 19 = .ok (.getfield 60, 3) := by decide +kernel
theorem dX13_digit_22 : decode cX13_digit 22 = .ok (.baload, 1) := by decide +kernel
theorem dX13_digit_23 : decode cX13_digit 23 = .ok (.bipush 48, 2) := by decide +kernel
theorem dX13_digit_25 : decode cX13_digit 25 = .ok (.isub, 1) := by decide +kernel
theorem dX13_digit_26 : decode cX13_digit 26 = .ok (.istore_n 2, 1) := by decide +kernel
theorem dX13_digit_27 : decode cX13_digit 27 = .ok (.iload_n 2, 1) := by decide +kernel
theorem dX13_digit_28 : decode cX13_digit 28 = .ok (.iload_n 1, 1) := by decide +kernel
theorem dX13_digit_29 : decode cX13_digit 29 = .ok (.if_icmp .le 9, 3) := by decide +kernel
theorem dX13_digit_32 : decode cX13_digit 32 = .ok (.aload_n 0, 1) := by decide +kernel
theorem dX13_digit_33 : decode cX13_digit 33 = .ok (.iconst 3, 1) := by decide +kernel
theorem dX13_digit_34 : decode cX13_digit 34 = .ok (.invokevirtual 107, 3) := by decide +kernel
theorem dX13_digit_37 : decode cX13_digit 37 = .ok (.athrow, 1) := by decide +kernel
theorem dX13_digit_38 : decode cX13_digit 38 = .ok (.aload_n 0, 1) := by decide +kernel
theorem dX13_digit_39 : decode cX13_digit 39 = .ok (.invokevirtual 111, 3) := by decide +kernel
theorem dX13_digit_42 : decode cX13_digit 42 = .ok (.iload_n 2, 1) := by decide +kernel
theorem dX13_digit_43 : decode cX13_digit 43 = .ok (.ireturn, 1) := by decide +kernel
theorem dX13_nameIn_0 : decode cX13_nameIn 0 = .ok (.iconst 0, 1) := by decide +kernel
theorem dX13_nameIn_1 : decode cX13_nameIn 1 = .ok (.istore 5, 2) := by decide +kernel
theorem dX13_nameIn_3 : decode cX13_nameIn 3 = .ok (.iload 5, 2) := by decide +kernel
theorem dX13_nameIn_5 : decode cX13_nameIn 5 = .ok (.iload 4, 2) := by decide +kernel
theorem dX13_nameIn_7 : decode cX13_nameIn 7 = .ok (.if_icmp .ge 101, 3) := by decide +kernel
theorem dX13_nameIn_10 : decode cX13_nameIn 10 = .ok (.aload_n 2, 1) := by decide +kernel
theorem dX13_nameIn_11 : decode cX13_nameIn 11 = .ok (.iload_n 3, 1) := by decide +kernel
theorem dX13_nameIn_12 : decode cX13_nameIn 12 = .ok (.iload 5, 2) := by decide +kernel
theorem dX13_nameIn_14 : decode cX13_nameIn 14 = .ok (.iadd, 1) := by decide +kernel
theorem dX13_nameIn_15 : decode cX13_nameIn 15 = .ok (.iaload, 1) := by decide +kernel
theorem dX13_nameIn_16 : decode cX13_nameIn 16 = .ok (.aload_n 0, 1) := by decide +kernel
theorem dX13_nameIn_17 : decode cX13_nameIn 17 = .ok (.getfield 76, 3) := by decide +kernel
theorem dX13_nameIn_20 : decode cX13_nameIn 20 = .ok (.aload_n 0, 1) := by decide +kernel
theorem dX13_nameIn_21 : decode cX13_nameIn 21 = .ok (.getfield 60, 3) := by decide +kernel
theorem dX13_nameIn_24 : decode cX13_nameIn 24 = .ok (.isub, 1) := by decide +kernel
theorem dX13_nameIn_25 : decode cX13_nameIn 25 = .ok (.if_icmp .ne 7, 3) := by decide +kernel
theorem dX13_nameIn_28 : decode cX13_nameIn 28 = .ok (.iconst 1, 1) := by decide +kernel
theorem dX13_nameIn_29 : decode cX13_nameIn 29 = .ok (.goto 4, 3) := by decide +kernel
theorem dX13_nameIn_32 : decode cX13_nameIn 32 = .ok (.iconst 0, 1) := by decide +kernel
theorem dX13_nameIn_33 : decode cX13_nameIn 33 = .ok (.istore 6, 2) := by decide +kernel
theorem dX13_nameIn_35 : decode cX13_nameIn 35 = .ok (.iconst 0, 1) := by decide +kernel
theorem dX13_nameIn_36 : decode cX13_nameIn 36 = .ok (.istore 7, 2) := by decide +kernel
theorem dX13_nameIn_38 : decode cX13_nameIn 38 = .ok (.iload 7, 2) := by decide +kernel
theorem dX13_nameIn_40 : decode cX13_nameIn 40 = .ok (.aload_n 2, 1) := by decide +kernel
theorem dX13_nameIn_41 : decode cX13_nameIn 41 = .ok (.iload_n 3, 1) := by decide +kernel
theorem dX13_nameIn_42 : decode cX13_nameIn 42 = .ok (.iload 5, 2) := by decide +kernel
theorem dX13_nameIn_44 : decode cX13_nameIn 44 = .ok (.iadd, 1) := by decide +kernel
theorem dX13_nameIn_45 : decode cX13_nameIn 45 = .ok (.iaload, 1) := by decide +kernel
theorem dX13_nameIn_46 : decode cX13_nameIn 46 = .ok (.if_icmp .ge 48, 3) := by decide +kernel
theorem dX13_nameIn_49 : decode cX13_nameIn 49 = .ok (.iload 6, 2) := by decide +kernel
theorem dX13_nameIn_51 : decode cX13_nameIn 51 = .ok (.ifCond .eq 43, 3) := by decide +kernel
theorem dX13_nameIn_54 : decode cX13_nameIn 54 = .ok (.aload_n 1, 1) := by decide +kernel
theorem dX13_nameIn_55 : decode cX13_nameIn 55 = .ok (.bipush 12, 2) := by decide +kernel
theorem dX13_nameIn_57 : decode cX13_nameIn 57 = .ok (.iload_n 3, 1) := by decide +kernel
theorem dX13_nameIn_58 : decode cX13_nameIn 58 = .ok (.iload 5, 2) := by decide +kernel
theorem dX13_nameIn_60 : decode cX13_nameIn 60 = .ok (.iadd, 1) := by decide +kernel
theorem dX13_nameIn_61 : decode cX13_nameIn 61 = .ok (.imul, 1) := by decide +kernel
theorem dX13_nameIn_62 : decode cX13_nameIn 62 = .ok (.iload 7, 2) := by decide +kernel
theorem dX13_nameIn_64 : decode cX13_nameIn 64 = .ok (.iadd, 1) := by decide +kernel
theorem dX13_nameIn_65 : decode cX13_nameIn 65 = .ok (.baload, 1) := by decide +kernel
theorem dX13_nameIn_66 : decode cX13_nameIn 66 = .ok (.aload_n 0, 1) := by decide +kernel
theorem dX13_nameIn_67 : decode cX13_nameIn 67 = .ok (.getfield 73, 3) := by decide +kernel
theorem dX13_nameIn_70 : decode cX13_nameIn 70 = .ok (.aload_n 0, 1) := by decide +kernel
theorem dX13_nameIn_71 : decode cX13_nameIn 71 = .ok (.getfield 60, 3) := by decide +kernel
theorem dX13_nameIn_74 : decode cX13_nameIn 74 = .ok (.iload 7, 2) := by decide +kernel
theorem dX13_nameIn_76 : decode cX13_nameIn 76 = .ok (.iadd, 1) := by decide +kernel
theorem dX13_nameIn_77 : decode cX13_nameIn 77 = .ok (.baload, 1) := by decide +kernel
theorem dX13_nameIn_78 : decode cX13_nameIn 78 = .ok (.if_icmp .ne 7, 3) := by decide +kernel
theorem dX13_nameIn_81 : decode cX13_nameIn 81 = .ok (.iconst 1, 1) := by decide +kernel
theorem dX13_nameIn_82 : decode cX13_nameIn 82 = .ok (.goto 4, 3) := by decide +kernel
theorem dX13_nameIn_85 : decode cX13_nameIn 85 = .ok (.iconst 0, 1) := by decide +kernel
theorem dX13_nameIn_86 : decode cX13_nameIn 86 = .ok (.istore 6, 2) := by decide +kernel
theorem dX13_nameIn_88 : decode cX13_nameIn 88 = .ok (.iinc 7 1, 3) := by decide +kernel
theorem dX13_nameIn_91 : decode cX13_nameIn 91 = .ok (.goto (-53), 3) := by decide +kernel
theorem dX13_nameIn_94 : decode cX13_nameIn 94 = .ok (.iload 6, 2) := by decide +kernel
theorem dX13_nameIn_96 : decode cX13_nameIn 96 = .ok (.ifCond .eq 6, 3) := by decide +kernel
theorem dX13_nameIn_99 : decode cX13_nameIn 99 = .ok (.iload 5, 2) := by decide +kernel
theorem dX13_nameIn_101 : decode cX13_nameIn 101 = .ok (.ireturn, 1) := by decide +kernel
theorem dX13_nameIn_102 : decode cX13_nameIn 102 = .ok (.iinc 5 1, 3) := by decide +kernel
theorem dX13_nameIn_105 : decode cX13_nameIn 105 = .ok (.goto (-102), 3) := by decide +kernel
theorem dX13_nameIn_108 : decode cX13_nameIn 108 = .ok (.iconst (-1), 1) := by decide +kernel
theorem dX13_nameIn_109 : decode cX13_nameIn 109 = .ok (.ireturn, 1) := by decide +kernel
theorem dX13_classAtHand_0 : decode cX13_classAtHand 0 = .ok (.aload_n 0, 1) := by decide +kernel
theorem dX13_classAtHand_1 : decode cX13_classAtHand 1 = .ok (.aload_n 0, 1) := by decide +kernel
theorem dX13_classAtHand_2 : decode cX13_classAtHand 2 = .ok (.getfield 150, 3) := by decide +kernel
theorem dX13_classAtHand_5 : decode cX13_classAtHand 5 = .ok (.aload_n 0, 1) := by decide +kernel
theorem dX13_classAtHand_6 : decode cX13_classAtHand 6 = .ok (.getfield 153, 3) := by decide +kernel
theorem dX13_classAtHand_9 : decode cX13_classAtHand 9 = .ok (.bipush 6, 2) := by decide +kernel
theorem dX13_classAtHand_11 : decode cX13_classAtHand 11 = .ok (.aload_n 0, 1) := by decide +kernel
theorem dX13_classAtHand_12 : decode cX13_classAtHand 12 = .ok (.getfield 1, 3) := by decide +kernel
theorem dX13_classAtHand_15 : decode cX13_classAtHand 15 = .ok (.iconst 1, 1) := by decide +kernel
theorem dX13_classAtHand_16 : decode cX13_classAtHand 16 = .ok (.iaload, 1) := by decide +kernel
theorem dX13_classAtHand_17 : decode cX13_classAtHand 17 = .ok (.invokevirtual 156, 3) := by decide +kernel
theorem dX13_classAtHand_20 : decode cX13_classAtHand 20 = .ok (.ireturn, 1) := by decide +kernel
theorem dX13_verbAtHand_0 : decode cX13_verbAtHand 0 = .ok (.aload_n 0, 1) := by decide +kernel
theorem dX13_verbAtHand_1 : decode cX13_verbAtHand 1 = .ok (.aload_n 0, 1) := by decide +kernel
theorem dX13_verbAtHand_2 : decode cX13_verbAtHand 2 = .ok (.getfield 19, 3) := by decide +kernel
theorem dX13_verbAtHand_5 : decode cX13_verbAtHand 5 = .ok (.aload_n 0, 1) := by decide +kernel
theorem dX13_verbAtHand_6 : decode cX13_verbAtHand 6 = .ok (.getfield 13, 3) := by decide +kernel
theorem dX13_verbAtHand_9 : decode cX13_verbAtHand 9 = .ok (.bipush 30, 2) := by decide +kernel
theorem dX13_verbAtHand_11 : decode cX13_verbAtHand 11 = .ok (.aload_n 0, 1) := by decide +kernel
theorem dX13_verbAtHand_12 : decode cX13_verbAtHand 12 = .ok (.getfield 7, 3) := by decide +kernel
theorem dX13_verbAtHand_15 : decode cX13_verbAtHand 15 = .ok (.iconst 1, 1) := by decide +kernel
theorem dX13_verbAtHand_16 : decode cX13_verbAtHand 16 = .ok (.iaload, 1) := by decide +kernel
theorem dX13_verbAtHand_17 : decode cX13_verbAtHand 17 = .ok (.invokevirtual 156, 3) := by decide +kernel
theorem dX13_verbAtHand_20 : decode cX13_verbAtHand 20 = .ok (.ireturn, 1) := by decide +kernel
theorem dX13_takeClass_0 : decode cX13_takeClass 0 = .ok (.aload_n 0, 1) := by decide +kernel
theorem dX13_takeClass_1 : decode cX13_takeClass 1 = .ok (.invokevirtual 160, 3) := by decide +kernel
theorem dX13_takeClass_4 : decode cX13_takeClass 4 = .ok (.aload_n 0, 1) := by decide +kernel
theorem dX13_takeClass_5 : decode cX13_takeClass 5 = .ok (.invokevirtual 163, 3) := by decide +kernel
theorem dX13_takeClass_8 : decode cX13_takeClass 8 = .ok (.istore_n 1, 1) := by decide +kernel
theorem dX13_takeClass_9 : decode cX13_takeClass 9 = .ok (.iload_n 1, 1) := by decide +kernel
theorem dX13_takeClass_10 : decode cX13_takeClass 10 = .ok (.iconst (-1), 1) := by decide +kernel
theorem dX13_takeClass_11 : decode cX13_takeClass 11 = .ok (.if_icmp .ne 9, 3) := by decide +kernel
theorem dX13_takeClass_14 : decode cX13_takeClass 14 = .ok (.aload_n 0, 1) := by decide +kernel
theorem dX13_takeClass_15 : decode cX13_takeClass 15 = .ok (.iconst 2, 1) := by decide +kernel
theorem dX13_takeClass_16 : decode cX13_takeClass 16 = .ok (.invokevirtual 107, 3) := by decide +kernel
theorem dX13_takeClass_19 : decode cX13_takeClass 19 = .ok (.athrow, 1) := by decide +kernel
theorem dX13_takeClass_20 : decode cX13_takeClass 20 = .ok (.aload_n 0, 1) := by decide +kernel
theorem dX13_takeClass_21 : decode cX13_takeClass 21 = .ok (.invokevirtual 111, 3) := by decide +kernel
theorem dX13_takeClass_24 : decode cX13_takeClass 24 = .ok (.iload_n 1, 1) := by decide +kernel
theorem dX13_takeClass_25 : decode cX13_takeClass 25 = .ok (.ireturn, 1) := by decide +kernel
theorem dX13_takeVerb_0 : decode cX13_takeVerb 0 = .ok (.aload_n 0, 1) := by decide +kernel
theorem dX13_takeVerb_1 : decode cX13_takeVerb 1 = .ok (.invokevirtual 160, 3) := by decide +kernel
theorem dX13_takeVerb_4 : decode cX13_takeVerb 4 = .ok (.aload_n 0, 1) := by decide +kernel
theorem dX13_takeVerb_5 : decode cX13_takeVerb 5 = .ok (.invokevirtual 166, 3) := by decide +kernel
theorem dX13_takeVerb_8 : decode cX13_takeVerb 8 = .ok (.istore_n 1, 1) := by decide +kernel
theorem dX13_takeVerb_9 : decode cX13_takeVerb 9 = .ok (.iload_n 1, 1) := by decide +kernel
theorem dX13_takeVerb_10 : decode cX13_takeVerb 10 = .ok (.iconst (-1), 1) := by decide +kernel
theorem dX13_takeVerb_11 : decode cX13_takeVerb 11 = .ok (.if_icmp .ne 9, 3) := by decide +kernel
theorem dX13_takeVerb_14 : decode cX13_takeVerb 14 = .ok (.aload_n 0, 1) := by decide +kernel
theorem dX13_takeVerb_15 : decode cX13_takeVerb 15 = .ok (.iconst 2, 1) := by decide +kernel
theorem dX13_takeVerb_16 : decode cX13_takeVerb 16 = .ok (.invokevirtual 107, 3) := by decide +kernel
theorem dX13_takeVerb_19 : decode cX13_takeVerb 19 = .ok (.athrow, 1) := by decide +kernel
theorem dX13_takeVerb_20 : decode cX13_takeVerb 20 = .ok (.aload_n 0, 1) := by decide +kernel
theorem dX13_takeVerb_21 : decode cX13_takeVerb 21 = .ok (.invokevirtual 111, 3) := by decide +kernel
theorem dX13_takeVerb_24 : decode cX13_takeVerb 24 = .ok (.iload_n 1, 1) := by decide +kernel
theorem dX13_takeVerb_25 : decode cX13_takeVerb 25 = .ok (.ireturn, 1) := by decide +kernel
theorem dX13_readItem_0 : decode cX13_readItem 0 = .ok (.aload_n 0, 1) := by decide +kernel
theorem dX13_readItem_1 : decode cX13_readItem 1 = .ok (.ldc 115, 2) := by decide +kernel
theorem dX13_readItem_3 : decode cX13_readItem 3 = .ok (.invokevirtual 103, 3) := by decide +kernel
theorem dX13_readItem_6 : decode cX13_readItem 6 = .ok (.ifCond .eq 124, 3) := by decide +kernel
theorem dX13_readItem_9 : decode cX13_readItem 9 = .ok (.aload_n 0, 1) := by decide +kernel
theorem dX13_readItem_10 : decode cX13_readItem 10 = .ok (.getfield 1, 3) := by decide +kernel
theorem dX13_readItem_13 : decode cX13_readItem 13 = .ok (.iconst 1, 1) := by decide +kernel
theorem dX13_readItem_14 : decode cX13_readItem 14 = .ok (.iaload, 1) := by decide +kernel
theorem dX13_readItem_15 : decode cX13_readItem 15 = .ok (.bipush 6, 2) := by decide +kernel
theorem dX13_readItem_17 : decode cX13_readItem 17 = .ok (.if_icmp .ne 9, 3) := by decide +kernel
theorem dX13_readItem_20 : decode cX13_readItem 20 = .ok (.aload_n 0, 1) := by decide +kernel
theorem dX13_readItem_21 : decode cX13_readItem 21 = .ok (.iconst 4, 1) := by decide +kernel
theorem dX13_readItem_22 : decode cX13_readItem 22 = .ok (.invokevirtual 107, 3) := by decide +kernel
theorem dX13_readItem_25 : decode cX13_readItem 25 = .ok (.athrow, 1) := by decide +kernel
theorem dX13_readItem_26 : decode cX13_readItem 26 = .ok (.aload_n 0, 1) := by decide +kernel
theorem dX13_readItem_27 : decode cX13_readItem 27 = .ok (.invokevirtual 111, 3) := by decide +kernel
theorem dX13_readItem_30 : decode cX13_readItem 30 = .ok (.aload_n 0, 1) := by decide +kernel
theorem dX13_readItem_31 : decode cX13_readItem 31 = .ok (.invokevirtual 160, 3) := by decide +kernel
theorem dX13_readItem_34 : decode cX13_readItem 34 = .ok (.aload_n 0, 1) := by decide +kernel
theorem dX13_readItem_35 : decode cX13_readItem 35 = .ok (.invokevirtual 163, 3) := by decide +kernel
theorem dX13_readItem_38 : decode cX13_readItem 38 = .ok (.iconst (-1), 1) := by decide +kernel
theorem dX13_readItem_39 : decode cX13_readItem 39 = .ok (.if_icmp .eq 9, 3) := by decide +kernel
theorem dX13_readItem_42 : decode cX13_readItem 42 = .ok (.aload_n 0, 1) := by decide +kernel
theorem dX13_readItem_43 : decode cX13_readItem 43 = .ok (.iconst 2, 1) := by decide +kernel
theorem dX13_readItem_44 : decode cX13_readItem 44 = .ok (.invokevirtual 107, 3) := by decide +kernel
theorem dX13_readItem_47 : decode cX13_readItem 47 = .ok (.athrow, 1) := by decide +kernel
theorem dX13_readItem_48 : decode cX13_readItem 48 = .ok (.bipush 6, 2) := by decide +kernel
theorem dX13_readItem_50 : decode cX13_readItem 50 = .ok (.aload_n 0, 1) := by decide +kernel
theorem dX13_readItem_51 : decode cX13_readItem 51 = .ok (.getfield 1, 3) := by decide +kernel
theorem dX13_readItem_54 : decode cX13_readItem 54 = .ok (.iconst 1, 1) := by decide +kernel
theorem dX13_readItem_55 : decode cX13_readItem 55 = .ok (.iaload, 1) := by decide +kernel
theorem dX13_readItem_56 : decode cX13_readItem 56 = .ok (.iadd, 1) := by decide +kernel
theorem dX13_readItem_57 : decode cX13_readItem 57 = .ok (.istore_n 1, 1) := by decide +kernel
theorem dX13_readItem_58 : decode cX13_readItem 58 = .ok (.aload_n 0, 1) := by decide +kernel
theorem dX13_readItem_59 : decode cX13_readItem 59 = .ok (.getfield 153, 3) := by decide +kernel
theorem dX13_readItem_62 : decode cX13_readItem 62 = .ok (.iload_n 1, 1) := by decide +kernel
theorem dX13_readItem_63 : decode cX13_readItem 63 = .ok (.aload_n 0, 1) := by decide +kernel
theorem dX13_readItem_64 : decode cX13_readItem 64 = .ok (.getfield 76, 3) := by decide +kernel
theorem dX13_readItem_67 : decode cX13_readItem 67 = .ok (.aload_n 0, 1) := by decide +kernel
theorem dX13_readItem_68 : decode cX13_readItem 68 = .ok (.getfield 60, 3) := by decide +kernel
theorem dX13_readItem_71 : decode cX13_readItem 71 = .ok (.isub, 1) := by decide +kernel
theorem dX13_readItem_72 : decode cX13_readItem 72 = .ok (.iastore, 1) := by decide +kernel
theorem dX13_readItem_73 : decode cX13_readItem 73 = .ok (.iconst 0, 1) := by decide +kernel
theorem dX13_readItem_74 : decode cX13_readItem 74 = .ok (.istore_n 2, 1) := by decide +kernel
theorem dX13_readItem_75 : decode cX13_readItem 75 = .ok (.iload_n 2, 1) := by decide +kernel
theorem dX13_readItem_76 : decode cX13_readItem 76 = .ok (.aload_n 0, 1) := by decide +kernel
theorem dX13_readItem_77 : decode cX13_readItem 77 = .ok (.getfield 153, 3) := by decide +kernel
theorem dX13_readItem_80 : decode cX13_readItem 80 = .ok (.iload_n 1, 1) := by decide +kernel
theorem dX13_readItem_81 : decode cX13_readItem 81 = .ok (.iaload, 1) := by decide +kernel
theorem dX13_readItem_82 : decode cX13_readItem 82 = .ok (.if_icmp .ge 31, 3) := by decide +kernel
theorem dX13_readItem_85 : decode cX13_readItem 85 = .ok (.aload_n 0, 1) := by decide +kernel
theorem dX13_readItem_86 : decode cX13_readItem 86 = .ok (.getfield 150, 3) := by decide +kernel
theorem dX13_readItem_89 : decode cX13_readItem 89 = .ok (.bipush 12, 2) := by decide +kernel
theorem dX13_readItem_91 : decode cX13_readItem 91 = .ok (.iload_n 1, 1) := by decide +kernel
theorem dX13_readItem_92 : decode cX13_readItem 92 = .ok (.imul, 1) := by decide +kernel
theorem dX13_readItem_93 : decode cX13_readItem 93 = .ok (.iload_n 2, 1) := by decide +kernel
theorem dX13_readItem_94 : decode cX13_readItem 94 = .ok (.iadd, 1) := by decide +kernel
theorem dX13_readItem_95 : decode cX13_readItem 95 = .ok (.aload_n 0, 1) := by decide +kernel
theorem dX13_readItem_96 : decode cX13_readItem 96 = .ok (.getfield 73, 3) := by decide +kernel
theorem dX13_readItem_99 : decode cX13_readItem 99 = .ok (.aload_n 0, 1) := by decide +kernel
theorem dX13_readItem_100 : decode cX13_readItem 100 = .ok (.getfield 60, 3) := by decide +kernel
theorem dX13_readItem_103 : decode cX13_readItem 103 = .ok (.iload_n 2, 1) := by decide +kernel
theorem dX13_readItem_104 : decode cX13_readItem 104 = .ok (.iadd, 1) := by decide +kernel
theorem dX13_readItem_105 : decode cX13_readItem 105 = .ok (.baload, 1) := by decide +kernel
theorem dX13_readItem_106 : decode cX13_readItem 106 = .ok (.bastore, 1) := by decide +kernel
theorem dX13_readItem_107 : decode cX13_readItem 107 = .ok (.iinc 2 1, 3) := by decide +kernel
theorem dX13_readItem_110 : decode cX13_readItem 110 = .ok (.goto (-35), 3) := by decide +kernel
theorem dX13_readItem_113 : decode cX13_readItem 113 = .ok (.aload_n 0, 1) := by decide +kernel
theorem dX13_readItem_114 : decode cX13_readItem 114 = .ok (.getfield 1, 3) := by decide +kernel
theorem dX13_readItem_117 : decode cX13_readItem 117 = .ok (.iconst 1, 1) := by decide +kernel
theorem dX13_readItem_118 : decode cX13_readItem 118 = .ok (.dup2, 1) := by decide +kernel
theorem dX13_readItem_119 : decode cX13_readItem 119 = .ok (.iaload, 1) := by decide +kernel
theorem dX13_readItem_120 : decode cX13_readItem 120 = .ok (.iconst 1, 1) := by decide +kernel
theorem dX13_readItem_121 : decode cX13_readItem 121 = .ok (.iadd, 1) := by decide +kernel
theorem dX13_readItem_122 : decode cX13_readItem 122 = .ok (.iastore, 1) := by decide +kernel
theorem dX13_readItem_123 : decode cX13_readItem 123 = .ok (.aload_n 0, 1) := by decide +kernel
theorem dX13_readItem_124 : decode cX13_readItem 124 = .ok (.invokevirtual 111, 3) := by decide +kernel
theorem dX13_readItem_127 : decode cX13_readItem 127 = .ok (.goto 153, 3) := by decide +kernel
theorem dX13_readItem_130 : decode cX13_readItem 130 = .ok (.aload_n 0, 1) := by decide +kernel
theorem dX13_readItem_131 : decode cX13_readItem 131 = .ok (.ldc 117, 2) := by decide +kernel
theorem dX13_readItem_133 : decode cX13_readItem 133 = .ok (.invokevirtual 103, 3) := by decide +kernel
theorem dX13_readItem_136 : decode cX13_readItem 136 = .ok (.ifCond .eq 140, 3) := by decide +kernel
theorem dX13_readItem_139 : decode cX13_readItem 139 = .ok (.aload_n 0, 1) := by decide +kernel
theorem dX13_readItem_140 : decode cX13_readItem 140 = .ok (.getfield 7, 3) := by decide +kernel
theorem dX13_readItem_143 : decode cX13_readItem 143 = .ok (.iconst 1, 1) := by decide +kernel
theorem dX13_readItem_144 : decode cX13_readItem 144 = .ok (.iaload, 1) := by decide +kernel
theorem dX13_readItem_145 : decode cX13_readItem 145 = .ok (.bipush 30, 2) := by decide +kernel
theorem dX13_readItem_147 : decode cX13_readItem 147 = .ok (.if_icmp .ne 9, 3) := by decide +kernel
theorem dX13_readItem_150 : decode cX13_readItem 150 = .ok (.aload_n 0, 1) := by decide +kernel
theorem dX13_readItem_151 : decode cX13_readItem 151 = .ok (.iconst 4, 1) := by decide +kernel
theorem dX13_readItem_152 : decode cX13_readItem 152 = .ok (.invokevirtual 107, 3) := by decide +kernel
theorem dX13_readItem_155 : decode cX13_readItem 155 = .ok (.athrow, 1) := by decide +kernel
theorem dX13_readItem_156 : decode cX13_readItem 156 = .ok (.aload_n 0, 1) := by decide +kernel
theorem dX13_readItem_157 : decode cX13_readItem 157 = .ok (.invokevirtual 111, 3) := by decide +kernel
theorem dX13_readItem_160 : decode cX13_readItem 160 = .ok (.aload_n 0, 1) := by decide +kernel
theorem dX13_readItem_161 : decode cX13_readItem 161 = .ok (.invokevirtual 160, 3) := by decide +kernel
theorem dX13_readItem_164 : decode cX13_readItem 164 = .ok (.aload_n 0, 1) := by decide +kernel
theorem dX13_readItem_165 : decode cX13_readItem 165 = .ok (.invokevirtual 166, 3) := by decide +kernel
theorem dX13_readItem_168 : decode cX13_readItem 168 = .ok (.iconst (-1), 1) := by decide +kernel
theorem dX13_readItem_169 : decode cX13_readItem 169 = .ok (.if_icmp .eq 9, 3) := by decide +kernel
theorem dX13_readItem_172 : decode cX13_readItem 172 = .ok (.aload_n 0, 1) := by decide +kernel
theorem dX13_readItem_173 : decode cX13_readItem 173 = .ok (.iconst 2, 1) := by decide +kernel
theorem dX13_readItem_174 : decode cX13_readItem 174 = .ok (.invokevirtual 107, 3) := by decide +kernel
theorem dX13_readItem_177 : decode cX13_readItem 177 = .ok (.athrow, 1) := by decide +kernel
theorem dX13_readItem_178 : decode cX13_readItem 178 = .ok (.bipush 30, 2) := by decide +kernel
theorem dX13_readItem_180 : decode cX13_readItem 180 = .ok (.aload_n 0, 1) := by decide +kernel
theorem dX13_readItem_181 : decode cX13_readItem 181 = .ok (.getfield 7, 3) := by decide +kernel
theorem dX13_readItem_184 : decode cX13_readItem 184 = .ok (.iconst 1, 1) := by decide +kernel
theorem dX13_readItem_185 : decode cX13_readItem 185 = .ok (.iaload, 1) := by decide +kernel
theorem dX13_readItem_186 : decode cX13_readItem 186 = .ok (.iadd, 1) := by decide +kernel
theorem dX13_readItem_187 : decode cX13_readItem 187 = .ok (.istore_n 1, 1) := by decide +kernel
theorem dX13_readItem_188 : decode cX13_readItem 188 = .ok (.aload_n 0, 1) := by decide +kernel
theorem dX13_readItem_189 : decode cX13_readItem 189 = .ok (.getfield 13, 3) := by decide +kernel
theorem dX13_readItem_192 : decode cX13_readItem 192 = .ok (.iload_n 1, 1) := by decide +kernel
theorem dX13_readItem_193 : decode cX13_readItem 193 = .ok (.aload_n 0, 1) := by decide +kernel
theorem dX13_readItem_194 : decode cX13_readItem 194 = .ok (.getfield 76, 3) := by decide +kernel
theorem dX13_readItem_197 : decode cX13_readItem 197 = .ok (.aload_n 0, 1) := by decide +kernel
theorem dX13_readItem_198 : decode cX13_readItem 198 = .ok (.getfield 60, 3) := by decide +kernel
theorem dX13_readItem_201 : decode cX13_readItem 201 = .ok (.isub, 1) := by decide +kernel
theorem dX13_readItem_202 : decode cX13_readItem 202 = .ok (.iastore, 1) := by decide +kernel
theorem dX13_readItem_203 : decode cX13_readItem 203 = .ok (.iconst 0, 1) := by decide +kernel
theorem dX13_readItem_204 : decode cX13_readItem 204 = .ok (.istore_n 2, 1) := by decide +kernel
theorem dX13_readItem_205 : decode cX13_readItem 205 = .ok (.iload_n 2, 1) := by decide +kernel
theorem dX13_readItem_206 : decode cX13_readItem 206 = .ok (.aload_n 0, 1) := by decide +kernel
theorem dX13_readItem_207 : decode cX13_readItem 207 = .ok (.getfield 13, 3) := by decide +kernel
theorem dX13_readItem_210 : decode cX13_readItem 210 = .ok (.iload_n 1, 1) := by decide +kernel
theorem dX13_readItem_211 : decode cX13_readItem 211 = .ok (.iaload, 1) := by decide +kernel
theorem dX13_readItem_212 : decode cX13_readItem 212 = .ok (.if_icmp .ge 31, 3) := by decide +kernel
theorem dX13_readItem_215 : decode cX13_readItem 215 = .ok (.aload_n 0, 1) := by decide +kernel
theorem dX13_readItem_216 : decode cX13_readItem 216 = .ok (.getfield 19, 3) := by decide +kernel
theorem dX13_readItem_219 : decode cX13_readItem 219 = .ok (.bipush 12, 2) := by decide +kernel
theorem dX13_readItem_221 : decode cX13_readItem 221 = .ok (.iload_n 1, 1) := by decide +kernel
theorem dX13_readItem_222 : decode cX13_readItem 222 = .ok (.imul, 1) := by decide +kernel
theorem dX13_readItem_223 : decode cX13_readItem 223 = .ok (.iload_n 2, 1) := by decide +kernel
theorem dX13_readItem_224 : decode cX13_readItem 224 = .ok (.iadd, 1) := by decide +kernel
theorem dX13_readItem_225 : decode cX13_readItem 225 = .ok (.aload_n 0, 1) := by decide +kernel
theorem dX13_readItem_226 : decode cX13_readItem 226 = .ok (.getfield 73, 3) := by decide +kernel
theorem dX13_readItem_229 : decode cX13_readItem 229 = .ok (.aload_n 0, 1) := by decide +kernel
theorem dX13_readItem_230 : decode cX13_readItem 230 = .ok (.getfield 60, 3) := by decide +kernel
theorem dX13_readItem_233 : decode cX13_readItem 233 = .ok (.iload_n 2, 1) := by decide +kernel
theorem dX13_readItem_234 : decode cX13_readItem 234 = .ok (.iadd, 1) := by decide +kernel
theorem dX13_readItem_235 : decode cX13_readItem 235 = .ok (.baload, 1) := by decide +kernel
theorem dX13_readItem_236 : decode cX13_readItem 236 = .ok (.bastore, 1) := by decide +kernel
theorem dX13_readItem_237 : decode cX13_readItem 237 = .ok (.iinc 2 1, 3) := by decide +kernel
theorem dX13_readItem_240 : decode cX13_readItem 240 = .ok (.goto (-35), 3) := by decide +kernel
theorem dX13_readItem_243 : decode cX13_readItem 243 = .ok (.aload_n 0, 1) := by decide +kernel
theorem dX13_readItem_244 : decode cX13_readItem 244 = .ok (.invokevirtual 111, 3) := by decide +kernel
theorem dX13_readItem_247 : decode cX13_readItem 247 = .ok (.aload_n 0, 1) := by decide +kernel
theorem dX13_readItem_248 : decode cX13_readItem 248 = .ok (.ldc 119, 2) := by decide +kernel
theorem dX13_readItem_250 : decode cX13_readItem 250 = .ok (.invokevirtual 172, 3) := by decide +kernel
theorem dX13_readItem_253 : decode cX13_readItem 253 = .ok (.aload_n 0, 1) := by decide +kernel
theorem dX13_readItem_254 : decode cX13_readItem 254 = .ok (.getfield 16, 3) := by decide +kernel
theorem dX13_readItem_257 : decode cX13_readItem 257 = .ok (.iload_n 1, 1) := by decide +kernel
theorem dX13_readItem_258 : decode cX13_readItem 258 = .ok (.aload_n 0, 1) := by decide +kernel
theorem dX13_readItem_259 : decode cX13_readItem 259 = .ok (.invokevirtual 176, 3) := by decide +kernel
theorem dX13_readItem_262 : decode cX13_readItem 262 = .ok (.iastore, 1) := by decide +kernel
theorem dX13_readItem_263 : decode cX13_readItem 263 = .ok (.aload_n 0, 1) := by decide +kernel
theorem dX13_readItem_264 : decode cX13_readItem 264 = .ok (.getfield 7, 3) := by decide +kernel
theorem dX13_readItem_267 : decode cX13_readItem 267 = .ok (.iconst 1, 1) := by decide +kernel
theorem dX13_readItem_268 : decode cX13_readItem 268 = .ok (.dup2, 1) := by decide +kernel
theorem dX13_readItem_269 : decode cX13_readItem 269 = .ok (.iaload, 1) := by decide +kernel
theorem dX13_readItem_270 : decode cX13_readItem 270 = .ok (.iconst 1, 1) := by decide +kernel
theorem dX13_readItem_271 : decode cX13_readItem 271 = .ok (.iadd, 1) := by decide +kernel
theorem dX13_readItem_272 : decode cX13_readItem 272 = .ok (.iastore, 1) := by decide +kernel
theorem dX13_readItem_273 : decode cX13_readItem 273 = .ok (.goto 7, 3) := by decide +kernel
theorem dX13_readItem_276 : decode cX13_readItem 276 = .ok (.aload_n 0, 1) := by decide +kernel
theorem dX13_readItem_277 : decode cX13_readItem 277 = .ok (.invokevirtual 179, 3) := by decide +kernel
theorem dX13_readItem_280 : decode cX13_readItem 280 = .ok (.return_, 1) := by decide +kernel
theorem dX13_readLine_0 : decode cX13_readLine 0 = .ok (.aload_n 0, 1) := by decide +kernel
theorem dX13_readLine_1 : decode cX13_readLine 1 = .ok (.ldc 121, 2) := by decide +kernel
theorem dX13_readLine_3 : decode cX13_readLine 3 = .ok (.invokevirtual 103, 3) := by decide +kernel
theorem dX13_readLine_6 : decode cX13_readLine 6 = .ok (.ifCond .eq 7, 3) := by decide +kernel
theorem dX13_readLine_9 : decode cX13_readLine 9 = .ok (.iconst 0, 1) := by decide +kernel
theorem dX13_readLine_10 : decode cX13_readLine 10 = .ok (.goto 69, 3) := by decide +kernel
theorem dX13_readLine_13 : decode cX13_readLine 13 = .ok (.aload_n 0, 1) := by decide +kernel
theorem dX13_readLine_14 : decode cX13_readLine 14 = .ok (.ldc 125, 2) := by decide +kernel
theorem dX13_readLine_16 : decode cX13_readLine 16 = .ok (.invokevirtual 103, 3) := by decide +kernel
theorem dX13_readLine_19 : decode cX13_readLine 19 = .ok (.ifCond .eq 7, 3) := by decide +kernel
theorem dX13_readLine_22 : decode cX13_readLine 22 = .ok (.iconst 1, 1) := by decide +kernel
theorem dX13_readLine_23 : decode cX13_readLine 23 = .ok (.goto 56, 3) := by decide +kernel
theorem dX13_readLine_26 : decode cX13_readLine 26 = .ok (.aload_n 0, 1) := by decide +kernel
theorem dX13_readLine_27 : decode cX13_readLine 27 = .ok (.ldc 127, 2) := by decide +kernel
theorem dX13_readLine_29 : decode cX13_readLine 29 = .ok (.invokevirtual 103, 3) := by decide +kernel
theorem dX13_readLine_32 : decode cX13_readLine 32 = .ok (.ifCond .eq 7, 3) := by decide +kernel
theorem dX13_readLine_35 : decode cX13_readLine 35 = .ok (.iconst 2, 1) := by decide +kernel
theorem dX13_readLine_36 : decode cX13_readLine 36 = .ok (.goto 43, 3) := by decide +kernel
theorem dX13_readLine_39 : decode cX13_readLine 39 = .ok (.aload_n 0, 1) := by decide +kernel
theorem dX13_readLine_40 : decode cX13_readLine 40 = .ok (.ldc 131, 2) := by decide +kernel
theorem dX13_readLine_42 : decode cX13_readLine 42 = .ok (.invokevirtual 103, 3) := by decide +kernel
theorem dX13_readLine_45 : decode cX13_readLine 45 = .ok (.ifCond .eq 7, 3) := by decide +kernel
theorem dX13_readLine_48 : decode cX13_readLine 48 = .ok (.iconst 3, 1) := by decide +kernel
theorem dX13_readLine_49 : decode cX13_readLine 49 = .ok (.goto 30, 3) := by decide +kernel
theorem dX13_readLine_52 : decode cX13_readLine 52 = .ok (.aload_n 0, 1) := by decide +kernel
theorem dX13_readLine_53 : decode cX13_readLine 53 = .ok (.ldc 137, 2) := by decide +kernel
theorem dX13_readLine_55 : decode cX13_readLine 55 = .ok (.invokevirtual 103, 3) := by decide +kernel
theorem dX13_readLine_58 : decode cX13_readLine 58 = .ok (.ifCond .eq 7, 3) := by decide +kernel
theorem dX13_readLine_61 : decode cX13_readLine 61 = .ok (.iconst 4, 1) := by decide +kernel
theorem dX13_readLine_62 : decode cX13_readLine 62 = .ok (.goto 17, 3) := by decide +kernel
theorem dX13_readLine_65 : decode cX13_readLine 65 = .ok (.aload_n 0, 1) := by decide +kernel
theorem dX13_readLine_66 : decode cX13_readLine 66 = .ok (.ldc 139, 2) := by decide +kernel
theorem dX13_readLine_68 : decode cX13_readLine 68 = .ok (.invokevirtual 103, 3) := by decide +kernel
theorem dX13_readLine_71 : decode cX13_readLine 71 = .ok (.ifCond .eq 7, 3) := by decide +kernel
theorem dX13_readLine_74 : decode cX13_readLine 74 = .ok (.iconst 5, 1) := by decide +kernel
theorem dX13_readLine_75 : decode cX13_readLine 75 = .ok (.goto 4, 3) := by decide +kernel
theorem dX13_readLine_78 : decode cX13_readLine 78 = .ok (.iconst (-1), 1) := by decide +kernel
theorem dX13_readLine_79 : decode cX13_readLine 79 = .ok (.istore_n 1, 1) := by decide +kernel
theorem dX13_readLine_80 : decode cX13_readLine 80 = .ok (.iload_n 1, 1) := by decide +kernel
theorem dX13_readLine_81 : decode cX13_readLine 81 = .ok (.iconst (-1), 1) := by decide +kernel
theorem dX13_readLine_82 : decode cX13_readLine 82 = .ok (.if_icmp .ne 9, 3) := by decide +kernel
theorem dX13_readLine_85 : decode cX13_readLine 85 = .ok (.aload_n 0, 1) := by decide +kernel
theorem dX13_readLine_86 : decode cX13_readLine 86 = .ok (.iconst 1, 1) := by decide +kernel
theorem dX13_readLine_87 : decode cX13_readLine 87 = .ok (.invokevirtual 107, 3) := by decide +kernel
theorem dX13_readLine_90 : decode cX13_readLine 90 = .ok (.athrow, 1) := by decide +kernel
theorem dX13_readLine_91 : decode cX13_readLine 91 = .ok (.aload_n 0, 1) := by decide +kernel
theorem dX13_readLine_92 : decode cX13_readLine 92 = .ok (.getfield 10, 3) := by decide +kernel
theorem dX13_readLine_95 : decode cX13_readLine 95 = .ok (.iconst 1, 1) := by decide +kernel
theorem dX13_readLine_96 : decode cX13_readLine 96 = .ok (.iaload, 1) := by decide +kernel
theorem dX13_readLine_97 : decode cX13_readLine 97 = .ok (.bipush 60, 2) := by decide +kernel
theorem dX13_readLine_99 : decode cX13_readLine 99 = .ok (.if_icmp .ne 9, 3) := by decide +kernel
theorem dX13_readLine_102 : decode cX13_readLine 102 = .ok (.aload_n 0, 1) := by decide +kernel
theorem dX13_readLine_103 : decode cX13_readLine 103 = .ok (.iconst 4, 1) := by decide +kernel
theorem dX13_readLine_104 : decode cX13_readLine 104 = .ok (.invokevirtual 107, 3) := by decide +kernel
theorem dX13_readLine_107 : decode cX13_readLine 107 = .ok (.athrow, 1) := by decide +kernel
theorem dX13_readLine_108 : decode cX13_readLine 108 = .ok (.bipush 60, 2) := by decide +kernel
theorem dX13_readLine_110 : decode cX13_readLine 110 = .ok (.aload_n 0, 1) := by decide +kernel
theorem dX13_readLine_111 : decode cX13_readLine 111 = .ok (.getfield 10, 3) := by decide +kernel
theorem dX13_readLine_114 : decode cX13_readLine 114 = .ok (.iconst 1, 1) := by decide +kernel
theorem dX13_readLine_115 : decode cX13_readLine 115 = .ok (.iaload, 1) := by decide +kernel
theorem dX13_readLine_116 : decode cX13_readLine 116 = .ok (.iadd, 1) := by decide +kernel
theorem dX13_readLine_117 : decode cX13_readLine 117 = .ok (.istore_n 2, 1) := by decide +kernel
theorem dX13_readLine_118 : decode cX13_readLine 118 = .ok (.aload_n 0, 1) := by decide +kernel
theorem dX13_readLine_119 : decode cX13_readLine 119 = .ok (.getfield 29, 3) := by decide +kernel
theorem dX13_readLine_122 : decode cX13_readLine 122 = .ok (.iload_n 2, 1) := by decide +kernel
theorem dX13_readLine_123 : decode cX13_readLine 123 = .ok (.iload_n 1, 1) := by decide +kernel
theorem dX13_readLine_124 : decode cX13_readLine 124 = .ok (.iastore, 1) := by decide +kernel
theorem dX13_readLine_125 : decode cX13_readLine 125 = .ok (.aload_n 0, 1) := by decide +kernel
theorem dX13_readLine_126 : decode cX13_readLine 126 = .ok (.getfield 32, 3) := by decide +kernel
theorem dX13_readLine_129 : decode cX13_readLine 129 = .ok (.iload_n 2, 1) := by decide +kernel
theorem dX13_readLine_130 : decode cX13_readLine 130 = .ok (.iconst (-1), 1) := by decide +kernel
theorem dX13_readLine_131 : decode cX13_readLine 131 = .ok (.iastore, 1) := by decide +kernel
theorem dX13_readLine_132 : decode cX13_readLine 132 = .ok (.aload_n 0, 1) := by decide +kernel
theorem dX13_readLine_133 : decode cX13_readLine 133 = .ok (.getfield 35, 3) := by decide +kernel
theorem dX13_readLine_136 : decode cX13_readLine 136 = .ok (.iload_n 2, 1) := by decide +kernel
theorem dX13_readLine_137 : decode cX13_readLine 137 = .ok (.iconst (-1), 1) := by decide +kernel
theorem dX13_readLine_138 : decode cX13_readLine 138 = .ok (.iastore, 1) := by decide +kernel
theorem dX13_readLine_139 : decode cX13_readLine 139 = .ok (.aload_n 0, 1) := by decide +kernel
theorem dX13_readLine_140 : decode cX13_readLine 140 = .ok (.getfield 38, 3) := by decide +kernel
theorem dX13_readLine_143 : decode cX13_readLine 143 = .ok (.iload_n 2, 1) := by decide +kernel
theorem dX13_readLine_144 : decode cX13_readLine 144 = .ok (.iconst (-1), 1) := by decide +kernel
theorem dX13_readLine_145 : decode cX13_readLine 145 = .ok (.iastore, 1) := by decide +kernel
theorem dX13_readLine_146 : decode cX13_readLine 146 = .ok (.aload_n 0, 1) := by decide +kernel
theorem dX13_readLine_147 : decode cX13_readLine 147 = .ok (.getfield 41, 3) := by decide +kernel
theorem dX13_readLine_150 : decode cX13_readLine 150 = .ok (.iload_n 2, 1) := by decide +kernel
theorem dX13_readLine_151 : decode cX13_readLine 151 = .ok (.iconst 0, 1) := by decide +kernel
theorem dX13_readLine_152 : decode cX13_readLine 152 = .ok (.iastore, 1) := by decide +kernel
theorem dX13_readLine_153 : decode cX13_readLine 153 = .ok (.aload_n 0, 1) := by decide +kernel
theorem dX13_readLine_154 : decode cX13_readLine 154 = .ok (.getfield 44, 3) := by decide +kernel
theorem dX13_readLine_157 : decode cX13_readLine 157 = .ok (.iload_n 2, 1) := by decide +kernel
theorem dX13_readLine_158 : decode cX13_readLine 158 = .ok (.iconst 0, 1) := by decide +kernel
theorem dX13_readLine_159 : decode cX13_readLine 159 = .ok (.iastore, 1) := by decide +kernel
theorem dX13_readLine_160 : decode cX13_readLine 160 = .ok (.aload_n 0, 1) := by decide +kernel
theorem dX13_readLine_161 : decode cX13_readLine 161 = .ok (.getfield 47, 3) := by decide +kernel
theorem dX13_readLine_164 : decode cX13_readLine 164 = .ok (.iload_n 2, 1) := by decide +kernel
theorem dX13_readLine_165 : decode cX13_readLine 165 = .ok (.iconst 0, 1) := by decide +kernel
theorem dX13_readLine_166 : decode cX13_readLine 166 = .ok (.iastore, 1) := by decide +kernel
theorem dX13_readLine_167 : decode cX13_readLine 167 = .ok (.aload_n 0, 1) := by decide +kernel
theorem dX13_readLine_168 : decode cX13_readLine 168 = .ok (.invokevirtual 111, 3) := by decide +kernel
theorem dX13_readLine_171 : decode cX13_readLine 171 = .ok (.iload_n 1, 1) := by decide +kernel
theorem dX13_readLine_172 : decode cX13_readLine 172 = .ok (.iconst 4, 1) := by decide +kernel
theorem dX13_readLine_173 : decode cX13_readLine 173 = .ok (.if_icmp .eq 8, 3) := by decide +kernel
theorem dX13_readLine_176 : decode cX13_readLine 176 = .ok (.iload_n 1, 1) := by decide +kernel
theorem dX13_readLine_177 : decode cX13_readLine 177 = .ok (.iconst 5, 1) := by decide +kernel
theorem dX13_readLine_178 : decode cX13_readLine 178 = .ok (.if_icmp .ne 16, 3) := by decide +kernel
theorem dX13_readLine_181 : decode cX13_readLine 181 = .ok (.aload_n 0, 1) := by decide +kernel
theorem dX13_readLine_182 : decode cX13_readLine 182 = .ok (.getfield 32, 3) := by decide +kernel
theorem dX13_readLine_185 : decode cX13_readLine 185 = .ok (.iload_n 2, 1) := by decide +kernel
theorem dX13_readLine_186 : decode cX13_readLine 186 = .ok (.aload_n 0, 1) := by decide +kernel
theorem dX13_readLine_187 : decode cX13_readLine 187 = .ok (.invokevirtual 182, 3) := by decide +kernel
theorem dX13_readLine_190 : decode cX13_readLine 190 = .ok (.iastore, 1) := by decide +kernel
theorem dX13_readLine_191 : decode cX13_readLine 191 = .ok (.goto 13, 3) := by decide +kernel
theorem dX13_readLine_194 : decode cX13_readLine 194 = .ok (.iload_n 1, 1) := by decide +kernel
theorem dX13_readLine_195 : decode cX13_readLine 195 = .ok (.iconst 2, 1) := by decide +kernel
theorem dX13_readLine_196 : decode cX13_readLine 196 = .ok (.if_icmp .eq 8, 3) := by decide +kernel
theorem dX13_readLine_199 : decode cX13_readLine 199 = .ok (.aload_n 0, 1) := by decide +kernel
theorem dX13_readLine_200 : decode cX13_readLine 200 = .ok (.iload_n 2, 1) := by decide +kernel
theorem dX13_readLine_201 : decode cX13_readLine 201 = .ok (.invokevirtual 185, 3) := by decide +kernel
theorem dX13_readLine_204 : decode cX13_readLine 204 = .ok (.iload_n 1, 1) := by decide +kernel
theorem dX13_readLine_205 : decode cX13_readLine 205 = .ok (.iconst 2, 1) := by decide +kernel
theorem dX13_readLine_206 : decode cX13_readLine 206 = .ok (.if_icmp .eq 13, 3) := by decide +kernel
theorem dX13_readLine_209 : decode cX13_readLine 209 = .ok (.iload_n 1, 1) := by decide +kernel
theorem dX13_readLine_210 : decode cX13_readLine 210 = .ok (.iconst 3, 1) := by decide +kernel
theorem dX13_readLine_211 : decode cX13_readLine 211 = .ok (.if_icmp .eq 8, 3) := by decide +kernel
theorem dX13_readLine_214 : decode cX13_readLine 214 = .ok (.aload_n 0, 1) := by decide +kernel
theorem dX13_readLine_215 : decode cX13_readLine 215 = .ok (.iload_n 2, 1) := by decide +kernel
theorem dX13_readLine_216 : decode cX13_readLine 216 = .ok (.invokevirtual 189, 3) := by decide +kernel
theorem dX13_readLine_219 : decode cX13_readLine 219 = .ok (.iload_n 1, 1) := by decide +kernel
theorem dX13_readLine_220 : decode cX13_readLine 220 = .ok (.iconst 3, 1) := by decide +kernel
theorem dX13_readLine_221 : decode cX13_readLine 221 = .ok (.if_icmp .ne 8, 3) := by decide +kernel
theorem dX13_readLine_224 : decode cX13_readLine 224 = .ok (.aload_n 0, 1) := by decide +kernel
theorem dX13_readLine_225 : decode cX13_readLine 225 = .ok (.iload_n 2, 1) := by decide +kernel
theorem dX13_readLine_226 : decode cX13_readLine 226 = .ok (.invokevirtual 192, 3) := by decide +kernel
theorem dX13_readLine_229 : decode cX13_readLine 229 = .ok (.iload_n 1, 1) := by decide +kernel
theorem dX13_readLine_230 : decode cX13_readLine 230 = .ok (.ifCond .eq 18, 3) := by decide +kernel
theorem dX13_readLine_233 : decode cX13_readLine 233 = .ok (.iload_n 1, 1) := by decide +kernel
theorem dX13_readLine_234 : decode cX13_readLine 234 = .ok (.iconst 1, 1) := by decide +kernel
theorem dX13_readLine_235 : decode cX13_readLine 235 = .ok (.if_icmp .eq 13, 3) := by decide +kernel
theorem dX13_readLine_238 : decode cX13_readLine 238 = .ok (.iload_n 1, 1) := by decide +kernel
theorem dX13_readLine_239 : decode cX13_readLine 239 = .ok (.iconst 2, 1) := by decide +kernel
theorem dX13_readLine_240 : decode cX13_readLine 240 = .ok (.if_icmp .eq 8, 3) := by decide +kernel
theorem dX13_readLine_243 : decode cX13_readLine 243 = .ok (.iload_n 1, 1) := by decide +kernel
theorem dX13_readLine_244 : decode cX13_readLine 244 = .ok (.iconst 4, 1) := by decide +kernel
theorem dX13_readLine_245 : decode cX13_readLine 245 = .ok (.if_icmp .ne 76, 3) := by decide +kernel
theorem dX13_readLine_248 : decode cX13_readLine 248 = .ok (.aload_n 0, 1) := by decide +kernel
theorem dX13_readLine_249 : decode cX13_readLine 249 = .ok (.getfield 83, 3) := by decide +kernel
theorem dX13_readLine_252 : decode cX13_readLine 252 = .ok (.iconst 3, 1) := by decide +kernel
theorem dX13_readLine_253 : decode cX13_readLine 253 = .ok (.if_icmp .eq 9, 3) := by decide +kernel
theorem dX13_readLine_256 : decode cX13_readLine 256 = .ok (.aload_n 0, 1) := by decide +kernel
theorem dX13_readLine_257 : decode cX13_readLine 257 = .ok (.iconst 1, 1) := by decide +kernel
theorem dX13_readLine_258 : decode cX13_readLine 258 = .ok (.invokevirtual 107, 3) := by decide +kernel
theorem dX13_readLine_261 : decode cX13_readLine 261 = .ok (.athrow, 1) := by decide +kernel
theorem dX13_readLine_262 : decode cX13_readLine 262 = .ok (.iload_n 1, 1) := by decide +kernel
theorem dX13_readLine_263 : decode cX13_readLine 263 = .ok (.iconst 4, 1) := by decide +kernel
theorem dX13_readLine_264 : decode cX13_readLine 264 = .ok (.if_icmp .ne 18, 3) := by decide +kernel
theorem dX13_readLine_267 : decode cX13_readLine 267 = .ok (.aload_n 0, 1) := by decide +kernel
theorem dX13_readLine_268 : decode cX13_readLine 268 = .ok (.iload_n 2, 1) := by decide +kernel
theorem dX13_readLine_269 : decode cX13_readLine 269 = .ok (.invokevirtual 195, 3) := by decide +kernel
theorem dX13_readLine_272 : decode cX13_readLine 272 = .ok (.iconst 2, 1) := by decide +kernel
theorem dX13_readLine_273 : decode cX13_readLine 273 = .ok (.if_icmp .lt 9, 3) := by decide +kernel
theorem dX13_readLine_276 : decode cX13_readLine 276 = .ok (.aload_n 0, 1) := by decide +kernel
theorem dX13_readLine_277 : decode cX13_readLine 277 = .ok (.iconst 4, 1) := by decide +kernel
theorem dX13_readLine_278 : decode cX13_readLine 278 = .ok (.invokevirtual 107, 3) := by decide +kernel
theorem dX13_readLine_281 : decode cX13_readLine 281 = .ok (.athrow, 1) := by decide +kernel
theorem dX13_readLine_282 : decode cX13_readLine 282 = .ok (.iload_n 1, 1) := by decide +kernel
theorem dX13_readLine_283 : decode cX13_readLine 283 = .ok (.iconst 1, 1) := by decide +kernel
theorem dX13_readLine_284 : decode cX13_readLine 284 = .ok (.if_icmp .eq 22, 3) := by decide +kernel
theorem dX13_readLine_287 : decode cX13_readLine 287 = .ok (.aload_n 0, 1) := by decide +kernel
theorem dX13_readLine_288 : decode cX13_readLine 288 = .ok (.getfield 76, 3) := by decide +kernel
theorem dX13_readLine_291 : decode cX13_readLine 291 = .ok (.aload_n 0, 1) := by decide +kernel
theorem dX13_readLine_292 : decode cX13_readLine 292 = .ok (.getfield 60, 3) := by decide +kernel
theorem dX13_readLine_295 : decode cX13_readLine 295 = .ok (.isub, 1) := by decide +kernel
theorem dX13_readLine_296 : decode cX13_readLine 296 = .ok (.iconst 2, 1) := by decide +kernel
theorem dX13_readLine_297 : decode cX13_readLine 297 = .ok (.if_icmp .ne 9, 3) := by decide +kernel
theorem dX13_readLine_300 : decode cX13_readLine 300 = .ok (.aload_n 0, 1) := by decide +kernel
theorem dX13_readLine_301 : decode cX13_readLine 301 = .ok (.iconst 5, 1) := by decide +kernel
theorem dX13_readLine_302 : decode cX13_readLine 302 = .ok (.invokevirtual 107, 3) := by decide +kernel
theorem dX13_readLine_305 : decode cX13_readLine 305 = .ok (.athrow, 1) := by decide +kernel
theorem dX13_readLine_306 : decode cX13_readLine 306 = .ok (.aload_n 0, 1) := by decide +kernel
theorem dX13_readLine_307 : decode cX13_readLine 307 = .ok (.getfield 41, 3) := by decide +kernel
theorem dX13_readLine_310 : decode cX13_readLine 310 = .ok (.iload_n 2, 1) := by decide +kernel
theorem dX13_readLine_311 : decode cX13_readLine 311 = .ok (.aload_n 0, 1) := by decide +kernel
theorem dX13_readLine_312 : decode cX13_readLine 312 = .ok (.aload_n 0, 1) := by decide +kernel
theorem dX13_readLine_313 : decode cX13_readLine 313 = .ok (.getfield 23, 3) := by decide +kernel
theorem dX13_readLine_316 : decode cX13_readLine 316 = .ok (.iload_n 2, 1) := by decide +kernel
theorem dX13_readLine_317 : decode cX13_readLine 317 = .ok (.invokevirtual 198, 3) := by decide +kernel
theorem dX13_readLine_320 : decode cX13_readLine 320 = .ok (.iastore, 1) := by decide +kernel
theorem dX13_readLine_321 : decode cX13_readLine 321 = .ok (.iload_n 1, 1) := by decide +kernel
theorem dX13_readLine_322 : decode cX13_readLine 322 = .ok (.ifCond .eq 8, 3) := by decide +kernel
theorem dX13_readLine_325 : decode cX13_readLine 325 = .ok (.iload_n 1, 1) := by decide +kernel
theorem dX13_readLine_326 : decode cX13_readLine 326 = .ok (.iconst 2, 1) := by decide +kernel
theorem dX13_readLine_327 : decode cX13_readLine 327 = .ok (.if_icmp .ne 38, 3) := by decide +kernel
theorem dX13_readLine_330 : decode cX13_readLine 330 = .ok (.aload_n 0, 1) := by decide +kernel
theorem dX13_readLine_331 : decode cX13_readLine 331 = .ok (.ldc 123, 2) := by decide +kernel
theorem dX13_readLine_333 : decode cX13_readLine 333 = .ok (.invokevirtual 172, 3) := by decide +kernel
theorem dX13_readLine_336 : decode cX13_readLine 336 = .ok (.aload_n 0, 1) := by decide +kernel
theorem dX13_readLine_337 : decode cX13_readLine 337 = .ok (.getfield 83, 3) := by decide +kernel
theorem dX13_readLine_340 : decode cX13_readLine 340 = .ok (.iconst 3, 1) := by decide +kernel
theorem dX13_readLine_341 : decode cX13_readLine 341 = .ok (.if_icmp .eq 9, 3) := by decide +kernel
theorem dX13_readLine_344 : decode cX13_readLine 344 = .ok (.aload_n 0, 1) := by decide +kernel
theorem dX13_readLine_345 : decode cX13_readLine 345 = .ok (.iconst 1, 1) := by decide +kernel
theorem dX13_readLine_346 : decode cX13_readLine 346 = .ok (.invokevirtual 107, 3) := by decide +kernel
theorem dX13_readLine_349 : decode cX13_readLine 349 = .ok (.athrow, 1) := by decide +kernel
theorem dX13_readLine_350 : decode cX13_readLine 350 = .ok (.aload_n 0, 1) := by decide +kernel
theorem dX13_readLine_351 : decode cX13_readLine 351 = .ok (.getfield 44, 3) := by decide +kernel
theorem dX13_readLine_354 : decode cX13_readLine 354 = .ok (.iload_n 2, 1) := by decide +kernel
theorem dX13_readLine_355 : decode cX13_readLine 355 = .ok (.aload_n 0, 1) := by decide +kernel
theorem dX13_readLine_356 : decode cX13_readLine 356 = .ok (.aload_n 0, 1) := by decide +kernel
theorem dX13_readLine_357 : decode cX13_readLine 357 = .ok (.getfield 26, 3) := by decide +kernel
theorem dX13_readLine_360 : decode cX13_readLine 360 = .ok (.iload_n 2, 1) := by decide +kernel
theorem dX13_readLine_361 : decode cX13_readLine 361 = .ok (.invokevirtual 198, 3) := by decide +kernel
theorem dX13_readLine_364 : decode cX13_readLine 364 = .ok (.iastore, 1) := by decide +kernel
theorem dX13_readLine_365 : decode cX13_readLine 365 = .ok (.iload_n 1, 1) := by decide +kernel
theorem dX13_readLine_366 : decode cX13_readLine 366 = .ok (.iconst 2, 1) := by decide +kernel
theorem dX13_readLine_367 : decode cX13_readLine 367 = .ok (.if_icmp .ne 23, 3) := by decide +kernel
theorem dX13_readLine_370 : decode cX13_readLine 370 = .ok (.aload_n 0, 1) := by decide +kernel
theorem dX13_readLine_371 : decode cX13_readLine 371 = .ok (.ldc 129, 2) := by decide +kernel
theorem dX13_readLine_373 : decode cX13_readLine 373 = .ok (.invokevirtual 103, 3) := by decide +kernel
theorem dX13_readLine_376 : decode cX13_readLine 376 = .ok (.ifCond .eq 14, 3) := by decide +kernel
theorem dX13_readLine_379 : decode cX13_readLine 379 = .ok (.aload_n 0, 1) := by decide +kernel
theorem dX13_readLine_380 : decode cX13_readLine 380 = .ok (.getfield 47, 3) := by decide +kernel
theorem dX13_readLine_383 : decode cX13_readLine 383 = .ok (.iload_n 2, 1) := by decide +kernel
theorem dX13_readLine_384 : decode cX13_readLine 384 = .ok (.iconst 1, 1) := by decide +kernel
theorem dX13_readLine_385 : decode cX13_readLine 385 = .ok (.iastore, 1) := by decide +kernel
theorem dX13_readLine_386 : decode cX13_readLine 386 = .ok (.aload_n 0, 1) := by decide +kernel
theorem dX13_readLine_387 : decode cX13_readLine 387 = .ok (.invokevirtual 111, 3) := by decide +kernel
theorem dX13_readLine_390 : decode cX13_readLine 390 = .ok (.aload_n 0, 1) := by decide +kernel
theorem dX13_readLine_391 : decode cX13_readLine 391 = .ok (.getfield 10, 3) := by decide +kernel
theorem dX13_readLine_394 : decode cX13_readLine 394 = .ok (.iconst 1, 1) := by decide +kernel
theorem dX13_readLine_395 : decode cX13_readLine 395 = .ok (.dup2, 1) := by decide +kernel
theorem dX13_readLine_396 : decode cX13_readLine 396 = .ok (.iaload, 1) := by decide +kernel
theorem dX13_readLine_397 : decode cX13_readLine 397 = .ok (.iconst 1, 1) := by decide +kernel
theorem dX13_readLine_398 : decode cX13_readLine 398 = .ok (.iadd, 1) := by decide +kernel
theorem dX13_readLine_399 : decode cX13_readLine 399 = .ok (.iastore, 1) := by decide +kernel
theorem dX13_readLine_400 : decode cX13_readLine 400 = .ok (.return_, 1) := by decide +kernel
theorem dX13_readWhere_0 : decode cX13_readWhere 0 = .ok (.aload_n 0, 1) := by decide +kernel
theorem dX13_readWhere_1 : decode cX13_readWhere 1 = .ok (.ldc 141, 2) := by decide +kernel
theorem dX13_readWhere_3 : decode cX13_readWhere 3 = .ok (.invokevirtual 103, 3) := by decide +kernel
theorem dX13_readWhere_6 : decode cX13_readWhere 6 = .ok (.ifCond .eq 8, 3) := by decide +kernel
theorem dX13_readWhere_9 : decode cX13_readWhere 9 = .ok (.aload_n 0, 1) := by decide +kernel
theorem dX13_readWhere_10 : decode cX13_readWhere 10 = .ok (.invokevirtual 111, 3) := by decide +kernel
theorem dX13_readWhere_13 : decode cX13_readWhere 13 = .ok (.return_, 1) := by decide +kernel
theorem dX13_readWhere_14 : decode cX13_readWhere 14 = .ok (.aload_n 0, 1) := by decide +kernel
theorem dX13_readWhere_15 : decode cX13_readWhere 15 = .ok (.ldc 143, 2) := by decide +kernel
theorem dX13_readWhere_17 : decode cX13_readWhere 17 = .ok (.invokevirtual 172, 3) := by decide +kernel
theorem dX13_readWhere_20 : decode cX13_readWhere 20 = .ok (.aload_n 0, 1) := by decide +kernel
theorem dX13_readWhere_21 : decode cX13_readWhere 21 = .ok (.getfield 32, 3) := by decide +kernel
theorem dX13_readWhere_24 : decode cX13_readWhere 24 = .ok (.iload_n 1, 1) := by decide +kernel
theorem dX13_readWhere_25 : decode cX13_readWhere 25 = .ok (.aload_n 0, 1) := by decide +kernel
theorem dX13_readWhere_26 : decode cX13_readWhere 26 = .ok (.invokevirtual 176, 3) := by decide +kernel
theorem dX13_readWhere_29 : decode cX13_readWhere 29 = .ok (.iastore, 1) := by decide +kernel
theorem dX13_readWhere_30 : decode cX13_readWhere 30 = .ok (.return_, 1) := by decide +kernel
theorem dX13_readSlot_0 : decode cX13_readSlot 0 = .ok (.aload_n 0, 1) := by decide +kernel
theorem dX13_readSlot_1 : decode cX13_readSlot 1 = .ok (.ldc 133, 2) := by decide +kernel
theorem dX13_readSlot_3 : decode cX13_readSlot 3 = .ok (.invokevirtual 172, 3) := by decide +kernel
theorem dX13_readSlot_6 : decode cX13_readSlot 6 = .ok (.aload_n 0, 1) := by decide +kernel
theorem dX13_readSlot_7 : decode cX13_readSlot 7 = .ok (.getfield 35, 3) := by decide +kernel
theorem dX13_readSlot_10 : decode cX13_readSlot 10 = .ok (.iload_n 1, 1) := by decide +kernel
theorem dX13_readSlot_11 : decode cX13_readSlot 11 = .ok (.aload_n 0, 1) := by decide +kernel
theorem dX13_readSlot_12 : decode cX13_readSlot 12 = .ok (.iconst 4, 1) := by decide +kernel
theorem dX13_readSlot_13 : decode cX13_readSlot 13 = .ok (.invokevirtual 202, 3) := by decide +kernel
theorem dX13_readSlot_16 : decode cX13_readSlot 16 = .ok (.iastore, 1) := by decide +kernel
theorem dX13_readSlot_17 : decode cX13_readSlot 17 = .ok (.aload_n 0, 1) := by decide +kernel
theorem dX13_readSlot_18 : decode cX13_readSlot 18 = .ok (.ldc 145, 2) := by decide +kernel
theorem dX13_readSlot_20 : decode cX13_readSlot 20 = .ok (.invokevirtual 103, 3) := by decide +kernel
theorem dX13_readSlot_23 : decode cX13_readSlot 23 = .ok (.ifCond .ne 4, 3) := by decide +kernel
theorem dX13_readSlot_26 : decode cX13_readSlot 26 = .ok (.return_, 1) := by decide +kernel
theorem dX13_readSlot_27 : decode cX13_readSlot 27 = .ok (.aload_n 0, 1) := by decide +kernel
theorem dX13_readSlot_28 : decode cX13_readSlot 28 = .ok (.invokevirtual 111, 3) := by decide +kernel
theorem dX13_readSlot_31 : decode cX13_readSlot 31 = .ok (.aload_n 0, 1) := by decide +kernel
theorem dX13_readSlot_32 : decode cX13_readSlot 32 = .ok (.getfield 38, 3) := by decide +kernel
theorem dX13_readSlot_35 : decode cX13_readSlot 35 = .ok (.iload_n 1, 1) := by decide +kernel
theorem dX13_readSlot_36 : decode cX13_readSlot 36 = .ok (.aload_n 0, 1) := by decide +kernel
theorem dX13_readSlot_37 : decode cX13_readSlot 37 = .ok (.iconst 5, 1) := by decide +kernel
theorem dX13_readSlot_38 : decode cX13_readSlot 38 = .ok (.invokevirtual 202, 3) := by decide +kernel
theorem dX13_readSlot_41 : decode cX13_readSlot 41 = .ok (.iastore, 1) := by decide +kernel
theorem dX13_readSlot_42 : decode cX13_readSlot 42 = .ok (.return_, 1) := by decide +kernel
theorem dX13_readCompound_0 : decode cX13_readCompound 0 = .ok (.aload_n 0, 1) := by decide +kernel
theorem dX13_readCompound_1 : decode cX13_readCompound 1 = .ok (.ldc 133, 2) := by decide +kernel
theorem dX13_readCompound_3 : decode cX13_readCompound 3 = .ok (.invokevirtual 172, 3) := by decide +kernel
theorem dX13_readCompound_6 : decode cX13_readCompound 6 = .ok (.aload_n 0, 1) := by decide +kernel
theorem dX13_readCompound_7 : decode cX13_readCompound 7 = .ok (.getfield 35, 3) := by decide +kernel
theorem dX13_readCompound_10 : decode cX13_readCompound 10 = .ok (.iload_n 1, 1) := by decide +kernel
theorem dX13_readCompound_11 : decode cX13_readCompound 11 = .ok (.aload_n 0, 1) := by decide +kernel
theorem dX13_readCompound_12 : decode cX13_readCompound 12 = .ok (.iconst 4, 1) := by decide +kernel
theorem dX13_readCompound_13 : decode cX13_readCompound 13 = .ok (.invokevirtual 202, 3) := by decide +kernel
theorem dX13_readCompound_16 : decode cX13_readCompound 16 = .ok (.iastore, 1) := by decide +kernel
theorem dX13_readCompound_17 : decode cX13_readCompound 17 = .ok (.aload_n 0, 1) := by decide +kernel
theorem dX13_readCompound_18 : decode cX13_readCompound 18 = .ok (.ldc 134, 2) := by decide +kernel
theorem dX13_readCompound_20 : decode cX13_readCompound 20 = .ok (.invokevirtual 172, 3) := by decide +kernel
theorem dX13_readCompound_23 : decode cX13_readCompound 23 = .ok (.aload_n 0, 1) := by decide +kernel
theorem dX13_readCompound_24 : decode cX13_readCompound 24 = .ok (.getfield 47, 3) := by decide +kernel
theorem dX13_readCompound_27 : decode cX13_readCompound 27 = .ok (.iload_n 1, 1) := by decide +kernel
theorem dX13_readCompound_28 : decode cX13_readCompound 28 = .ok (.aload_n 0, 1) := by decide +kernel
theorem dX13_readCompound_29 : decode cX13_readCompound 29 = .ok (.invokevirtual 182, 3) := by decide +kernel
theorem dX13_readCompound_32 : decode cX13_readCompound 32 = .ok (.iastore, 1) := by decide +kernel
theorem dX13_readCompound_33 : decode cX13_readCompound 33 = .ok (.aload_n 0, 1) := by decide +kernel
theorem dX13_readCompound_34 : decode cX13_readCompound 34 = .ok (.ldc 133, 2) := by decide +kernel
theorem dX13_readCompound_36 : decode cX13_readCompound 36 = .ok (.invokevirtual 172, 3) := by decide +kernel
theorem dX13_readCompound_39 : decode cX13_readCompound 39 = .ok (.aload_n 0, 1) := by decide +kernel
theorem dX13_readCompound_40 : decode cX13_readCompound 40 = .ok (.getfield 50, 3) := by decide +kernel
theorem dX13_readCompound_43 : decode cX13_readCompound 43 = .ok (.iload_n 1, 1) := by decide +kernel
theorem dX13_readCompound_44 : decode cX13_readCompound 44 = .ok (.aload_n 0, 1) := by decide +kernel
theorem dX13_readCompound_45 : decode cX13_readCompound 45 = .ok (.iconst 4, 1) := by decide +kernel
theorem dX13_readCompound_46 : decode cX13_readCompound 46 = .ok (.invokevirtual 202, 3) := by decide +kernel
theorem dX13_readCompound_49 : decode cX13_readCompound 49 = .ok (.iastore, 1) := by decide +kernel
theorem dX13_readCompound_50 : decode cX13_readCompound 50 = .ok (.aload_n 0, 1) := by decide +kernel
theorem dX13_readCompound_51 : decode cX13_readCompound 51 = .ok (.ldc 136, 2) := by decide +kernel
theorem dX13_readCompound_53 : decode cX13_readCompound 53 = .ok (.invokevirtual 172, 3) := by decide +kernel
theorem dX13_readCompound_56 : decode cX13_readCompound 56 = .ok (.aload_n 0, 1) := by decide +kernel
theorem dX13_readCompound_57 : decode cX13_readCompound 57 = .ok (.getfield 53, 3) := by decide +kernel
theorem dX13_readCompound_60 : decode cX13_readCompound 60 = .ok (.iload_n 1, 1) := by decide +kernel
theorem dX13_readCompound_61 : decode cX13_readCompound 61 = .ok (.aload_n 0, 1) := by decide +kernel
theorem dX13_readCompound_62 : decode cX13_readCompound 62 = .ok (.iconst 4, 1) := by decide +kernel
theorem dX13_readCompound_63 : decode cX13_readCompound 63 = .ok (.invokevirtual 202, 3) := by decide +kernel
theorem dX13_readCompound_66 : decode cX13_readCompound 66 = .ok (.iastore, 1) := by decide +kernel
theorem dX13_readCompound_67 : decode cX13_readCompound 67 = .ok (.return_, 1) := by decide +kernel
theorem dX13_alike_0 : decode cX13_alike 0 = .ok (.iconst 0, 1) := by decide +kernel
theorem dX13_alike_1 : decode cX13_alike 1 = .ok (.istore_n 2, 1) := by decide +kernel
theorem dX13_alike_2 : decode cX13_alike 2 = .ok (.bipush 60, 2) := by decide +kernel
theorem dX13_alike_4 : decode cX13_alike 4 = .ok (.istore_n 3, 1) := by decide +kernel
theorem dX13_alike_5 : decode cX13_alike 5 = .ok (.iload_n 3, 1) := by decide +kernel
theorem dX13_alike_6 : decode cX13_alike 6 = .ok (.iload_n 1, 1) := by decide +kernel
theorem dX13_alike_7 : decode cX13_alike 7 = .ok (.if_icmp .ge 72, 3) := by decide +kernel
theorem dX13_alike_10 : decode cX13_alike 10 = .ok (.iload_n 2, 1) := by decide +kernel
theorem dX13_alike_11 : decode cX13_alike 11 = .ok (.aload_n 0, 1) := by decide +kernel
theorem dX13_alike_12 : decode cX13_alike 12 = .ok (.getfield 29, 3) := by decide +kernel
theorem dX13_alike_15 : decode cX13_alike 15 = .ok (.iload_n 3, 1) := by decide +kernel
theorem dX13_alike_16 : decode cX13_alike 16 = .ok (.iaload, 1) := by decide +kernel
theorem dX13_alike_17 : decode cX13_alike 17 = .ok (.iconst 4, 1) := by decide +kernel
theorem dX13_alike_18 : decode cX13_alike 18 = .ok (.if_icmp .ne 52, 3) := by decide +kernel
theorem dX13_alike_21 : decode cX13_alike 21 = .ok (.aload_n 0, 1) := by decide +kernel
theorem dX13_alike_22 : decode cX13_alike 22 = .ok (.getfield 32, 3) := by decide +kernel
theorem dX13_alike_25 : decode cX13_alike 25 = .ok (.iload_n 3, 1) := by decide +kernel
theorem dX13_alike_26 : decode cX13_alike 26 = .ok (.iaload, 1) := by decide +kernel
theorem dX13_alike_27 : decode cX13_alike 27 = .ok (.aload_n 0, 1) := by decide +kernel
theorem dX13_alike_28 : decode cX13_alike 28 = .ok (.getfield 32, 3) := by decide +kernel
theorem dX13_alike_31 : decode cX13_alike 31 = .ok (.iload_n 1, 1) := by decide +kernel
theorem dX13_alike_32 : decode cX13_alike 32 = .ok (.iaload, 1) := by decide +kernel
theorem dX13_alike_33 : decode cX13_alike 33 = .ok (.if_icmp .ne 37, 3) := by decide +kernel
theorem dX13_alike_36 : decode cX13_alike 36 = .ok (.aload_n 0, 1) := by decide +kernel
theorem dX13_alike_37 : decode cX13_alike 37 = .ok (.getfield 35, 3) := by decide +kernel
theorem dX13_alike_40 : decode cX13_alike 40 = .ok (.iload_n 3, 1) := by decide +kernel
theorem dX13_alike_41 : decode cX13_alike 41 = .ok (.iaload, 1) := by decide +kernel
theorem dX13_alike_42 : decode cX13_alike 42 = .ok (.aload_n 0, 1) := by decide +kernel
theorem dX13_alike_43 : decode cX13_alike 43 = .ok (.getfield 35, 3) := by decide +kernel
theorem dX13_alike_46 : decode cX13_alike 46 = .ok (.iload_n 1, 1) := by decide +kernel
theorem dX13_alike_47 : decode cX13_alike 47 = .ok (.iaload, 1) := by decide +kernel
theorem dX13_alike_48 : decode cX13_alike 48 = .ok (.if_icmp .ne 22, 3) := by decide +kernel
theorem dX13_alike_51 : decode cX13_alike 51 = .ok (.aload_n 0, 1) := by decide +kernel
theorem dX13_alike_52 : decode cX13_alike 52 = .ok (.getfield 38, 3) := by decide +kernel
theorem dX13_alike_55 : decode cX13_alike 55 = .ok (.iload_n 3, 1) := by decide +kernel
theorem dX13_alike_56 : decode cX13_alike 56 = .ok (.iaload, 1) := by decide +kernel
theorem dX13_alike_57 : decode cX13_alike 57 = .ok (.aload_n 0, 1) := by decide +kernel
theorem dX13_alike_58 : decode cX13_alike 58 = .ok (.getfield 38, 3) := by decide +kernel
theorem dX13_alike_61 : decode cX13_alike 61 = .ok (.iload_n 1, 1) := by decide +kernel
theorem dX13_alike_62 : decode cX13_alike 62 = .ok (.iaload, 1) := by decide +kernel
theorem dX13_alike_63 : decode cX13_alike 63 = .ok (.if_icmp .ne 7, 3) := by decide +kernel
theorem dX13_alike_66 : decode cX13_alike 66 = .ok (.iconst 1, 1) := by decide +kernel
theorem dX13_alike_67 : decode cX13_alike 67 = .ok (.goto 4, 3) := by decide +kernel
theorem dX13_alike_70 : decode cX13_alike 70 = .ok (.iconst 0, 1) := by decide +kernel
theorem dX13_alike_71 : decode cX13_alike 71 = .ok (.iadd, 1) := by decide +kernel
theorem dX13_alike_72 : decode cX13_alike 72 = .ok (.istore_n 2, 1) := by decide +kernel
theorem dX13_alike_73 : decode cX13_alike 73 = .ok (.iinc 3 1, 3) := by decide +kernel
theorem dX13_alike_76 : decode cX13_alike 76 = .ok (.goto (-71), 3) := by decide +kernel
theorem dX13_alike_79 : decode cX13_alike 79 = .ok (.iload_n 2, 1) := by decide +kernel
theorem dX13_alike_80 : decode cX13_alike 80 = .ok (.ireturn, 1) := by decide +kernel
theorem dX13_takeLetters_0 : decode cX13_takeLetters 0 = .ok (.aload_n 0, 1) := by decide +kernel
theorem dX13_takeLetters_1 : decode cX13_takeLetters 1 = .ok (.getfield 76, 3) := by decide +kernel
theorem dX13_takeLetters_4 : decode cX13_takeLetters 4 = .ok (.aload_n 0, 1) := by decide +kernel
theorem dX13_takeLetters_5 : decode cX13_takeLetters 5 = .ok (.getfield 60, 3) := by decide +kernel
theorem dX13_takeLetters_8 : decode cX13_takeLetters 8 = .ok (.isub, 1) := by decide +kernel
theorem dX13_takeLetters_9 : decode cX13_takeLetters 9 = .ok (.iconst 2, 1) := by decide +kernel
theorem dX13_takeLetters_10 : decode cX13_takeLetters 10 = .ok (.isub, 1) := by decide +kernel
theorem dX13_takeLetters_11 : decode cX13_takeLetters 11 = .ok (.istore_n 3, 1) := by decide +kernel
theorem dX13_takeLetters_12 : decode cX13_takeLetters 12 = .ok (.iconst 0, 1) := by decide +kernel
theorem dX13_takeLetters_13 : decode cX13_takeLetters 13 = .ok (.istore 4, 2) := by decide +kernel
theorem dX13_takeLetters_15 : decode cX13_takeLetters 15 = .ok (.iload 4, 2) := by decide +kernel
theorem dX13_takeLetters_17 : decode cX13_takeLetters 17 = .ok (.iload_n 3, 1) := by decide +kernel
theorem dX13_takeLetters_18 : decode cX13_takeLetters 18 = .ok (.if_icmp .ge 32, 3) := by decide +kernel
theorem dX13_takeLetters_21 : decode cX13_takeLetters 21 = .ok (.aload_n 1, 1) := by decide +kernel
theorem dX13_takeLetters_22 : decode cX13_takeLetters 22 = .ok (.bipush 8, 2) := by decide +kernel
theorem dX13_takeLetters_24 : decode cX13_takeLetters 24 = .ok (.iload_n 2, 1) := by decide +kernel
theorem dX13_takeLetters_25 : decode cX13_takeLetters 25 = .ok (.imul, 1) := by decide +kernel
theorem dX13_takeLetters_26 : decode cX13_takeLetters 26 = .ok (.iload 4, 2) := by decide +kernel
theorem dX13_takeLetters_28 : decode cX13_takeLetters 28 = .ok (.iadd, 1) := by decide +kernel
theorem dX13_takeLetters_29 : decode cX13_takeLetters 29 = .ok (.aload_n 0, 1) := by decide +kernel
theorem dX13_takeLetters_30 : decode cX13_takeLetters 30 = .ok (.getfield 73, 3) := by decide +kernel
theorem dX13_takeLetters_33 : decode cX13_takeLetters 33 = .ok (.aload_n 0, 1) := by decide +kernel
theorem dX13_takeLetters_34 : decode cX13_takeLetters 34 = .ok (.getfield 60, 3) := by decide +kernel
theorem dX13_takeLetters_37 : decode cX13_takeLetters 37 = .ok (.iconst 1, 1) := by decide +kernel
theorem dX13_takeLetters_38 : decode cX13_takeLetters 38 = .ok (.iadd, 1) := by decide +kernel
theorem dX13_takeLetters_39 : decode cX13_takeLetters 39 = .ok (.iload 4, 2) := by decide +kernel
theorem dX13_takeLetters_41 : decode cX13_takeLetters 41 = .ok (.iadd, 1) := by decide +kernel
theorem dX13_takeLetters_42 : decode cX13_takeLetters 42 = .ok (.baload, 1) := by decide +kernel
theorem dX13_takeLetters_43 : decode cX13_takeLetters 43 = .ok (.bastore, 1) := by decide +kernel
theorem dX13_takeLetters_44 : decode cX13_takeLetters 44 = .ok (.iinc 4 1, 3) := by decide +kernel
theorem dX13_takeLetters_47 : decode cX13_takeLetters 47 = .ok (.goto (-32), 3) := by decide +kernel
theorem dX13_takeLetters_50 : decode cX13_takeLetters 50 = .ok (.aload_n 0, 1) := by decide +kernel
theorem dX13_takeLetters_51 : decode cX13_takeLetters 51 = .ok (.invokevirtual 111, 3) := by decide +kernel
theorem dX13_takeLetters_54 : decode cX13_takeLetters 54 = .ok (.iload_n 3, 1) := by decide +kernel
theorem dX13_takeLetters_55 : decode cX13_takeLetters 55 = .ok (.ireturn, 1) := by decide +kernel
theorem dX13_fits_0 : decode cX13_fits 0 = .ok (.aload_n 0, 1) := by decide +kernel
theorem dX13_fits_1 : decode cX13_fits 1 = .ok (.getfield 29, 3) := by decide +kernel
theorem dX13_fits_4 : decode cX13_fits 4 = .ok (.iload_n 1, 1) := by decide +kernel
theorem dX13_fits_5 : decode cX13_fits 5 = .ok (.iaload, 1) := by decide +kernel
theorem dX13_fits_6 : decode cX13_fits 6 = .ok (.iconst 2, 1) := by decide +kernel
theorem dX13_fits_7 : decode cX13_fits 7 = .ok (.if_icmp .eq 34, 3) := by decide +kernel
theorem dX13_fits_10 : decode cX13_fits 10 = .ok (.aload_n 0, 1) := by decide +kernel
theorem dX13_fits_11 : decode cX13_fits 11 = .ok (.getfield 35, 3) := by decide +kernel
theorem dX13_fits_14 : decode cX13_fits 14 = .ok (.iload_n 1, 1) := by decide +kernel
theorem dX13_fits_15 : decode cX13_fits 15 = .ok (.iaload, 1) := by decide +kernel
theorem dX13_fits_16 : decode cX13_fits 16 = .ok (.iload_n 3, 1) := by decide +kernel
theorem dX13_fits_17 : decode cX13_fits 17 = .ok (.if_icmp .ne 24, 3) := by decide +kernel
theorem dX13_fits_20 : decode cX13_fits 20 = .ok (.aload_n 0, 1) := by decide +kernel
theorem dX13_fits_21 : decode cX13_fits 21 = .ok (.getfield 38, 3) := by decide +kernel
theorem dX13_fits_24 : decode cX13_fits 24 = .ok (.iload_n 1, 1) := by decide +kernel
theorem dX13_fits_25 : decode cX13_fits 25 = .ok (.iaload, 1) := by decide +kernel
theorem dX13_fits_26 : decode cX13_fits 26 = .ok (.iconst (-1), 1) := by decide +kernel
theorem dX13_fits_27 : decode cX13_fits 27 = .ok (.if_icmp .eq 16, 3) := by decide +kernel
theorem dX13_fits_30 : decode cX13_fits 30 = .ok (.aload_n 0, 1) := by decide +kernel
theorem dX13_fits_31 : decode cX13_fits 31 = .ok (.getfield 38, 3) := by decide +kernel
theorem dX13_fits_34 : decode cX13_fits 34 = .ok (.iload_n 1, 1) := by decide +kernel
theorem dX13_fits_35 : decode cX13_fits 35 = .ok (.iaload, 1) := by decide +kernel
theorem dX13_fits_36 : decode cX13_fits 36 = .ok (.iload 4, 2) := by decide +kernel
theorem dX13_fits_38 : decode cX13_fits 38 = .ok (.if_icmp .eq 5, 3) := by decide +kernel
theorem dX13_fits_41 : decode cX13_fits 41 = .ok (.iconst 0, 1) := by decide +kernel
theorem dX13_fits_42 : decode cX13_fits 42 = .ok (.ireturn, 1) := by decide +kernel
theorem dX13_fits_43 : decode cX13_fits 43 = .ok (.aload_n 0, 1) := by decide +kernel
theorem dX13_fits_44 : decode cX13_fits 44 = .ok (.getfield 32, 3) := by decide +kernel
theorem dX13_fits_47 : decode cX13_fits 47 = .ok (.iload_n 1, 1) := by decide +kernel
theorem dX13_fits_48 : decode cX13_fits 48 = .ok (.iaload, 1) := by decide +kernel
theorem dX13_fits_49 : decode cX13_fits 49 = .ok (.iconst (-1), 1) := by decide +kernel
theorem dX13_fits_50 : decode cX13_fits 50 = .ok (.if_icmp .eq 42, 3) := by decide +kernel
theorem dX13_fits_53 : decode cX13_fits 53 = .ok (.aload_n 0, 1) := by decide +kernel
theorem dX13_fits_54 : decode cX13_fits 54 = .ok (.getfield 32, 3) := by decide +kernel
theorem dX13_fits_57 : decode cX13_fits 57 = .ok (.iload_n 1, 1) := by decide +kernel
theorem dX13_fits_58 : decode cX13_fits 58 = .ok (.iaload, 1) := by decide +kernel
theorem dX13_fits_59 : decode cX13_fits 59 = .ok (.aload_n 0, 1) := by decide +kernel
theorem dX13_fits_60 : decode cX13_fits 60 = .ok (.getfield 29, 3) := by decide +kernel
theorem dX13_fits_63 : decode cX13_fits 63 = .ok (.iload_n 1, 1) := by decide +kernel
theorem dX13_fits_64 : decode cX13_fits 64 = .ok (.iaload, 1) := by decide +kernel
theorem dX13_fits_65 : decode cX13_fits 65 = .ok (.iconst 4, 1) := by decide +kernel
theorem dX13_fits_66 : decode cX13_fits 66 = .ok (.if_icmp .eq 13, 3) := by decide +kernel
theorem dX13_fits_69 : decode cX13_fits 69 = .ok (.aload_n 0, 1) := by decide +kernel
theorem dX13_fits_70 : decode cX13_fits 70 = .ok (.getfield 29, 3) := by decide +kernel
theorem dX13_fits_73 : decode cX13_fits 73 = .ok (.iload_n 1, 1) := by decide +kernel
theorem dX13_fits_74 : decode cX13_fits 74 = .ok (.iaload, 1) := by decide +kernel
theorem dX13_fits_75 : decode cX13_fits 75 = .ok (.iconst 5, 1) := by decide +kernel
theorem dX13_fits_76 : decode cX13_fits 76 = .ok (.if_icmp .ne 7, 3) := by decide +kernel
theorem dX13_fits_79 : decode cX13_fits 79 = .ok (.iload_n 2, 1) := by decide +kernel
theorem dX13_fits_80 : decode cX13_fits 80 = .ok (.goto 9, 3) := by decide +kernel
theorem dX13_fits_83 : decode cX13_fits 83 = .ok (.aload_n 0, 1) := by decide +kernel
theorem dX13_fits_84 : decode cX13_fits 84 = .ok (.getfield 16, 3) := by decide +kernel
theorem dX13_fits_87 : decode cX13_fits 87 = .ok (.iload_n 2, 1) := by decide +kernel
theorem dX13_fits_88 : decode cX13_fits 88 = .ok (.iaload, 1) := by decide +kernel
theorem dX13_fits_89 : decode cX13_fits 89 = .ok (.if_icmp .ne 7, 3) := by decide +kernel
theorem dX13_fits_92 : decode cX13_fits 92 = .ok (.iconst 1, 1) := by decide +kernel
theorem dX13_fits_93 : decode cX13_fits 93 = .ok (.goto 4, 3) := by decide +kernel
theorem dX13_fits_96 : decode cX13_fits 96 = .ok (.iconst 0, 1) := by decide +kernel
theorem dX13_fits_97 : decode cX13_fits 97 = .ok (.ireturn, 1) := by decide +kernel
theorem dX13_firstOf_0 : decode cX13_firstOf 0 = .ok (.iconst 0, 1) := by decide +kernel
theorem dX13_firstOf_1 : decode cX13_firstOf 1 = .ok (.istore 5, 2) := by decide +kernel
theorem dX13_firstOf_3 : decode cX13_firstOf 3 = .ok (.iload 5, 2) := by decide +kernel
theorem dX13_firstOf_5 : decode cX13_firstOf 5 = .ok (.aload_n 0, 1) := by decide +kernel
theorem dX13_firstOf_6 : decode cX13_firstOf 6 = .ok (.getfield 10, 3) := by decide +kernel
theorem dX13_firstOf_9 : decode cX13_firstOf 9 = .ok (.iconst 0, 1) := by decide +kernel
theorem dX13_firstOf_10 : decode cX13_firstOf 10 = .ok (.iaload, 1) := by decide +kernel
theorem dX13_firstOf_11 : decode cX13_firstOf 11 = .ok (.if_icmp .ge 36, 3) := by decide +kernel
theorem dX13_firstOf_14 : decode cX13_firstOf 14 = .ok (.aload_n 0, 1) := by decide +kernel
theorem dX13_firstOf_15 : decode cX13_firstOf 15 = .ok (.getfield 29, 3) := by decide +kernel
theorem dX13_firstOf_18 : decode cX13_firstOf 18 = .ok (.iload 5, 2) := by decide +kernel
theorem dX13_firstOf_20 : decode cX13_firstOf 20 = .ok (.iaload, 1) := by decide +kernel
theorem dX13_firstOf_21 : decode cX13_firstOf 21 = .ok (.iload_n 1, 1) := by decide +kernel
theorem dX13_firstOf_22 : decode cX13_firstOf 22 = .ok (.if_icmp .ne 19, 3) := by decide +kernel
theorem dX13_firstOf_25 : decode cX13_firstOf 25 = .ok (.aload_n 0, 1) := by decide +kernel
theorem dX13_firstOf_26 : decode cX13_firstOf 26 = .ok (.iload 5, 2) := by decide +kernel
theorem dX13_firstOf_28 : decode cX13_firstOf 28 = .ok (.iload_n 2, 1) := by decide +kernel
theorem dX13_firstOf_29 : decode cX13_firstOf 29 = .ok (.iload_n 3, 1) := by decide +kernel
theorem dX13_firstOf_30 : decode cX13_firstOf 30 = .ok (.iload 4, 2) := by decide +kernel
theorem dX13_firstOf_32 : decode cX13_firstOf 32 = .ok (.invokevirtual 327, 3) := by decide +kernel
theorem dX13_firstOf_35 : decode cX13_firstOf 35 = .ok (.ifCond .eq 6, 3) := by decide +kernel
theorem dX13_firstOf_38 : decode cX13_firstOf 38 = .ok (.iload 5, 2) := by decide +kernel
theorem dX13_firstOf_40 : decode cX13_firstOf 40 = .ok (.ireturn, 1) := by decide +kernel
theorem dX13_firstOf_41 : decode cX13_firstOf 41 = .ok (.iinc 5 1, 3) := by decide +kernel
theorem dX13_firstOf_44 : decode cX13_firstOf 44 = .ok (.goto (-41), 3) := by decide +kernel
theorem dX13_firstOf_47 : decode cX13_firstOf 47 = .ok (.iconst (-1), 1) := by decide +kernel
theorem dX13_firstOf_48 : decode cX13_firstOf 48 = .ok (.ireturn, 1) := by decide +kernel
theorem dX13_manyOf_0 : decode cX13_manyOf 0 = .ok (.iconst 0, 1) := by decide +kernel
theorem dX13_manyOf_1 : decode cX13_manyOf 1 = .ok (.istore 5, 2) := by decide +kernel
theorem dX13_manyOf_3 : decode cX13_manyOf 3 = .ok (.iconst 0, 1) := by decide +kernel
theorem dX13_manyOf_4 : decode cX13_manyOf 4 = .ok (.istore 6, 2) := by decide +kernel
theorem dX13_manyOf_6 : decode cX13_manyOf 6 = .ok (.iload 6, 2) := by decide +kernel
theorem dX13_manyOf_8 : decode cX13_manyOf 8 = .ok (.aload_n 0, 1) := by decide +kernel
theorem dX13_manyOf_9 : decode cX13_manyOf 9 = .ok (.getfield 10, 3) := by decide +kernel
theorem dX13_manyOf_12 : decode cX13_manyOf 12 = .ok (.iconst 0, 1) := by decide +kernel
theorem dX13_manyOf_13 : decode cX13_manyOf 13 = .ok (.iaload, 1) := by decide +kernel
theorem dX13_manyOf_14 : decode cX13_manyOf 14 = .ok (.if_icmp .ge 43, 3) := by decide +kernel
theorem dX13_manyOf_17 : decode cX13_manyOf 17 = .ok (.iload 5, 2) := by decide +kernel
theorem dX13_manyOf_19 : decode cX13_manyOf 19 = .ok (.aload_n 0, 1) := by decide +kernel
theorem dX13_manyOf_20 : decode cX13_manyOf 20 = .ok (.getfield 29, 3) := by decide +kernel
theorem dX13_manyOf_23 : decode cX13_manyOf 23 = .ok (.iload 6, 2) := by decide +kernel
theorem dX13_manyOf_25 : decode cX13_manyOf 25 = .ok (.iaload, 1) := by decide +kernel
theorem dX13_manyOf_26 : decode cX13_manyOf 26 = .ok (.iload_n 1, 1) := by decide +kernel
theorem dX13_manyOf_27 : decode cX13_manyOf 27 = .ok (.if_icmp .ne 20, 3) := by decide +kernel
theorem dX13_manyOf_30 : decode cX13_manyOf 30 = .ok (.aload_n 0, 1) := by decide +kernel
theorem dX13_manyOf_31 : decode cX13_manyOf 31 = .ok (.iload 6, 2) := by decide +kernel
theorem dX13_manyOf_33 : decode cX13_manyOf 33 = .ok (.iload_n 2, 1) := by decide +kernel
theorem dX13_manyOf_34 : decode cX13_manyOf 34 = .ok (.iload_n 3, 1) := by decide +kernel
theorem dX13_manyOf_35 : decode cX13_manyOf 35 = .ok (.iload 4, 2) := by decide +kernel
theorem dX13_manyOf_37 : decode cX13_manyOf 37 = .ok (.invokevirtual 327, 3) := by decide +kernel
theorem dX13_manyOf_40 : decode cX13_manyOf 40 = .ok (.ifCond .eq 7, 3) := by decide +kernel
theorem dX13_manyOf_43 : decode cX13_manyOf 43 = .ok (.iconst 1, 1) := by decide +kernel
theorem dX13_manyOf_44 : decode cX13_manyOf 44 = .ok (.goto 4, 3) := by decide +kernel
theorem dX13_manyOf_47 : decode cX13_manyOf 47 = .ok (.iconst 0, 1) := by decide +kernel
theorem dX13_manyOf_48 : decode cX13_manyOf 48 = .ok (.iadd, 1) := by decide +kernel
theorem dX13_manyOf_49 : decode cX13_manyOf 49 = .ok (.istore 5, 2) := by decide +kernel
theorem dX13_manyOf_51 : decode cX13_manyOf 51 = .ok (.iinc 6 1, 3) := by decide +kernel
theorem dX13_manyOf_54 : decode cX13_manyOf 54 = .ok (.goto (-48), 3) := by decide +kernel
theorem dX13_manyOf_57 : decode cX13_manyOf 57 = .ok (.iload 5, 2) := by decide +kernel
theorem dX13_manyOf_59 : decode cX13_manyOf 59 = .ok (.ireturn, 1) := by decide +kernel
theorem dX13_standsAt_0 : decode cX13_standsAt 0 = .ok (.iload_n 2, 1) := by decide +kernel
theorem dX13_standsAt_1 : decode cX13_standsAt 1 = .ok (.ifCond .lt 18, 3) := by decide +kernel
theorem dX13_standsAt_4 : decode cX13_standsAt 4 = .ok (.iload_n 2, 1) := by decide +kernel
theorem dX13_standsAt_5 : decode cX13_standsAt 5 = .ok (.aload_n 0, 1) := by decide +kernel
theorem dX13_standsAt_6 : decode cX13_standsAt 6 = .ok (.getfield 41, 3) := by decide +kernel
theorem dX13_standsAt_9 : decode cX13_standsAt 9 = .ok (.iload_n 1, 1) := by decide +kernel
theorem dX13_standsAt_10 : decode cX13_standsAt 10 = .ok (.iaload, 1) := by decide +kernel
theorem dX13_standsAt_11 : decode cX13_standsAt 11 = .ok (.iadd, 1) := by decide +kernel
theorem dX13_standsAt_12 : decode cX13_standsAt 12 = .ok (.aload_n 0, 1) := by decide +kernel
theorem dX13_standsAt_13 : decode cX13_standsAt 13 = .ok (.getfield 331, 3) := by decide +kernel
theorem dX13_standsAt_16 : decode cX13_standsAt 16 = .ok (.if_icmp .le 5, 3) := by decide +kernel
theorem dX13_standsAt_19 : decode cX13_standsAt 19 = .ok (.iconst 0, 1) := by decide +kernel
theorem dX13_standsAt_20 : decode cX13_standsAt 20 = .ok (.ireturn, 1) := by decide +kernel
theorem dX13_standsAt_21 : decode cX13_standsAt 21 = .ok (.iconst 0, 1) := by decide +kernel
theorem dX13_standsAt_22 : decode cX13_standsAt 22 = .ok (.istore_n 3, 1) := by decide +kernel
theorem dX13_standsAt_23 : decode cX13_standsAt 23 = .ok (.iload_n 3, 1) := by decide +kernel
theorem dX13_standsAt_24 : decode cX13_standsAt 24 = .ok (.aload_n 0, 1) := by decide +kernel
theorem dX13_standsAt_25 : decode cX13_standsAt 25 = .ok (.getfield 41, 3) := by decide +kernel
theorem dX13_standsAt_28 : decode cX13_standsAt 28 = .ok (.iload_n 1, 1) := by decide +kernel
theorem dX13_standsAt_29 : decode cX13_standsAt 29 = .ok (.iaload, 1) := by decide +kernel
theorem dX13_standsAt_30 : decode cX13_standsAt 30 = .ok (.if_icmp .ge 33, 3) := by decide +kernel
theorem dX13_standsAt_33 : decode cX13_standsAt 33 = .ok (.aload_n 0, 1) := by decide +kernel
theorem dX13_standsAt_34 : decode cX13_standsAt 34 = .ok (.getfield 213, 3) := by decide +kernel
theorem dX13_standsAt_37 : decode cX13_standsAt 37 = .ok (.iload_n 2, 1) := by decide +kernel
theorem dX13_standsAt_38 : decode cX13_standsAt 38 = .ok (.iload_n 3, 1) := by decide +kernel
theorem dX13_standsAt_39 : decode cX13_standsAt 39 = .ok (.iadd, 1) := by decide +kernel
theorem dX13_standsAt_40 : decode cX13_standsAt 40 = .ok (.baload, 1) := by decide +kernel
theorem dX13_standsAt_41 : decode cX13_standsAt 41 = .ok (.aload_n 0, 1) := by decide +kernel
theorem dX13_standsAt_42 : decode cX13_standsAt 42 = .ok (.getfield 23, 3) := by decide +kernel
theorem dX13_standsAt_45 : decode cX13_standsAt 45 = .ok (.bipush 8, 2) := by decide +kernel
theorem dX13_standsAt_47 : decode cX13_standsAt 47 = .ok (.iload_n 1, 1) := by decide +kernel
theorem dX13_standsAt_48 : decode cX13_standsAt 48 = .ok (.imul, 1) := by decide +kernel
theorem dX13_standsAt_49 : decode cX13_standsAt 49 = .ok (.iload_n 3, 1) := by decide +kernel
theorem dX13_standsAt_50 : decode cX13_standsAt 50 = .ok (.iadd, 1) := by decide +kernel
theorem dX13_standsAt_51 : decode cX13_standsAt 51 = .ok (.baload, 1) := by decide +kernel
theorem dX13_standsAt_52 : decode cX13_standsAt 52 = .ok (.if_icmp .eq 5, 3) := by decide +kernel
theorem dX13_standsAt_55 : decode cX13_standsAt 55 = .ok (.iconst 0, 1) := by decide +kernel
theorem dX13_standsAt_56 : decode cX13_standsAt 56 = .ok (.ireturn, 1) := by decide +kernel
theorem dX13_standsAt_57 : decode cX13_standsAt 57 = .ok (.iinc 3 1, 3) := by decide +kernel
theorem dX13_standsAt_60 : decode cX13_standsAt 60 = .ok (.goto (-37), 3) := by decide +kernel
theorem dX13_standsAt_63 : decode cX13_standsAt 63 = .ok (.iconst 1, 1) := by decide +kernel
