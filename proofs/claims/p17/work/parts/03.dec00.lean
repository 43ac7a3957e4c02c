theorem dX9_init_0 : decode cX9_init 0 = .ok (.aload_n 0, 1) := by decide +kernel
theorem dX9_init_1 : decode cX9_init 1 = .ok (.invokespecial 3, 3) := by decide +kernel
theorem dX9_init_4 : decode cX9_init 4 = .ok (.aload_n 0, 1) := by decide +kernel
theorem dX9_init_5 : decode cX9_init 5 = .ok (.iconst 0, 1) := by decide +kernel
theorem dX9_init_6 : decode cX9_init 6 = .ok (.iload_n 1, 1) := by decide +kernel
theorem dX9_init_7 : decode cX9_init 7 = .ok (.invokestatic 9, 3) := by decide +kernel
theorem dX9_init_10 : decode cX9_init 10 = .ok (.newarray .byte, 2) := by decide +kernel
theorem dX9_init_12 : decode cX9_init 12 = .ok (.putfield 15, 3) := by decide +kernel
theorem dX9_init_15 : decode cX9_init 15 = .ok (.aload_n 0, 1) := by decide +kernel
theorem dX9_init_16 : decode cX9_init 16 = .ok (.iconst 0, 1) := by decide +kernel
theorem dX9_init_17 : decode cX9_init 17 = .ok (.putfield 21, 3) := by decide +kernel
theorem dX9_init_20 : decode cX9_init 20 = .ok (.return_, 1) := by decide +kernel
theorem dX9_clear_0 : decode cX9_clear 0 = .ok (.aload_n 0, 1) := by decide +kernel
theorem dX9_clear_1 : decode cX9_clear 1 = .ok (.iconst 0, 1) := by decide +kernel
theorem dX9_clear_2 : decode cX9_clear 2 = .ok (.putfield 21, 3) := by decide +kernel
theorem dX9_clear_5 : decode cX9_clear 5 = .ok (.return_, 1) := by decide +kernel
theorem dX9_at_0 : decode cX9_at 0 = .ok (.iload_n 1, 1) := by decide +kernel
theorem dX9_at_1 : decode cX9_at 1 = .ok (.ifCond .lt 24, 3) := by decide +kernel
theorem dX9_at_4 : decode cX9_at 4 = .ok (.iload_n 1, 1) := by decide +kernel
theorem dX9_at_5 : decode cX9_at 5 = .ok (.aload_n 0, 1) := by decide +kernel
theorem dX9_at_6 : decode cX9_at 6 = .ok (.getfield 21, 3) := by decide +kernel
theorem dX9_at_9 : decode cX9_at 9 = .ok (.if_icmp .ge 16, 3) := by decide +kernel
theorem dX9_at_12 : decode cX9_at 12 = .ok (.aload_n 0, 1) := by decide +kernel
theorem dX9_at_13 : decode cX9_at 13 = .ok (.getfield 15, 3) := by decide +kernel
theorem dX9_at_16 : decode cX9_at 16 = .ok (.iload_n 1, 1) := by decide +kernel
theorem dX9_at_17 : decode cX9_at 17 = .ok (.baload, 1) := by decide +kernel
theorem dX9_at_18 : decode cX9_at 18 = .ok (.sipush 255, 3) := by decide +kernel
theorem dX9_at_21 : decode cX9_at 21 = .ok (.iand, 1) := by decide +kernel
theorem dX9_at_22 : decode cX9_at 22 = .ok (.goto 4, 3) := by decide +kernel
theorem dX9_at_25 : decode cX9_at 25 = .ok (.iconst (-1), 1) := by decide +kernel
theorem dX9_at_26 : decode cX9_at 26 = .ok (.ireturn, 1) := by decide +kernel
theorem dX9_add_0 : decode cX9_add 0 = .ok (.aload_n 0, 1) := by decide +kernel
theorem dX9_add_1 : decode cX9_add 1 = .ok (.getfield 21, 3) := by decide +kernel
theorem dX9_add_4 : decode cX9_add 4 = .ok (.aload_n 0, 1) := by decide +kernel
theorem dX9_add_5 : decode cX9_add 5 = .ok (.getfield 15, 3) := by decide +kernel
theorem dX9_add_8 : decode cX9_add 8 = .ok (.arraylength, 1) := by decide +kernel
theorem dX9_add_9 : decode cX9_add 9 = .ok (.if_icmp .lt 5, 3) := by decide +kernel
theorem dX9_add_12 : decode cX9_add 12 = .ok (.iconst 0, 1) := by decide +kernel
theorem dX9_add_13 : decode cX9_add 13 = .ok (.ireturn, 1) := by decide +kernel
theorem dX9_add_14 : decode cX9_add 14 = .ok (.aload_n 0, 1) := by decide +kernel
theorem dX9_add_15 : decode cX9_add 15 = .ok (.getfield 15, 3) := by decide +kernel
theorem dX9_add_18 : decode cX9_add 18 = .ok (.aload_n 0, 1) := by decide +kernel
theorem dX9_add_19 : decode cX9_add 19 = .ok (.getfield 21, 3) := by decide +kernel
theorem dX9_add_22 : decode cX9_add 22 = .ok (.iload_n 1, 1) := by decide +kernel
theorem dX9_add_23 : decode cX9_add 23 = .ok (.i2b, 1) := by decide +kernel
theorem dX9_add_24 : decode cX9_add 24 = .ok (.bastore, 1) := by decide +kernel
theorem dX9_add_25 : decode cX9_add 25 = .ok (.aload_n 0, 1) := by decide +kernel
theorem dX9_add_26 : decode cX9_add 26 = .ok (.dup, 1) := by decide +kernel
theorem dX9_add_27 : decode cX9_add 27 = .ok (.getfield 21, 3) := by decide +kernel
theorem dX9_add_30 : decode cX9_add 30 = .ok (.iconst 1, 1) := by decide +kernel
theorem dX9_add_31 : decode cX9_add 31 = .ok (.iadd, 1) := by decide +kernel
theorem dX9_add_32 : decode cX9_add 32 = .ok (.putfield 21, 3) := by decide +kernel
theorem dX9_add_35 : decode cX9_add 35 = .ok (.iconst 1, 1) := by decide +kernel
theorem dX9_add_36 : decode cX9_add 36 = .ok (.ireturn, 1) := by decide +kernel
theorem dX9_addInt_0 : decode cX9_addInt 0 = .ok (.bipush 24, 2) := by decide +kernel
theorem dX9_addInt_2 : decode cX9_addInt 2 = .ok (.istore_n 2, 1) := by decide +kernel
theorem dX9_addInt_3 : decode cX9_addInt 3 = .ok (.iload_n 2, 1) := by decide +kernel
theorem dX9_addInt_4 : decode cX9_addInt 4 = .ok (.ifCond .lt 17, 3) := by decide +kernel
theorem dX9_addInt_7 : decode cX9_addInt 7 = .ok (.aload_n 0, 1) := by decide +kernel
theorem dX9_addInt_8 : decode cX9_addInt 8 = .ok (.iload_n 1, 1) := by decide +kernel
theorem dX9_addInt_9 : decode cX9_addInt 9 = .ok (.iload_n 2, 1) := by decide +kernel
theorem dX9_addInt_10 : decode cX9_addInt 10 = .ok (.ishr, 1) := by decide +kernel
theorem dX9_addInt_11 : decode cX9_addInt 11 = .ok (.invokevirtual 25, 3) := by decide +kernel
theorem dX9_addInt_14 : decode cX9_addInt 14 = .ok (.pop, 1) := by decide +kernel
theorem dX9_addInt_15 : decode cX9_addInt 15 = .ok (.iinc 2 (-8), 3) := by decide +kernel
theorem dX9_addInt_18 : decode cX9_addInt 18 = .ok (.goto (-15), 3) := by decide +kernel
theorem dX9_addInt_21 : decode cX9_addInt 21 = .ok (.return_, 1) := by decide +kernel
theorem dX9_mark_0 : decode cX9_mark 0 = .ok (.aload_n 0, 1) := by decide +kernel
theorem dX9_mark_1 : decode cX9_mark 1 = .ok (.getfield 21, 3) := by decide +kernel
theorem dX9_mark_4 : decode cX9_mark 4 = .ok (.istore_n 1, 1) := by decide +kernel
theorem dX9_mark_5 : decode cX9_mark 5 = .ok (.iconst 0, 1) := by decide +kernel
theorem dX9_mark_6 : decode cX9_mark 6 = .ok (.istore_n 2, 1) := by decide +kernel
theorem dX9_mark_7 : decode cX9_mark 7 = .ok (.iload_n 2, 1) := by decide +kernel
theorem dX9_mark_8 : decode cX9_mark 8 = .ok (.aload_n 0, 1) := by decide +kernel
theorem dX9_mark_9 : decode cX9_mark 9 = .ok (.getfield 21, 3) := by decide +kernel
theorem dX9_mark_12 : decode cX9_mark 12 = .ok (.if_icmp .ge 21, 3) := by decide +kernel
theorem dX9_mark_15 : decode cX9_mark 15 = .ok (.iload_n 1, 1) := by decide +kernel
theorem dX9_mark_16 : decode cX9_mark 16 = .ok (.bipush 31, 2) := by decide +kernel
theorem dX9_mark_18 : decode cX9_mark 18 = .ok (.imul, 1) := by decide +kernel
theorem dX9_mark_19 : decode cX9_mark 19 = .ok (.aload_n 0, 1) := by decide +kernel
theorem dX9_mark_20 : decode cX9_mark 20 = .ok (.getfield 15, 3) := by decide +kernel
theorem dX9_mark_23 : decode cX9_mark 23 = .ok (.iload_n 2, 1) := by decide +kernel
theorem dX9_mark_24 : decode cX9_mark 24 = .ok (.baload, 1) := by decide +kernel
theorem dX9_mark_25 : decode cX9_mark 25 = .ok (.iadd, 1) := by decide +kernel
theorem dX9_mark_26 : decode cX9_mark 26 = .ok (.istore_n 1, 1) := by decide +kernel
theorem dX9_mark_27 : decode cX9_mark 27 = .ok (.iinc 2 1, 3) := by decide +kernel
theorem dX9_mark_30 : decode cX9_mark 30 = .ok (.goto (-23), 3) := by decide +kernel
theorem dX9_mark_33 : decode cX9_mark 33 = .ok (.lconst 1, 1) := by decide +kernel
theorem dX9_mark_34 : decode cX9_mark 34 = .ok (.iload_n 1, 1) := by decide +kernel
theorem dX9_mark_35 : decode cX9_mark 35 = .ok (.iload_n 1, 1) := by decide +kernel
theorem dX9_mark_36 : decode cX9_mark 36 = .ok (.bipush 6, 2) := by decide +kernel
theorem dX9_mark_38 : decode cX9_mark 38 = .ok (.iushr, 1) := by decide +kernel
theorem dX9_mark_39 : decode cX9_mark 39 = .ok (.ixor, 1) := by decide +kernel
theorem dX9_mark_40 : decode cX9_mark 40 = .ok (.iload_n 1, 1) := by decide +kernel
theorem dX9_mark_41 : decode cX9_mark 41 = .ok (.bipush 12, 2) := by decide +kernel
theorem dX9_mark_43 : decode cX9_mark 43 = .ok (.iushr, 1) := by decide +kernel
theorem dX9_mark_44 : decode cX9_mark 44 = .ok (.ixor, 1) := by decide +kernel
theorem dX9_mark_45 : decode cX9_mark 45 = .ok (.bipush 63, 2) := by decide +kernel
theorem dX9_mark_47 : decode cX9_mark 47 = .ok (.iand, 1) := by decide +kernel
theorem dX9_mark_48 : decode cX9_mark 48 = .ok (.lshl, 1) := by decide +kernel
theorem dX9_mark_49 : decode cX9_mark 49 = .ok (.lreturn, 1) := by decide +kernel
theorem dX5_init_0 : decode cX5_init 0 = .ok (.aload_n 0, 1) := by decide +kernel
theorem dX5_init_1 : decode cX5_init 1 = .ok (.invokespecial 3, 3) := by decide +kernel
theorem dX5_init_4 : decode cX5_init 4 = .ok (.aload_n 0, 1) := by decide +kernel
theorem dX5_init_5 : decode cX5_init 5 = .ok (.new 9, 3) := by decide +kernel
theorem dX5_init_8 : decode cX5_init 8 = .ok (.dup, 1) := by decide +kernel
theorem dX5_init_9 : decode cX5_init 9 = .ok (.bipush 8, 2) := by decide +kernel
theorem dX5_init_11 : decode cX5_init 11 = .ok (.invokespecial 11, 3) := by decide +kernel
theorem dX5_init_14 : decode cX5_init 14 = .ok (.putfield 14, 3) := by decide +kernel
theorem dX5_init_17 : decode cX5_init 17 = .ok (.aload_n 0, 1) := by decide +kernel
theorem dX5_init_18 : decode cX5_init 18 = .ok (.new 9, 3) := by decide +kernel
theorem dX5_init_21 : decode cX5_init 21 = .ok (.dup, 1) := by decide +kernel
theorem dX5_init_22 : decode cX5_init 22 = .ok (.bipush 8, 2) := by decide +kernel
theorem dX5_init_24 : decode cX5_init 24 = .ok (.invokespecial 11, 3) := by decide +kernel
theorem dX5_init_27 : decode cX5_init 27 = .ok (.putfield 20, 3) := by decide +kernel
theorem dX5_init_30 : decode cX5_init 30 = .ok (.return_, 1) := by decide +kernel
theorem dX0_init_0 : decode cX0_init 0 = .ok (.aload_n 0, 1) := by decide +kernel
theorem dX0_init_1 : decode cX0_init 1 = .ok (.invokespecial 3, 3) := by decide +kernel
theorem dX0_init_4 : decode cX0_init 4 = .ok (.aload_n 0, 1) := by decide +kernel
theorem dX0_init_5 : decode cX0_init 5 = .ok (.bipush 6, 2) := by decide +kernel
theorem dX0_init_7 : decode cX0_init 7 = .ok (.anewarray 9, 3) := by decide +kernel
theorem dX0_init_10 : decode cX0_init 10 = .ok (.putfield 11, 3) := by decide +kernel
theorem dX0_init_13 : decode cX0_init 13 = .ok (.iconst 0, 1) := by decide +kernel
theorem dX0_init_14 : decode cX0_init 14 = .ok (.istore_n 1, 1) := by decide +kernel
theorem dX0_init_15 : decode cX0_init 15 = .ok (.iload_n 1, 1) := by decide +kernel
theorem dX0_init_16 : decode cX0_init 16 = .ok (.bipush 6, 2) := by decide +kernel
theorem dX0_init_18 : decode cX0_init 18 = .ok (.if_icmp .ge 24, 3) := by decide +kernel
theorem dX0_init_21 : decode cX0_init 21 = .ok (.aload_n 0, 1) := by decide +kernel
theorem dX0_init_22 : decode cX0_init 22 = .ok (.getfield 11, 3) := by decide +kernel
theorem dX0_init_25 : decode cX0_init 25 = .ok (.iload_n 1, 1) := by decide +kernel
theorem dX0_init_26 : decode cX0_init 26 = .ok (.new 9, 3) := by decide +kernel
theorem dX0_init_29 : decode cX0_init 29 = .ok (.dup, 1) := by decide +kernel
theorem dX0_init_30 : decode cX0_init 30 = .ok (.bipush 12, 2) := by decide +kernel
theorem dX0_init_32 : decode cX0_init 32 = .ok (.invokespecial 17, 3) := by decide +kernel
theorem dX0_init_35 : decode cX0_init 35 = .ok (.aastore, 1) := by decide +kernel
theorem dX0_init_36 : decode cX0_init 36 = .ok (.iinc 1 1, 3) := by decide +kernel
theorem dX0_init_39 : decode cX0_init 39 = .ok (.goto (-24), 3) := by decide +kernel
theorem dX0_init_42 : decode cX0_init 42 = .ok (.aload_n 0, 1) := by decide +kernel
theorem dX0_init_43 : decode cX0_init 43 = .ok (.bipush 30, 2) := by decide +kernel
theorem dX0_init_45 : decode cX0_init 45 = .ok (.anewarray 9, 3) := by decide +kernel
theorem dX0_init_48 : decode cX0_init 48 = .ok (.putfield 20, 3) := by decide +kernel
theorem dX0_init_51 : decode cX0_init 51 = .ok (.iconst 0, 1) := by decide +kernel
theorem dX0_init_52 : decode cX0_init 52 = .ok (.istore_n 1, 1) := by decide +kernel
theorem dX0_init_53 : decode cX0_init 53 = .ok (.iload_n 1, 1) := by decide +kernel
theorem dX0_init_54 : decode cX0_init 54 = .ok (.bipush 30, 2) := by decide +kernel
theorem dX0_init_56 : decode cX0_init 56 = .ok (.if_icmp .ge 24, 3) := by decide +kernel
theorem dX0_init_59 : decode cX0_init 59 = .ok (.aload_n 0, 1) := by decide +kernel
theorem dX0_init_60 : decode cX0_init 60 = .ok (.getfield 20, 3) := by decide +kernel
theorem dX0_init_63 : decode cX0_init 63 = .ok (.iload_n 1, 1) := by decide +kernel
theorem dX0_init_64 : decode cX0_init 64 = .ok (.new 9, 3) := by decide +kernel
theorem dX0_init_67 : decode cX0_init 67 = .ok (.dup, 1) := by decide +kernel
theorem dX0_init_68 : decode cX0_init 68 = .ok (.bipush 12, 2) := by decide +kernel
theorem dX0_init_70 : decode cX0_init 70 = .ok (.invokespecial 17, 3) := by decide +kernel
theorem dX0_init_73 : decode cX0_init 73 = .ok (.aastore, 1) := by decide +kernel
theorem dX0_init_74 : decode cX0_init 74 = .ok (.iinc 1 1, 3) := by decide +kernel
theorem dX0_init_77 : decode cX0_init 77 = .ok (.goto (-24), 3) := by decide +kernel
theorem dX0_init_80 : decode cX0_init 80 = .ok (.aload_n 0, 1) := by decide +kernel
theorem dX0_init_81 : decode cX0_init 81 = .ok (.bipush 30, 2) := by decide +kernel
theorem dX0_init_83 : decode cX0_init 83 = .ok (.newarray .int, 2) := by decide +kernel
theorem dX0_init_85 : decode cX0_init 85 = .ok (.putfield 23, 3) := by decide +kernel
theorem dX0_init_88 : decode cX0_init 88 = .ok (.aload_n 0, 1) := by decide +kernel
theorem dX0_init_89 : decode cX0_init 89 = .ok (.bipush 60, 2) := by decide +kernel
theorem dX0_init_91 : decode cX0_init 91 = .ok (.anewarray 27, 3) := by decide +kernel
theorem dX0_init_94 : decode cX0_init 94 = .ok (.putfield 29, 3) := by decide +kernel
theorem dX0_init_97 : decode cX0_init 97 = .ok (.iconst 0, 1) := by decide +kernel
theorem dX0_init_98 : decode cX0_init 98 = .ok (.istore_n 1, 1) := by decide +kernel
theorem dX0_init_99 : decode cX0_init 99 = .ok (.iload_n 1, 1) := by decide +kernel
theorem dX0_init_100 : decode cX0_init 100 = .ok (.bipush 60, 2) := by decide +kernel
theorem dX0_init_102 : decode cX0_init 102 = .ok (.if_icmp .ge 22, 3) := by decide +kernel
theorem dX0_init_105 : decode cX0_init 105 = .ok (.aload_n 0, 1) := by decide +kernel
theorem dX0_init_106 : decode cX0_init 106 = .ok (.getfield 29, 3) := by decide +kernel
theorem dX0_init_109 : decode cX0_init 109 = .ok (.iload_n 1, 1) := by decide +kernel
theorem dX0_init_110 : decode cX0_init 110 = .ok (.new 27, 3) := by decide +kernel
theorem dX0_init_113 : decode cX0_init 113 = .ok (.dup, 1) := by decide +kernel
theorem dX0_init_114 : decode cX0_init 114 = .ok (.invokespecial 33, 3) := by decide +kernel
theorem dX0_init_117 : decode cX0_init 117 = .ok (.aastore, 1) := by decide +kernel
theorem dX0_init_118 : decode cX0_init 118 = .ok (.iinc 1 1, 3) := by decide +kernel
theorem dX0_init_121 : decode cX0_init 121 = .ok (.goto (-22), 3) := by decide +kernel
theorem dX0_init_124 : decode cX0_init 124 = .ok (.return_, 1) := by decide +kernel
theorem dX0_clear_0 : decode cX0_clear 0 = .ok (.aload_n 0, 1) := by decide +kernel
theorem dX0_clear_1 : decode cX0_clear 1 = .ok (.iconst 0, 1) := by decide +kernel
theorem dX0_clear_2 : decode cX0_clear 2 = .ok (.putfield 34, 3) := by decide +kernel
theorem dX0_clear_5 : decode cX0_clear 5 = .ok (.aload_n 0, 1) := by decide +kernel
theorem dX0_clear_6 : decode cX0_clear 6 = .ok (.iconst 0, 1) := by decide +kernel
theorem dX0_clear_7 : decode cX0_clear 7 = .ok (.putfield 38, 3) := by decide +kernel
theorem dX0_clear_10 : decode cX0_clear 10 = .ok (.aload_n 0, 1) := by decide +kernel
theorem dX0_clear_11 : decode cX0_clear 11 = .ok (.iconst 0, 1) := by decide +kernel
theorem dX0_clear_12 : decode cX0_clear 12 = .ok (.putfield 41, 3) := by decide +kernel
theorem dX0_clear_15 : decode cX0_clear 15 = .ok (.return_, 1) := by decide +kernel
theorem dX0_placeSize_0 : decode cX0_placeSize 0 = .ok (.aload_n 0, 1) := by decide +kernel
theorem dX0_placeSize_1 : decode cX0_placeSize 1 = .ok (.getfield 38, 3) := by decide +kernel
theorem dX0_placeSize_4 : decode cX0_placeSize 4 = .ok (.bipush 30, 2) := by decide +kernel
theorem dX0_placeSize_6 : decode cX0_placeSize 6 = .ok (.imul, 1) := by decide +kernel
theorem dX0_placeSize_7 : decode cX0_placeSize 7 = .ok (.ireturn, 1) := by decide +kernel
theorem dX7_init_0 : decode cX7_init 0 = .ok (.aload_n 0, 1) := by decide +kernel
theorem dX7_init_1 : decode cX7_init 1 = .ok (.invokespecial 3, 3) := by decide +kernel
theorem dX7_init_4 : decode cX7_init 4 = .ok (.aload_n 0, 1) := by decide +kernel
theorem dX7_init_5 : decode cX7_init 5 = .ok (.iconst 0, 1) := by decide +kernel
theorem dX7_init_6 : decode cX7_init 6 = .ok (.putfield 9, 3) := by decide +kernel
theorem dX7_init_9 : decode cX7_init 9 = .ok (.aload_n 0, 1) := by decide +kernel
theorem dX7_init_10 : decode cX7_init 10 = .ok (.iconst (-1), 1) := by decide +kernel
theorem dX7_init_11 : decode cX7_init 11 = .ok (.putfield 15, 3) := by decide +kernel
theorem dX7_init_14 : decode cX7_init 14 = .ok (.aload_n 0, 1) := by decide +kernel
theorem dX7_init_15 : decode cX7_init 15 = .ok (.new 18, 3) := by decide +kernel
theorem dX7_init_18 : decode cX7_init 18 = .ok (.dup, 1) := by decide +kernel
theorem dX7_init_19 : decode cX7_init 19 = .ok (.bipush 12, 2) := by decide +kernel
theorem dX7_init_21 : decode cX7_init 21 = .ok (.invokespecial 20, 3) := by decide +kernel
theorem dX7_init_24 : decode cX7_init 24 = .ok (.putfield 23, 3) := by decide +kernel
theorem dX7_init_27 : decode cX7_init 27 = .ok (.return_, 1) := by decide +kernel
theorem dX7_parse_0 : decode cX7_parse 0 = .ok (.aload_n 0, 1) := by decide +kernel
theorem dX7_parse_1 : decode cX7_parse 1 = .ok (.aload_n 1, 1) := by decide +kernel
theorem dX7_parse_2 : decode cX7_parse 2 = .ok (.putfield 27, 3) := by decide +kernel
theorem dX7_parse_5 : decode cX7_parse 5 = .ok (.aload_n 0, 1) := by decide +kernel
theorem dX7_parse_6 : decode cX7_parse 6 = .ok (.aload_n 2, 1) := by decide +kernel
theorem dX7_parse_7 : decode cX7_parse 7 = .ok (.putfield 30, 3) := by decide +kernel
theorem dX7_parse_10 : decode cX7_parse 10 = .ok (.aload_n 0, 1) := by decide +kernel
theorem dX7_parse_11 : decode cX7_parse 11 = .ok (.getfield 30, 3) := by decide +kernel
theorem dX7_parse_14 : decode cX7_parse 14 = .ok (.invokevirtual 34, 3) := by decide +kernel
theorem dX7_parse_17 : decode cX7_parse 17 = .ok (.aload_n 0, 1) := by decide +kernel
theorem dX7_parse_18 : decode cX7_parse 18 = .ok (.iconst 0, 1) := by decide +kernel
theorem dX7_parse_19 : decode cX7_parse 19 = .ok (.putfield 9, 3) := by decide +kernel
theorem dX7_parse_22 : decode cX7_parse 22 = .ok (.aload_n 0, 1) := by decide +kernel
theorem dX7_parse_23 : decode cX7_parse 23 = .ok (.iconst (-1), 1) := by decide +kernel
theorem dX7_parse_24 : decode cX7_parse 24 = .ok (.putfield 15, 3) := by decide +kernel
theorem dX7_parse_27 : decode cX7_parse 27 = .ok (.aload_n 0, 1) := by decide +kernel
theorem dX7_parse_28 : decode cX7_parse 28 = .ok (.iconst 0, 1) := by decide +kernel
theorem dX7_parse_29 : decode cX7_parse 29 = .ok (.putfield 39, 3) := by decide +kernel
theorem dX7_parse_32 : decode cX7_parse 32 = .ok (.aload_n 0, 1) := by decide +kernel
theorem dX7_parse_33 : decode cX7_parse 33 = .ok (.invokevirtual 42, 3) := by decide +kernel
theorem dX7_parse_36 : decode cX7_parse 36 = .ok (.iconst 1, 1) := by decide +kernel
theorem dX7_parse_37 : decode cX7_parse 37 = .ok (.istore_n 3, 1) := by decide +kernel
theorem dX7_parse_38 : decode cX7_parse 38 = .ok (.iconst 0, 1) := by decide +kernel
theorem dX7_parse_39 : decode cX7_parse 39 = .ok (.istore 4, 2) := by decide +kernel
theorem dX7_parse_41 : decode cX7_parse 41 = .ok (.iload 4, 2) := by decide +kernel
theorem dX7_parse_43 : decode cX7_parse 43 = .ok (.sipush 4000, 3) := by decide +kernel
theorem dX7_parse_46 : decode cX7_parse 46 = .ok (.if_icmp .gt 92, 3) := by decide +kernel
theorem dX7_parse_49 : decode cX7_parse 49 = .ok (.iload_n 3, 1) := by decide +kernel
theorem dX7_parse_50 : decode cX7_parse 50 = .ok (.ifCond .eq 88, 3) := by decide +kernel
theorem dX7_parse_53 : decode cX7_parse 53 = .ok (.aload_n 0, 1) := by decide +kernel
theorem dX7_parse_54 : decode cX7_parse 54 = .ok (.getfield 45, 3) := by decide +kernel
theorem dX7_parse_57 : decode cX7_parse 57 = .ok (.bipush 21, 2) := by decide +kernel
theorem dX7_parse_59 : decode cX7_parse 59 = .ok (.if_icmp .eq 79, 3) := by decide +kernel
theorem dX7_parse_62 : decode cX7_parse 62 = .ok (.aload_n 0, 1) := by decide +kernel
theorem dX7_parse_63 : decode cX7_parse 63 = .ok (.getfield 45, 3) := by decide +kernel
theorem dX7_parse_66 : decode cX7_parse 66 = .ok (.lookupswitch 42 #[(6, 26), (7, 34)], 26) := by decide +kernel
theorem dX7_parse_92 : decode cX7_parse 92 = .ok (.aload_n 0, 1) := by decide +kernel
theorem dX7_parse_93 : decode cX7_parse 93 = .ok (.invokevirtual 48, 3) := by decide +kernel
theorem dX7_parse_96 : decode cX7_parse 96 = .ok (.istore_n 3, 1) := by decide +kernel
theorem dX7_parse_97 : decode cX7_parse 97 = .ok (.goto 16, 3) := by decide +kernel
theorem dX7_parse_100 : decode cX7_parse 100 = .ok (.aload_n 0, 1) := by decide +kernel
theorem dX7_parse_101 : decode cX7_parse 101 = .ok (.invokevirtual 52, 3) := by decide +kernel
theorem dX7_parse_104 : decode cX7_parse 104 = .ok (.istore_n 3, 1) := by decide +kernel
theorem dX7_parse_105 : decode cX7_parse 105 = .ok (.goto 8, 3) := by decide +kernel
theorem dX7_parse_108 : decode cX7_parse 108 = .ok (.aload_n 0, 1) := by decide +kernel
theorem dX7_parse_109 : decode cX7_parse 109 = .ok (.invokevirtual 55, 3) := by decide +kernel
theorem dX7_parse_112 : decode cX7_parse 112 = .ok (.istore_n 3, 1) := by decide +kernel
theorem dX7_parse_113 : decode cX7_parse 113 = .ok (.iload_n 3, 1) := by decide +kernel
theorem dX7_parse_114 : decode cX7_parse 114 = .ok (.ifCond .eq 16, 3) := by decide +kernel
theorem dX7_parse_117 : decode cX7_parse 117 = .ok (.aload_n 0, 1) := by decide +kernel
theorem dX7_parse_118 : decode cX7_parse 118 = .ok (.bipush 20, 2) := by decide +kernel
theorem dX7_parse_120 : decode cX7_parse 120 = .ok (.invokevirtual 58, 3) := by decide +kernel
theorem dX7_parse_123 : decode cX7_parse 123 = .ok (.ifCond .eq 7, 3) := by decide +kernel
theorem dX7_parse_126 : decode cX7_parse 126 = .ok (.iconst 1, 1) := by decide +kernel
theorem dX7_parse_127 : decode cX7_parse 127 = .ok (.goto 4, 3) := by decide +kernel
theorem dX7_parse_130 : decode cX7_parse 130 = .ok (.iconst 0, 1) := by decide +kernel
theorem dX7_parse_131 : decode cX7_parse 131 = .ok (.istore_n 3, 1) := by decide +kernel
theorem dX7_parse_132 : decode cX7_parse 132 = .ok (.iinc 4 1, 3) := by decide +kernel
theorem dX7_parse_135 : decode cX7_parse 135 = .ok (.goto (-94), 3) := by decide +kernel
theorem dX7_parse_138 : decode cX7_parse 138 = .ok (.iload_n 3, 1) := by decide +kernel
theorem dX7_parse_139 : decode cX7_parse 139 = .ok (.ireturn, 1) := by decide +kernel
theorem dX7_step_0 : decode cX7_step 0 = .ok (.aload_n 0, 1) := by decide +kernel
theorem dX7_step_1 : decode cX7_step 1 = .ok (.aload_n 0, 1) := by decide +kernel
theorem dX7_step_2 : decode cX7_step 2 = .ok (.getfield 39, 3) := by decide +kernel
theorem dX7_step_5 : decode cX7_step 5 = .ok (.putfield 174, 3) := by decide +kernel
theorem dX7_step_8 : decode cX7_step 8 = .ok (.aload_n 0, 1) := by decide +kernel
theorem dX7_step_9 : decode cX7_step 9 = .ok (.getfield 174, 3) := by decide +kernel
theorem dX7_step_12 : decode cX7_step 12 = .ok (.aload_n 0, 1) := by decide +kernel
theorem dX7_step_13 : decode cX7_step 13 = .ok (.getfield 27, 3) := by decide +kernel
theorem dX7_step_16 : decode cX7_step 16 = .ok (.getfield 192, 3) := by decide +kernel
theorem dX7_step_19 : decode cX7_step 19 = .ok (.if_icmp .ge 48, 3) := by decide +kernel
theorem dX7_step_22 : decode cX7_step 22 = .ok (.aload_n 0, 1) := by decide +kernel
theorem dX7_step_23 : decode cX7_step 23 = .ok (.getfield 27, 3) := by decide +kernel
theorem dX7_step_26 : decode cX7_step 26 = .ok (.aload_n 0, 1) := by decide +kernel
theorem dX7_step_27 : decode cX7_step 27 = .ok (.getfield 174, 3) := by decide +kernel
theorem dX7_step_30 : decode cX7_step 30 = .ok (.invokevirtual 182, 3) := by decide +kernel
theorem dX7_step_33 : decode cX7_step 33 = .ok (.bipush 32, 2) := by decide +kernel
theorem dX7_step_35 : decode cX7_step 35 = .ok (.if_icmp .eq 19, 3) := by decide +kernel
theorem dX7_step_38 : decode cX7_step 38 = .ok (.aload_n 0, 1) := by decide +kernel
theorem dX7_step_39 : decode cX7_step 39 = .ok (.getfield 27, 3) := by decide +kernel
theorem dX7_step_42 : decode cX7_step 42 = .ok (.aload_n 0, 1) := by decide +kernel
theorem dX7_step_43 : decode cX7_step 43 = .ok (.getfield 174, 3) := by decide +kernel
theorem dX7_step_46 : decode cX7_step 46 = .ok (.invokevirtual 182, 3) := by decide +kernel
theorem dX7_step_49 : decode cX7_step 49 = .ok (.bipush 10, 2) := by decide +kernel
theorem dX7_step_51 : decode cX7_step 51 = .ok (.if_icmp .ne 16, 3) := by decide +kernel
theorem dX7_step_54 : decode cX7_step 54 = .ok (.aload_n 0, 1) := by decide +kernel
theorem dX7_step_55 : decode cX7_step 55 = .ok (.dup, 1) := by decide +kernel
theorem dX7_step_56 : decode cX7_step 56 = .ok (.getfield 174, 3) := by decide +kernel
theorem dX7_step_59 : decode cX7_step 59 = .ok (.iconst 1, 1) := by decide +kernel
theorem dX7_step_60 : decode cX7_step 60 = .ok (.iadd, 1) := by decide +kernel
theorem dX7_step_61 : decode cX7_step 61 = .ok (.putfield 174, 3) := by decide +kernel
theorem dX7_step_64 : decode cX7_step 64 = .ok (.goto (-56), 3) := by decide +kernel
theorem dX7_step_67 : decode cX7_step 67 = .ok (.aload_n 0, 1) := by decide +kernel
theorem dX7_step_68 : decode cX7_step 68 = .ok (.aload_n 0, 1) := by decide +kernel
theorem dX7_step_69 : decode cX7_step 69 = .ok (.getfield 174, 3) := by decide +kernel
theorem dX7_step_72 : decode cX7_step 72 = .ok (.iconst 1, 1) := by decide +kernel
theorem dX7_step_73 : decode cX7_step 73 = .ok (.iadd, 1) := by decide +kernel
theorem dX7_step_74 : decode cX7_step 74 = .ok (.putfield 39, 3) := by decide +kernel
theorem dX7_step_77 : decode cX7_step 77 = .ok (.aload_n 0, 1) := by decide +kernel
theorem dX7_step_78 : decode cX7_step 78 = .ok (.getfield 27, 3) := by decide +kernel
theorem dX7_step_81 : decode cX7_step 81 = .ok (.aload_n 0, 1) := by decide +kernel
theorem dX7_step_82 : decode cX7_step 82 = .ok (.getfield 174, 3) := by decide +kernel
theorem dX7_step_85 : decode cX7_step 85 = .ok (.invokevirtual 182, 3) := by decide +kernel
theorem dX7_step_88 : decode cX7_step 88 = .ok (.istore_n 1, 1) := by decide +kernel
theorem dX7_step_89 : decode cX7_step 89 = .ok (.iload_n 1, 1) := by decide +kernel
theorem dX7_step_90 : decode cX7_step 90 = .ok (.iconst (-1), 1) := by decide +kernel
theorem dX7_step_91 : decode cX7_step 91 = .ok (.if_icmp .ne 12, 3) := by decide +kernel
theorem dX7_step_94 : decode cX7_step 94 = .ok (.aload_n 0, 1) := by decide +kernel
theorem dX7_step_95 : decode cX7_step 95 = .ok (.bipush 21, 2) := by decide +kernel
theorem dX7_step_97 : decode cX7_step 97 = .ok (.putfield 45, 3) := by decide +kernel
theorem dX7_step_100 : decode cX7_step 100 = .ok (.goto 221, 3) := by decide +kernel
theorem dX7_step_103 : decode cX7_step 103 = .ok (.iload_n 1, 1) := by decide +kernel
theorem dX7_step_104 : decode cX7_step 104 = .ok (.bipush 59, 2) := by decide +kernel
theorem dX7_step_106 : decode cX7_step 106 = .ok (.if_icmp .ne 12, 3) := by decide +kernel
theorem dX7_step_109 : decode cX7_step 109 = .ok (.aload_n 0, 1) := by decide +kernel
theorem dX7_step_110 : decode cX7_step 110 = .ok (.bipush 20, 2) := by decide +kernel
theorem dX7_step_112 : decode cX7_step 112 = .ok (.putfield 45, 3) := by decide +kernel
theorem dX7_step_115 : decode cX7_step 115 = .ok (.goto 206, 3) := by decide +kernel
theorem dX7_step_118 : decode cX7_step 118 = .ok (.iload_n 1, 1) := by decide +kernel
theorem dX7_step_119 : decode cX7_step 119 = .ok (.bipush 39, 2) := by decide +kernel
theorem dX7_step_121 : decode cX7_step 121 = .ok (.if_icmp .ne 81, 3) := by decide +kernel
theorem dX7_step_124 : decode cX7_step 124 = .ok (.aload_n 0, 1) := by decide +kernel
theorem dX7_step_125 : decode cX7_step 125 = .ok (.aload_n 0, 1) := by decide +kernel
theorem dX7_step_126 : decode cX7_step 126 = .ok (.aload_n 0, 1) := by decide +kernel
theorem dX7_step_127 : decode cX7_step 127 = .ok (.getfield 174, 3) := by decide +kernel
theorem dX7_step_130 : decode cX7_step 130 = .ok (.iconst 1, 1) := by decide +kernel
theorem dX7_step_131 : decode cX7_step 131 = .ok (.iadd, 1) := by decide +kernel
theorem dX7_step_132 : decode cX7_step 132 = .ok (.bipush 97, 2) := by decide +kernel
theorem dX7_step_134 : decode cX7_step 134 = .ok (.bipush 122, 2) := by decide +kernel
theorem dX7_step_136 : decode cX7_step 136 = .ok (.invokevirtual 195, 3) := by decide +kernel
theorem dX7_step_139 : decode cX7_step 139 = .ok (.iconst 1, 1) := by decide +kernel
theorem dX7_step_140 : decode cX7_step 140 = .ok (.iadd, 1) := by decide +kernel
theorem dX7_step_141 : decode cX7_step 141 = .ok (.putfield 39, 3) := by decide +kernel
theorem dX7_step_144 : decode cX7_step 144 = .ok (.aload_n 0, 1) := by decide +kernel
theorem dX7_step_145 : decode cX7_step 145 = .ok (.getfield 27, 3) := by decide +kernel
theorem dX7_step_148 : decode cX7_step 148 = .ok (.aload_n 0, 1) := by decide +kernel
theorem dX7_step_149 : decode cX7_step 149 = .ok (.getfield 39, 3) := by decide +kernel
theorem dX7_step_152 : decode cX7_step 152 = .ok (.iconst 1, 1) := by decide +kernel
theorem dX7_step_153 : decode cX7_step 153 = .ok (.isub, 1) := by decide +kernel
theorem dX7_step_154 : decode cX7_step 154 = .ok (.invokevirtual 182, 3) := by decide +kernel
theorem dX7_step_157 : decode cX7_step 157 = .ok (.bipush 39, 2) := by decide +kernel
theorem dX7_step_159 : decode cX7_step 159 = .ok (.if_icmp .ne 7, 3) := by decide +kernel
theorem dX7_step_162 : decode cX7_step 162 = .ok (.iconst 1, 1) := by decide +kernel
theorem dX7_step_163 : decode cX7_step 163 = .ok (.goto 4, 3) := by decide +kernel
theorem dX7_step_166 : decode cX7_step 166 = .ok (.iconst 0, 1) := by decide +kernel
theorem dX7_step_167 : decode cX7_step 167 = .ok (.istore_n 2, 1) := by decide +kernel
theorem dX7_step_168 : decode cX7_step 168 = .ok (.aload_n 0, 1) := by decide +kernel
theorem dX7_step_169 : decode cX7_step 169 = .ok (.iload_n 2, 1) := by decide +kernel
theorem dX7_step_170 : decode cX7_step 170 = .ok (.ifCond .eq 24, 3) := by decide +kernel
theorem dX7_step_173 : decode cX7_step 173 = .ok (.aload_n 0, 1) := by decide +kernel
theorem dX7_step_174 : decode cX7_step 174 = .ok (.getfield 39, 3) := by decide +kernel
theorem dX7_step_177 : decode cX7_step 177 = .ok (.aload_n 0, 1) := by decide +kernel
theorem dX7_step_178 : decode cX7_step 178 = .ok (.getfield 174, 3) := by decide +kernel
theorem dX7_step_181 : decode cX7_step 181 = .ok (.isub, 1) := by decide +kernel
theorem dX7_step_182 : decode cX7_step 182 = .ok (.iconst 2, 1) := by decide +kernel
theorem dX7_step_183 : decode cX7_step 183 = .ok (.isub, 1) := by decide +kernel
theorem dX7_step_184 : decode cX7_step 184 = .ok (.bipush 8, 2) := by decide +kernel
theorem dX7_step_186 : decode cX7_step 186 = .ok (.if_icmp .gt 8, 3) := by decide +kernel
theorem dX7_step_189 : decode cX7_step 189 = .ok (.bipush 19, 2) := by decide +kernel
theorem dX7_step_191 : decode cX7_step 191 = .ok (.goto 5, 3) := by decide +kernel
theorem dX7_step_194 : decode cX7_step 194 = .ok (.bipush 22, 2) := by decide +kernel
theorem dX7_step_196 : decode cX7_step 196 = .ok (.putfield 45, 3) := by decide +kernel
theorem dX7_step_199 : decode cX7_step 199 = .ok (.goto 122, 3) := by decide +kernel
theorem dX7_step_202 : decode cX7_step 202 = .ok (.iload_n 1, 1) := by decide +kernel
theorem dX7_step_203 : decode cX7_step 203 = .ok (.bipush 97, 2) := by decide +kernel
theorem dX7_step_205 : decode cX7_step 205 = .ok (.if_icmp .lt 55, 3) := by decide +kernel
theorem dX7_step_208 : decode cX7_step 208 = .ok (.iload_n 1, 1) := by decide +kernel
theorem dX7_step_209 : decode cX7_step 209 = .ok (.bipush 122, 2) := by decide +kernel
theorem dX7_step_211 : decode cX7_step 211 = .ok (.if_icmp .gt 49, 3) := by decide +kernel
theorem dX7_step_214 : decode cX7_step 214 = .ok (.aload_n 0, 1) := by decide +kernel
theorem dX7_step_215 : decode cX7_step 215 = .ok (.aload_n 0, 1) := by decide +kernel
theorem dX7_step_216 : decode cX7_step 216 = .ok (.aload_n 0, 1) := by decide +kernel
theorem dX7_step_217 : decode cX7_step 217 = .ok (.getfield 174, 3) := by decide +kernel
theorem dX7_step_220 : decode cX7_step 220 = .ok (.bipush 97, 2) := by decide +kernel
theorem dX7_step_222 : decode cX7_step 222 = .ok (.bipush 122, 2) := by decide +kernel
theorem dX7_step_224 : decode cX7_step 224 = .ok (.invokevirtual 195, 3) := by decide +kernel
theorem dX7_step_227 : decode cX7_step 227 = .ok (.putfield 39, 3) := by decide +kernel
theorem dX7_step_230 : decode cX7_step 230 = .ok (.aload_n 0, 1) := by decide +kernel
theorem dX7_step_231 : decode cX7_step 231 = .ok (.aload_n 0, 1) := by decide +kernel
theorem dX7_step_232 : decode cX7_step 232 = .ok (.getfield 39, 3) := by decide +kernel
theorem dX7_step_235 : decode cX7_step 235 = .ok (.aload_n 0, 1) := by decide +kernel
theorem dX7_step_236 : decode cX7_step 236 = .ok (.getfield 174, 3) := by decide +kernel
theorem dX7_step_239 : decode cX7_step 239 = .ok (.isub, 1) := by decide +kernel
theorem dX7_step_240 : decode cX7_step 240 = .ok (.bipush 12, 2) := by decide +kernel
theorem dX7_step_242 : decode cX7_step 242 = .ok (.if_icmp .gt 10, 3) := by decide +kernel
theorem dX7_step_245 : decode cX7_step 245 = .ok (.aload_n 0, 1) := by decide +kernel
theorem dX7_step_246 : decode cX7_step 246 = .ok (.invokevirtual 199, 3) := by decide +kernel
theorem dX7_step_249 : decode cX7_step 249 = .ok (.goto 5, 3) := by decide +kernel
theorem dX7_step_252 : decode cX7_step 252 = .ok (.bipush 22, 2) := by decide +kernel
theorem dX7_step_254 : decode cX7_step 254 = .ok (.putfield 45, 3) := by decide +kernel
theorem dX7_step_257 : decode cX7_step 257 = .ok (.goto 64, 3) := by decide +kernel
theorem dX7_step_260 : decode cX7_step 260 = .ok (.iload_n 1, 1) := by decide +kernel
theorem dX7_step_261 : decode cX7_step 261 = .ok (.bipush 48, 2) := by decide +kernel
theorem dX7_step_263 : decode cX7_step 263 = .ok (.if_icmp .lt 52, 3) := by decide +kernel
theorem dX7_step_266 : decode cX7_step 266 = .ok (.iload_n 1, 1) := by decide +kernel
theorem dX7_step_267 : decode cX7_step 267 = .ok (.bipush 57, 2) := by decide +kernel
theorem dX7_step_269 : decode cX7_step 269 = .ok (.if_icmp .gt 46, 3) := by decide +kernel
theorem dX7_step_272 : decode cX7_step 272 = .ok (.aload_n 0, 1) := by decide +kernel
theorem dX7_step_273 : decode cX7_step 273 = .ok (.aload_n 0, 1) := by decide +kernel
theorem dX7_step_274 : decode cX7_step 274 = .ok (.aload_n 0, 1) := by decide +kernel
theorem dX7_step_275 : decode cX7_step 275 = .ok (.getfield 174, 3) := by decide +kernel
theorem dX7_step_278 : decode cX7_step 278 = .ok (.bipush 48, 2) := by decide +kernel
theorem dX7_step_280 : decode cX7_step 280 = .ok (.bipush 57, 2) := by decide +kernel
theorem dX7_step_282 : decode cX7_step 282 = .ok (.invokevirtual 195, 3) := by decide +kernel
theorem dX7_step_285 : decode cX7_step 285 = .ok (.putfield 39, 3) := by decide +kernel
theorem dX7_step_288 : decode cX7_step 288 = .ok (.aload_n 0, 1) := by decide +kernel
theorem dX7_step_289 : decode cX7_step 289 = .ok (.aload_n 0, 1) := by decide +kernel
theorem dX7_step_290 : decode cX7_step 290 = .ok (.getfield 39, 3) := by decide +kernel
theorem dX7_step_293 : decode cX7_step 293 = .ok (.aload_n 0, 1) := by decide +kernel
theorem dX7_step_294 : decode cX7_step 294 = .ok (.getfield 174, 3) := by decide +kernel
theorem dX7_step_297 : decode cX7_step 297 = .ok (.isub, 1) := by decide +kernel
theorem dX7_step_298 : decode cX7_step 298 = .ok (.iconst 1, 1) := by decide +kernel
theorem dX7_step_299 : decode cX7_step 299 = .ok (.if_icmp .ne 8, 3) := by decide +kernel
theorem dX7_step_302 : decode cX7_step 302 = .ok (.bipush 18, 2) := by decide +kernel
theorem dX7_step_304 : decode cX7_step 304 = .ok (.goto 5, 3) := by decide +kernel
theorem dX7_step_307 : decode cX7_step 307 = .ok (.bipush 22, 2) := by decide +kernel
theorem dX7_step_309 : decode cX7_step 309 = .ok (.putfield 45, 3) := by decide +kernel
theorem dX7_step_312 : decode cX7_step 312 = .ok (.goto 9, 3) := by decide +kernel
theorem dX7_step_315 : decode cX7_step 315 = .ok (.aload_n 0, 1) := by decide +kernel
theorem dX7_step_316 : decode cX7_step 316 = .ok (.bipush 22, 2) := by decide +kernel
theorem dX7_step_318 : decode cX7_step 318 = .ok (.putfield 45, 3) := by decide +kernel
theorem dX7_step_321 : decode cX7_step 321 = .ok (.return_, 1) := by decide +kernel
theorem dX2_init_0 : decode cX2_init 0 = .ok (.aload_n 0, 1) := by decide +kernel
theorem dX2_init_1 : decode cX2_init 1 = .ok (.invokespecial 3, 3) := by decide +kernel
theorem dX2_init_4 : decode cX2_init 4 = .ok (.aload_n 0, 1) := by decide +kernel
theorem dX2_init_5 : decode cX2_init 5 = .ok (.new 9, 3) := by decide +kernel
theorem dX2_init_8 : decode cX2_init 8 = .ok (.dup, 1) := by decide +kernel
theorem dX2_init_9 : decode cX2_init 9 = .ok (.bipush 30, 2) := by decide +kernel
theorem dX2_init_11 : decode cX2_init 11 = .ok (.invokespecial 11, 3) := by decide +kernel
theorem dX2_init_14 : decode cX2_init 14 = .ok (.putfield 14, 3) := by decide +kernel
theorem dX2_init_17 : decode cX2_init 17 = .ok (.aload_n 0, 1) := by decide +kernel
theorem dX2_init_18 : decode cX2_init 18 = .ok (.bipush 120, 2) := by decide +kernel
theorem dX2_init_20 : decode cX2_init 20 = .ok (.newarray .int, 2) := by decide +kernel
theorem dX2_init_22 : decode cX2_init 22 = .ok (.putfield 20, 3) := by decide +kernel
theorem dX2_init_25 : decode cX2_init 25 = .ok (.return_, 1) := by decide +kernel
theorem dX3_init_0 : decode cX3_init 0 = .ok (.aload_n 0, 1) := by decide +kernel
theorem dX3_init_1 : decode cX3_init 1 = .ok (.invokespecial 3, 3) := by decide +kernel
theorem dX3_init_4 : decode cX3_init 4 = .ok (.aload_n 0, 1) := by decide +kernel
theorem dX3_init_5 : decode cX3_init 5 = .ok (.iconst 0, 1) := by decide +kernel
theorem dX3_init_6 : decode cX3_init 6 = .ok (.iload_n 1, 1) := by decide +kernel
theorem dX3_init_7 : decode cX3_init 7 = .ok (.invokestatic 9, 3) := by decide +kernel
theorem dX3_init_10 : decode cX3_init 10 = .ok (.anewarray 15, 3) := by decide +kernel
theorem dX3_init_13 : decode cX3_init 13 = .ok (.putfield 17, 3) := by decide +kernel
theorem dX3_init_16 : decode cX3_init 16 = .ok (.iconst 0, 1) := by decide +kernel
theorem dX3_init_17 : decode cX3_init 17 = .ok (.istore_n 2, 1) := by decide +kernel
theorem dX3_init_18 : decode cX3_init 18 = .ok (.iload_n 2, 1) := by decide +kernel
theorem dX3_init_19 : decode cX3_init 19 = .ok (.aload_n 0, 1) := by decide +kernel
theorem dX3_init_20 : decode cX3_init 20 = .ok (.getfield 17, 3) := by decide +kernel
theorem dX3_init_23 : decode cX3_init 23 = .ok (.arraylength, 1) := by decide +kernel
theorem dX3_init_24 : decode cX3_init 24 = .ok (.if_icmp .ge 22, 3) := by decide +kernel
theorem dX3_init_27 : decode cX3_init 27 = .ok (.aload_n 0, 1) := by decide +kernel
theorem dX3_init_28 : decode cX3_init 28 = .ok (.getfield 17, 3) := by decide +kernel
theorem dX3_init_31 : decode cX3_init 31 = .ok (.iload_n 2, 1) := by decide +kernel
theorem dX3_init_32 : decode cX3_init 32 = .ok (.new 15, 3) := by decide +kernel
theorem dX3_init_35 : decode cX3_init 35 = .ok (.dup, 1) := by decide +kernel
theorem dX3_init_36 : decode cX3_init 36 = .ok (.invokespecial 23, 3) := by decide +kernel
theorem dX3_init_39 : decode cX3_init 39 = .ok (.aastore, 1) := by decide +kernel
theorem dX3_init_40 : decode cX3_init 40 = .ok (.iinc 2 1, 3) := by decide +kernel
theorem dX3_init_43 : decode cX3_init 43 = .ok (.goto (-25), 3) := by decide +kernel
theorem dX3_init_46 : decode cX3_init 46 = .ok (.return_, 1) := by decide +kernel
theorem dX6_init_0 : decode cX6_init 0 = .ok (.aload_n 0, 1) := by decide +kernel
theorem dX6_init_1 : decode cX6_init 1 = .ok (.invokespecial 3, 3) := by decide +kernel
theorem dX6_init_4 : decode cX6_init 4 = .ok (.aload_n 0, 1) := by decide +kernel
theorem dX6_init_5 : decode cX6_init 5 = .ok (.new 9, 3) := by decide +kernel
theorem dX6_init_8 : decode cX6_init 8 = .ok (.dup, 1) := by decide +kernel
theorem dX6_init_9 : decode cX6_init 9 = .ok (.iconst 4, 1) := by decide +kernel
theorem dX6_init_10 : decode cX6_init 10 = .ok (.invokespecial 11, 3) := by decide +kernel
theorem dX6_init_13 : decode cX6_init 13 = .ok (.putfield 14, 3) := by decide +kernel
theorem dX6_init_16 : decode cX6_init 16 = .ok (.aload_n 0, 1) := by decide +kernel
theorem dX6_init_17 : decode cX6_init 17 = .ok (.new 9, 3) := by decide +kernel
theorem dX6_init_20 : decode cX6_init 20 = .ok (.dup, 1) := by decide +kernel
theorem dX6_init_21 : decode cX6_init 21 = .ok (.iconst 2, 1) := by decide +kernel
theorem dX6_init_22 : decode cX6_init 22 = .ok (.invokespecial 11, 3) := by decide +kernel
theorem dX6_init_25 : decode cX6_init 25 = .ok (.putfield 20, 3) := by decide +kernel
theorem dX6_init_28 : decode cX6_init 28 = .ok (.aload_n 0, 1) := by decide +kernel
theorem dX6_init_29 : decode cX6_init 29 = .ok (.new 9, 3) := by decide +kernel
theorem dX6_init_32 : decode cX6_init 32 = .ok (.dup, 1) := by decide +kernel
theorem dX6_init_33 : decode cX6_init 33 = .ok (.iconst 2, 1) := by decide +kernel
theorem dX6_init_34 : decode cX6_init 34 = .ok (.invokespecial 11, 3) := by decide +kernel
theorem dX6_init_37 : decode cX6_init 37 = .ok (.putfield 23, 3) := by decide +kernel
theorem dX6_init_40 : decode cX6_init 40 = .ok (.aload_n 0, 1) := by decide +kernel
theorem dX6_init_41 : decode cX6_init 41 = .ok (.new 26, 3) := by decide +kernel
theorem dX6_init_44 : decode cX6_init 44 = .ok (.dup, 1) := by decide +kernel
theorem dX6_init_45 : decode cX6_init 45 = .ok (.bipush 30, 2) := by decide +kernel
theorem dX6_init_47 : decode cX6_init 47 = .ok (.invokespecial 28, 3) := by decide +kernel
theorem dX6_init_50 : decode cX6_init 50 = .ok (.putfield 29, 3) := by decide +kernel
theorem dX6_init_53 : decode cX6_init 53 = .ok (.return_, 1) := by decide +kernel
theorem dX8_init_0 : decode cX8_init 0 = .ok (.aload_n 0, 1) := by decide +kernel
theorem dX8_init_1 : decode cX8_init 1 = .ok (.invokespecial 3, 3) := by decide +kernel
theorem dX8_init_4 : decode cX8_init 4 = .ok (.aload_n 0, 1) := by decide +kernel
theorem dX8_init_5 : decode cX8_init 5 = .ok (.sipush 900, 3) := by decide +kernel
theorem dX8_init_8 : decode cX8_init 8 = .ok (.newarray .long, 2) := by decide +kernel
theorem dX8_init_10 : decode cX8_init 10 = .ok (.putfield 9, 3) := by decide +kernel
theorem dX8_init_13 : decode cX8_init 13 = .ok (.aload_n 0, 1) := by decide +kernel
theorem dX8_init_14 : decode cX8_init 14 = .ok (.sipush 900, 3) := by decide +kernel
theorem dX8_init_17 : decode cX8_init 17 = .ok (.newarray .long, 2) := by decide +kernel
theorem dX8_init_19 : decode cX8_init 19 = .ok (.putfield 15, 3) := by decide +kernel
theorem dX8_init_22 : decode cX8_init 22 = .ok (.aload_n 0, 1) := by decide +kernel
theorem dX8_init_23 : decode cX8_init 23 = .ok (.sipush 900, 3) := by decide +kernel
theorem dX8_init_26 : decode cX8_init 26 = .ok (.newarray .long, 2) := by decide +kernel
theorem dX8_init_28 : decode cX8_init 28 = .ok (.putfield 18, 3) := by decide +kernel
theorem dX8_init_31 : decode cX8_init 31 = .ok (.return_, 1) := by decide +kernel
theorem dX8_look_0 : decode cX8_look 0 = .ok (.aload_n 0, 1) := by decide +kernel
theorem dX8_look_1 : decode cX8_look 1 = .ok (.getfield 21, 3) := by decide +kernel
theorem dX8_look_4 : decode cX8_look 4 = .ok (.ifCond .eq 4, 3) := by decide +kernel
theorem dX8_look_7 : decode cX8_look 7 = .ok (.return_, 1) := by decide +kernel
theorem dX8_look_8 : decode cX8_look 8 = .ok (.iconst 0, 1) := by decide +kernel
theorem dX8_look_9 : decode cX8_look 9 = .ok (.istore_n 3, 1) := by decide +kernel
theorem dX8_look_10 : decode cX8_look 10 = .ok (.iload_n 3, 1) := by decide +kernel
theorem dX8_look_11 : decode cX8_look 11 = .ok (.aload_n 1, 1) := by decide +kernel
theorem dX8_look_12 : decode cX8_look 12 = .ok (.invokevirtual 25, 3) := by decide +kernel
theorem dX8_look_15 : decode cX8_look 15 = .ok (.if_icmp .ge 35, 3) := by decide +kernel
theorem dX8_look_18 : decode cX8_look 18 = .ok (.aload_n 2, 1) := by decide +kernel
theorem dX8_look_19 : decode cX8_look 19 = .ok (.aload_n 1, 1) := by decide +kernel
theorem dX8_look_20 : decode cX8_look 20 = .ok (.iload_n 3, 1) := by decide +kernel
theorem dX8_look_21 : decode cX8_look 21 = .ok (.invokestatic 31, 3) := by decide +kernel
theorem dX8_look_24 : decode cX8_look 24 = .ok (.iload_n 3, 1) := by decide +kernel
theorem dX8_look_25 : decode cX8_look 25 = .ok (.invokestatic 35, 3) := by decide +kernel
theorem dX8_look_28 : decode cX8_look 28 = .ok (.iload_n 3, 1) := by decide +kernel
theorem dX8_look_29 : decode cX8_look 29 = .ok (.invokestatic 38, 3) := by decide +kernel
theorem dX8_look_32 : decode cX8_look 32 = .ok (.invokevirtual 41, 3) := by decide +kernel
theorem dX8_look_35 : decode cX8_look 35 = .ok (.aload_n 0, 1) := by decide +kernel
theorem dX8_look_36 : decode cX8_look 36 = .ok (.iload_n 3, 1) := by decide +kernel
theorem dX8_look_37 : decode cX8_look 37 = .ok (.aload_n 2, 1) := by decide +kernel
theorem dX8_look_38 : decode cX8_look 38 = .ok (.getfield 47, 3) := by decide +kernel
theorem dX8_look_41 : decode cX8_look 41 = .ok (.invokevirtual 51, 3) := by decide +kernel
theorem dX8_look_44 : decode cX8_look 44 = .ok (.iinc 3 1, 3) := by decide +kernel
theorem dX8_look_47 : decode cX8_look 47 = .ok (.goto (-37), 3) := by decide +kernel
theorem dX8_look_50 : decode cX8_look 50 = .ok (.aload_n 0, 1) := by decide +kernel
theorem dX8_look_51 : decode cX8_look 51 = .ok (.iconst 1, 1) := by decide +kernel
theorem dX8_look_52 : decode cX8_look 52 = .ok (.putfield 21, 3) := by decide +kernel
theorem dX8_look_55 : decode cX8_look 55 = .ok (.return_, 1) := by decide +kernel
theorem dX8_linesUsed_0 : decode cX8_linesUsed 0 = .ok (.lconst 0, 1) := by decide +kernel
theorem dX8_linesUsed_1 : decode cX8_linesUsed 1 = .ok (.lstore_n 2, 1) := by decide +kernel
theorem dX8_linesUsed_2 : decode cX8_linesUsed 2 = .ok (.iconst 0, 1) := by decide +kernel
theorem dX8_linesUsed_3 : decode cX8_linesUsed 3 = .ok (.istore 4, 2) := by decide +kernel
theorem dX8_linesUsed_5 : decode cX8_linesUsed 5 = .ok (.iload 4, 2) := by decide +kernel
theorem dX8_linesUsed_7 : decode cX8_linesUsed 7 = .ok (.iload_n 1, 1) := by decide +kernel
theorem dX8_linesUsed_8 : decode cX8_linesUsed 8 = .ok (.if_icmp .ge 19, 3) := by decide +kernel
theorem dX8_linesUsed_11 : decode cX8_linesUsed 11 = .ok (.lload_n 2, 1) := by decide +kernel
theorem dX8_linesUsed_12 : decode cX8_linesUsed 12 = .ok (.aload_n 0, 1) := by decide +kernel
theorem dX8_linesUsed_13 : decode cX8_linesUsed 13 = .ok (.getfield 15, 3) := by decide +kernel
theorem dX8_linesUsed_16 : decode cX8_linesUsed 16 = .ok (.iload 4, 2) := by decide +kernel
theorem dX8_linesUsed_18 : decode cX8_linesUsed 18 = .ok (.laload, 1) := by decide +kernel
theorem dX8_linesUsed_19 : decode cX8_linesUsed 19 = .ok (.lor, 1) := by decide +kernel
theorem dX8_linesUsed_20 : decode cX8_linesUsed 20 = .ok (.lstore_n 2, 1) := by decide +kernel
theorem dX8_linesUsed_21 : decode cX8_linesUsed 21 = .ok (.iinc 4 1, 3) := by decide +kernel
theorem dX8_linesUsed_24 : decode cX8_linesUsed 24 = .ok (.goto (-19), 3) := by decide +kernel
theorem dX8_linesUsed_27 : decode cX8_linesUsed 27 = .ok (.lload_n 2, 1) := by decide +kernel
theorem dX8_linesUsed_28 : decode cX8_linesUsed 28 = .ok (.lreturn, 1) := by decide +kernel
theorem dX10_init_0 : decode cX10_init 0 = .ok (.aload_n 0, 1) := by decide +kernel
theorem dX10_init_1 : decode cX10_init 1 = .ok (.invokespecial 3, 3) := by decide +kernel
theorem dX10_init_4 : decode cX10_init 4 = .ok (.return_, 1) := by decide +kernel
theorem dX1_init_0 : decode cX1_init 0 = .ok (.aload_n 0, 1) := by decide +kernel
theorem dX1_init_1 : decode cX1_init 1 = .ok (.invokespecial 3, 3) := by decide +kernel
theorem dX1_init_4 : decode cX1_init 4 = .ok (.aload_n 0, 1) := by decide +kernel
theorem dX1_init_5 : decode cX1_init 5 = .ok (.new 9, 3) := by decide +kernel
theorem dX1_init_8 : decode cX1_init 8 = .ok (.dup, 1) := by decide +kernel
theorem dX1_init_9 : decode cX1_init 9 = .ok (.invokespecial 11, 3) := by decide +kernel
theorem dX1_init_12 : decode cX1_init 12 = .ok (.putfield 12, 3) := by decide +kernel
theorem dX1_init_15 : decode cX1_init 15 = .ok (.aload_n 0, 1) := by decide +kernel
theorem dX1_init_16 : decode cX1_init 16 = .ok (.new 9, 3) := by decide +kernel
theorem dX1_init_19 : decode cX1_init 19 = .ok (.dup, 1) := by decide +kernel
theorem dX1_init_20 : decode cX1_init 20 = .ok (.invokespecial 11, 3) := by decide +kernel
theorem dX1_init_23 : decode cX1_init 23 = .ok (.putfield 18, 3) := by decide +kernel
theorem dX1_init_26 : decode cX1_init 26 = .ok (.aload_n 0, 1) := by decide +kernel
theorem dX1_init_27 : decode cX1_init 27 = .ok (.new 21, 3) := by decide +kernel
theorem dX1_init_30 : decode cX1_init 30 = .ok (.dup, 1) := by decide +kernel
theorem dX1_init_31 : decode cX1_init 31 = .ok (.bipush 30, 2) := by decide +kernel
theorem dX1_init_33 : decode cX1_init 33 = .ok (.invokespecial 23, 3) := by decide +kernel
theorem dX1_init_36 : decode cX1_init 36 = .ok (.putfield 26, 3) := by decide +kernel
theorem dX1_init_39 : decode cX1_init 39 = .ok (.aload_n 0, 1) := by decide +kernel
theorem dX1_init_40 : decode cX1_init 40 = .ok (.new 21, 3) := by decide +kernel
theorem dX1_init_43 : decode cX1_init 43 = .ok (.dup, 1) := by decide +kernel
theorem dX1_init_44 : decode cX1_init 44 = .ok (.bipush 30, 2) := by decide +kernel
theorem dX1_init_46 : decode cX1_init 46 = .ok (.invokespecial 23, 3) := by decide +kernel
theorem dX1_init_49 : decode cX1_init 49 = .ok (.putfield 30, 3) := by decide +kernel
theorem dX1_init_52 : decode cX1_init 52 = .ok (.aload_n 0, 1) := by decide +kernel
theorem dX1_init_53 : decode cX1_init 53 = .ok (.new 21, 3) := by decide +kernel
theorem dX1_init_56 : decode cX1_init 56 = .ok (.dup, 1) := by decide +kernel
theorem dX1_init_57 : decode cX1_init 57 = .ok (.bipush 30, 2) := by decide +kernel
theorem dX1_init_59 : decode cX1_init 59 = .ok (.invokespecial 23, 3) := by decide +kernel
theorem dX1_init_62 : decode cX1_init 62 = .ok (.putfield 33, 3) := by decide +kernel
theorem dX1_init_65 : decode cX1_init 65 = .ok (.aload_n 0, 1) := by decide +kernel
theorem dX1_init_66 : decode cX1_init 66 = .ok (.iconst 2, 1) := by decide +kernel
theorem dX1_init_67 : decode cX1_init 67 = .ok (.newarray .int, 2) := by decide +kernel
theorem dX1_init_69 : decode cX1_init 69 = .ok (.putfield 36, 3) := by decide +kernel
theorem dX1_init_72 : decode cX1_init 72 = .ok (.aload_n 0, 1) := by decide +kernel
theorem dX1_init_73 : decode cX1_init 73 = .ok (.iconst 2, 1) := by decide +kernel
theorem dX1_init_74 : decode cX1_init 74 = .ok (.newarray .int, 2) := by decide +kernel
theorem dX1_init_76 : decode cX1_init 76 = .ok (.putfield 40, 3) := by decide +kernel
theorem dX1_init_79 : decode cX1_init 79 = .ok (.aload_n 0, 1) := by decide +kernel
theorem dX1_init_80 : decode cX1_init 80 = .ok (.iconst 2, 1) := by decide +kernel
theorem dX1_init_81 : decode cX1_init 81 = .ok (.newarray .int, 2) := by decide +kernel
theorem dX1_init_83 : decode cX1_init 83 = .ok (.putfield 43, 3) := by decide +kernel
theorem dX1_init_86 : decode cX1_init 86 = .ok (.return_, 1) := by decide +kernel
theorem dX1_forget_0 : decode cX1_forget 0 = .ok (.aload_n 0, 1) := by decide +kernel
theorem dX1_forget_1 : decode cX1_forget 1 = .ok (.iconst 0, 1) := by decide +kernel
theorem dX1_forget_2 : decode cX1_forget 2 = .ok (.putfield 46, 3) := by decide +kernel
theorem dX1_forget_5 : decode cX1_forget 5 = .ok (.return_, 1) := by decide +kernel
theorem dX1_detail_0 : decode cX1_detail 0 = .ok (.iload_n 1, 1) := by decide +kernel
theorem dX1_detail_1 : decode cX1_detail 1 = .ok (.ifCond .ne 15, 3) := by decide +kernel
theorem dX1_detail_4 : decode cX1_detail 4 = .ok (.aload_n 0, 1) := by decide +kernel
theorem dX1_detail_5 : decode cX1_detail 5 = .ok (.getfield 46, 3) := by decide +kernel
theorem dX1_detail_8 : decode cX1_detail 8 = .ok (.ifCond .le 8, 3) := by decide +kernel
theorem dX1_detail_11 : decode cX1_detail 11 = .ok (.aload_n 0, 1) := by decide +kernel
theorem dX1_detail_12 : decode cX1_detail 12 = .ok (.getfield 46, 3) := by decide +kernel
theorem dX1_detail_15 : decode cX1_detail 15 = .ok (.ireturn, 1) := by decide +kernel
theorem dX1_detail_16 : decode cX1_detail 16 = .ok (.iload_n 1, 1) := by decide +kernel
theorem dX1_detail_17 : decode cX1_detail 17 = .ok (.bipush 10, 2) := by decide +kernel
theorem dX1_detail_19 : decode cX1_detail 19 = .ok (.if_icmp .ge 7, 3) := by decide +kernel
theorem dX1_detail_22 : decode cX1_detail 22 = .ok (.iconst (-1), 1) := by decide +kernel
theorem dX1_detail_23 : decode cX1_detail 23 = .ok (.goto 7, 3) := by decide +kernel
theorem dX1_detail_26 : decode cX1_detail 26 = .ok (.iload_n 1, 1) := by decide +kernel
theorem dX1_detail_27 : decode cX1_detail 27 = .ok (.bipush 10, 2) := by decide +kernel
theorem dX1_detail_29 : decode cX1_detail 29 = .ok (.irem, 1) := by decide +kernel
theorem dX1_detail_30 : decode cX1_detail 30 = .ok (.istore_n 2, 1) := by decide +kernel
theorem dX1_detail_31 : decode cX1_detail 31 = .ok (.iload_n 2, 1) := by decide +kernel
theorem dX1_detail_32 : decode cX1_detail 32 = .ok (.ifCond .lt 11, 3) := by decide +kernel
theorem dX1_detail_35 : decode cX1_detail 35 = .ok (.iload_n 2, 1) := by decide +kernel
theorem dX1_detail_36 : decode cX1_detail 36 = .ok (.aload_n 0, 1) := by decide +kernel
theorem dX1_detail_37 : decode cX1_detail 37 = .ok (.getfield 46, 3) := by decide +kernel
theorem dX1_detail_40 : decode cX1_detail 40 = .ok (.if_icmp .lt 6, 3) := by decide +kernel
theorem dX1_detail_43 : decode cX1_detail 43 = .ok (.bipush (-9), 2) := by decide +kernel
theorem dX1_detail_45 : decode cX1_detail 45 = .ok (.ireturn, 1) := by decide +kernel
theorem dX1_detail_46 : decode cX1_detail 46 = .ok (.iload_n 1, 1) := by decide +kernel
theorem dX1_detail_47 : decode cX1_detail 47 = .ok (.bipush 10, 2) := by decide +kernel
theorem dX1_detail_49 : decode cX1_detail 49 = .ok (.idiv, 1) := by decide +kernel
theorem dX1_detail_50 : decode cX1_detail 50 = .ok (.tableswitch 47 1 3 #[26, 33, 40], 26) := by decide +kernel
theorem dX1_detail_76 : decode cX1_detail 76 = .ok (.aload_n 0, 1) := by decide +kernel
theorem dX1_detail_77 : decode cX1_detail 77 = .ok (.getfield 36, 3) := by decide +kernel
theorem dX1_detail_80 : decode cX1_detail 80 = .ok (.iload_n 2, 1) := by decide +kernel
theorem dX1_detail_81 : decode cX1_detail 81 = .ok (.iaload, 1) := by decide +kernel
theorem dX1_detail_82 : decode cX1_detail 82 = .ok (.ireturn, 1) := by decide +kernel
theorem dX1_detail_83 : decode cX1_detail 83 = .ok (.aload_n 0, 1) := by decide +kernel
theorem dX1_detail_84 : decode cX1_detail 84 = .ok (.getfield 40, 3) := by decide +kernel
theorem dX1_detail_87 : decode cX1_detail 87 = .ok (.iload_n 2, 1) := by decide +kernel
theorem dX1_detail_88 : decode cX1_detail 88 = .ok (.iaload, 1) := by decide +kernel
theorem dX1_detail_89 : decode cX1_detail 89 = .ok (.ireturn, 1) := by decide +kernel
theorem dX1_detail_90 : decode cX1_detail 90 = .ok (.aload_n 0, 1) := by decide +kernel
theorem dX1_detail_91 : decode cX1_detail 91 = .ok (.getfield 43, 3) := by decide +kernel
theorem dX1_detail_94 : decode cX1_detail 94 = .ok (.iload_n 2, 1) := by decide +kernel
theorem dX1_detail_95 : decode cX1_detail 95 = .ok (.iaload, 1) := by decide +kernel
theorem dX1_detail_96 : decode cX1_detail 96 = .ok (.ireturn, 1) := by decide +kernel
theorem dX1_detail_97 : decode cX1_detail 97 = .ok (.bipush (-9), 2) := by decide +kernel
theorem dX1_detail_99 : decode cX1_detail 99 = .ok (.ireturn, 1) := by decide +kernel
theorem dX4_init_0 : decode cX4_init 0 = .ok (.aload_n 0, 1) := by decide +kernel
theorem dX4_init_1 : decode cX4_init 1 = .ok (.invokespecial 3, 3) := by decide +kernel
theorem dX4_init_4 : decode cX4_init 4 = .ok (.aload_n 0, 1) := by decide +kernel
theorem dX4_init_5 : decode cX4_init 5 = .ok (.bipush 60, 2) := by decide +kernel
theorem dX4_init_7 : decode cX4_init 7 = .ok (.newarray .int, 2) := by decide +kernel
theorem dX4_init_9 : decode cX4_init 9 = .ok (.putfield 9, 3) := by decide +kernel
theorem dX4_init_12 : decode cX4_init 12 = .ok (.aload_n 0, 1) := by decide +kernel
theorem dX4_init_13 : decode cX4_init 13 = .ok (.iconst 3, 1) := by decide +kernel
theorem dX4_init_14 : decode cX4_init 14 = .ok (.newarray .int, 2) := by decide +kernel
theorem dX4_init_16 : decode cX4_init 16 = .ok (.dup, 1) := by decide +kernel
theorem dX4_init_17 : decode cX4_init 17 = .ok (.iconst 0, 1) := by decide +kernel
theorem dX4_init_18 : decode cX4_init 18 = .ok (.iconst (-1), 1) := by decide +kernel
theorem dX4_init_19 : decode cX4_init 19 = .ok (.iastore, 1) := by decide +kernel
theorem dX4_init_20 : decode cX4_init 20 = .ok (.dup, 1) := by decide +kernel
theorem dX4_init_21 : decode cX4_init 21 = .ok (.iconst 1, 1) := by decide +kernel
theorem dX4_init_22 : decode cX4_init 22 = .ok (.iconst (-1), 1) := by decide +kernel
theorem dX4_init_23 : decode cX4_init 23 = .ok (.iastore, 1) := by decide +kernel
theorem dX4_init_24 : decode cX4_init 24 = .ok (.dup, 1) := by decide +kernel
theorem dX4_init_25 : decode cX4_init 25 = .ok (.iconst 2, 1) := by decide +kernel
theorem dX4_init_26 : decode cX4_init 26 = .ok (.iconst (-1), 1) := by decide +kernel
theorem dX4_init_27 : decode cX4_init 27 = .ok (.iastore, 1) := by decide +kernel
theorem dX4_init_28 : decode cX4_init 28 = .ok (.putfield 15, 3) := by decide +kernel
theorem dX4_init_31 : decode cX4_init 31 = .ok (.return_, 1) := by decide +kernel
theorem dX4_forget_0 : decode cX4_forget 0 = .ok (.iconst 0, 1) := by decide +kernel
theorem dX4_forget_1 : decode cX4_forget 1 = .ok (.istore_n 1, 1) := by decide +kernel
theorem dX4_forget_2 : decode cX4_forget 2 = .ok (.iload_n 1, 1) := by decide +kernel
theorem dX4_forget_3 : decode cX4_forget 3 = .ok (.bipush 60, 2) := by decide +kernel
theorem dX4_forget_5 : decode cX4_forget 5 = .ok (.if_icmp .ge 16, 3) := by decide +kernel
theorem dX4_forget_8 : decode cX4_forget 8 = .ok (.aload_n 0, 1) := by decide +kernel
theorem dX4_forget_9 : decode cX4_forget 9 = .ok (.getfield 9, 3) := by decide +kernel
theorem dX4_forget_12 : decode cX4_forget 12 = .ok (.iload_n 1, 1) := by decide +kernel
theorem dX4_forget_13 : decode cX4_forget 13 = .ok (.iconst 0, 1) := by decide +kernel
theorem dX4_forget_14 : decode cX4_forget 14 = .ok (.iastore, 1) := by decide +kernel
theorem dX4_forget_15 : decode cX4_forget 15 = .ok (.iinc 1 1, 3) := by decide +kernel
theorem dX4_forget_18 : decode cX4_forget 18 = .ok (.goto (-16), 3) := by decide +kernel
theorem dX4_forget_21 : decode cX4_forget 21 = .ok (.iconst 0, 1) := by decide +kernel
theorem dX4_forget_22 : decode cX4_forget 22 = .ok (.istore_n 1, 1) := by decide +kernel
theorem dX4_forget_23 : decode cX4_forget 23 = .ok (.iload_n 1, 1) := by decide +kernel
theorem dX4_forget_24 : decode cX4_forget 24 = .ok (.iconst 3, 1) := by decide +kernel
theorem dX4_forget_25 : decode cX4_forget 25 = .ok (.if_icmp .ge 16, 3) := by decide +kernel
theorem dX4_forget_28 : decode cX4_forget 28 = .ok (.aload_n 0, 1) := by decide +kernel
theorem dX4_forget_29 : decode cX4_forget 29 = .ok (.getfield 15, 3) := by decide +kernel
theorem dX4_forget_32 : decode cX4_forget 32 = .ok (.iload_n 1, 1) := by decide +kernel
theorem dX4_forget_33 : decode cX4_forget 33 = .ok (.iconst (-1), 1) := by decide +kernel
theorem dX4_forget_34 : decode cX4_forget 34 = .ok (.iastore, 1) := by decide +kernel
theorem dX4_forget_35 : decode cX4_forget 35 = .ok (.iinc 1 1, 3) := by decide +kernel
theorem dX4_forget_38 : decode cX4_forget 38 = .ok (.goto (-15), 3) := by decide +kernel
theorem dX4_forget_41 : decode cX4_forget 41 = .ok (.return_, 1) := by decide +kernel
theorem dX11_init_0 : decode cX11_init 0 = .ok (.aload_n 0, 1) := by decide +kernel
theorem dX11_init_1 : decode cX11_init 1 = .ok (.invokespecial 3, 3) := by decide +kernel
theorem dX11_init_4 : decode cX11_init 4 = .ok (.aload_n 0, 1) := by decide +kernel
theorem dX11_init_5 : decode cX11_init 5 = .ok (.new 9, 3) := by decide +kernel
theorem dX11_init_8 : decode cX11_init 8 = .ok (.dup, 1) := by decide +kernel
theorem dX11_init_9 : decode cX11_init 9 = .ok (.sipush 4000, 3) := by decide +kernel
theorem dX11_init_12 : decode cX11_init 12 = .ok (.invokespecial 11, 3) := by decide +kernel
theorem dX11_init_15 : decode cX11_init 15 = .ok (.putfield 14, 3) := by decide +kernel
theorem dX11_init_18 : decode cX11_init 18 = .ok (.aload_n 0, 1) := by decide +kernel
theorem dX11_init_19 : decode cX11_init 19 = .ok (.new 18, 3) := by decide +kernel
theorem dX11_init_22 : decode cX11_init 22 = .ok (.dup, 1) := by decide +kernel
theorem dX11_init_23 : decode cX11_init 23 = .ok (.invokespecial 20, 3) := by decide +kernel
theorem dX11_init_26 : decode cX11_init 26 = .ok (.putfield 21, 3) := by decide +kernel
theorem dX11_init_29 : decode cX11_init 29 = .ok (.aload_n 0, 1) := by decide +kernel
theorem dX11_init_30 : decode cX11_init 30 = .ok (.new 25, 3) := by decide +kernel
theorem dX11_init_33 : decode cX11_init 33 = .ok (.dup, 1) := by decide +kernel
theorem dX11_init_34 : decode cX11_init 34 = .ok (.invokespecial 27, 3) := by decide +kernel
theorem dX11_init_37 : decode cX11_init 37 = .ok (.putfield 28, 3) := by decide +kernel
theorem dX11_init_40 : decode cX11_init 40 = .ok (.aload_n 0, 1) := by decide +kernel
theorem dX11_init_41 : decode cX11_init 41 = .ok (.new 32, 3) := by decide +kernel
theorem dX11_init_44 : decode cX11_init 44 = .ok (.dup, 1) := by decide +kernel
theorem dX11_init_45 : decode cX11_init 45 = .ok (.invokespecial 34, 3) := by decide +kernel
theorem dX11_init_48 : decode cX11_init 48 = .ok (.putfield 35, 3) := by decide +kernel
theorem dX11_init_51 : decode cX11_init 51 = .ok (.aload_n 0, 1) := by decide +kernel
theorem dX11_init_52 : decode cX11_init 52 = .ok (.new 39, 3) := by decide +kernel
theorem dX11_init_55 : decode cX11_init 55 = .ok (.dup, 1) := by decide +kernel
theorem dX11_init_56 : decode cX11_init 56 = .ok (.invokespecial 41, 3) := by decide +kernel
theorem dX11_init_59 : decode cX11_init 59 = .ok (.putfield 42, 3) := by decide +kernel
theorem dX11_init_62 : decode cX11_init 62 = .ok (.aload_n 0, 1) := by decide +kernel
theorem dX11_init_63 : decode cX11_init 63 = .ok (.bipush 8, 2) := by decide +kernel
theorem dX11_init_65 : decode cX11_init 65 = .ok (.anewarray 46, 3) := by decide +kernel
theorem dX11_init_68 : decode cX11_init 68 = .ok (.putfield 48, 3) := by decide +kernel
theorem dX11_init_71 : decode cX11_init 71 = .ok (.iconst 0, 1) := by decide +kernel
theorem dX11_init_72 : decode cX11_init 72 = .ok (.istore_n 1, 1) := by decide +kernel
theorem dX11_init_73 : decode cX11_init 73 = .ok (.iload_n 1, 1) := by decide +kernel
theorem dX11_init_74 : decode cX11_init 74 = .ok (.bipush 8, 2) := by decide +kernel
theorem dX11_init_76 : decode cX11_init 76 = .ok (.if_icmp .ge 22, 3) := by decide +kernel
theorem dX11_init_79 : decode cX11_init 79 = .ok (.aload_n 0, 1) := by decide +kernel
theorem dX11_init_80 : decode cX11_init 80 = .ok (.getfield 48, 3) := by decide +kernel
theorem dX11_init_83 : decode cX11_init 83 = .ok (.iload_n 1, 1) := by decide +kernel
theorem dX11_init_84 : decode cX11_init 84 = .ok (.new 46, 3) := by decide +kernel
theorem dX11_init_87 : decode cX11_init 87 = .ok (.dup, 1) := by decide +kernel
theorem dX11_init_88 : decode cX11_init 88 = .ok (.invokespecial 52, 3) := by decide +kernel
theorem dX11_init_91 : decode cX11_init 91 = .ok (.aastore, 1) := by decide +kernel
theorem dX11_init_92 : decode cX11_init 92 = .ok (.iinc 1 1, 3) := by decide +kernel
theorem dX11_init_95 : decode cX11_init 95 = .ok (.goto (-22), 3) := by decide +kernel
theorem dX11_init_98 : decode cX11_init 98 = .ok (.aload_n 0, 1) := by decide +kernel
theorem dX11_init_99 : decode cX11_init 99 = .ok (.bipush 60, 2) := by decide +kernel
theorem dX11_init_101 : decode cX11_init 101 = .ok (.newarray .int, 2) := by decide +kernel
theorem dX11_init_103 : decode cX11_init 103 = .ok (.putfield 53, 3) := by decide +kernel
theorem dX11_init_106 : decode cX11_init 106 = .ok (.aload_n 0, 1) := by decide +kernel
theorem dX11_init_107 : decode cX11_init 107 = .ok (.iconst 0, 1) := by decide +kernel
theorem dX11_init_108 : decode cX11_init 108 = .ok (.putfield 57, 3) := by decide +kernel
theorem dX11_init_111 : decode cX11_init 111 = .ok (.aload_n 0, 1) := by decide +kernel
theorem dX11_init_112 : decode cX11_init 112 = .ok (.new 61, 3) := by decide +kernel
theorem dX11_init_115 : decode cX11_init 115 = .ok (.dup, 1) := by decide +kernel
theorem dX11_init_116 : decode cX11_init 116 = .ok (.invokespecial 63, 3) := by decide +kernel
theorem dX11_init_119 : decode cX11_init 119 = .ok (.putfield 64, 3) := by decide +kernel
theorem dX11_init_122 : decode cX11_init 122 = .ok (.aload_n 0, 1) := by decide +kernel
theorem dX11_init_123 : decode cX11_init 123 = .ok (.new 61, 3) := by decide +kernel
theorem dX11_init_126 : decode cX11_init 126 = .ok (.dup, 1) := by decide +kernel
theorem dX11_init_127 : decode cX11_init 127 = .ok (.invokespecial 63, 3) := by decide +kernel
theorem dX11_init_130 : decode cX11_init 130 = .ok (.putfield 68, 3) := by decide +kernel
theorem dX11_init_133 : decode cX11_init 133 = .ok (.return_, 1) := by decide +kernel
theorem dX11_feed_0 : decode cX11_feed 0 = .ok (.aload_n 0, 1) := by decide +kernel
theorem dX11_feed_1 : decode cX11_feed 1 = .ok (.getfield 14, 3) := by decide +kernel
theorem dX11_feed_4 : decode cX11_feed 4 = .ok (.getfield 71, 3) := by decide +kernel
theorem dX11_feed_7 : decode cX11_feed 7 = .ok (.bipush 20, 2) := by decide +kernel
theorem dX11_feed_9 : decode cX11_feed 9 = .ok (.iadd, 1) := by decide +kernel
theorem dX11_feed_10 : decode cX11_feed 10 = .ok (.sipush 4000, 3) := by decide +kernel
theorem dX11_feed_13 : decode cX11_feed 13 = .ok (.if_icmp .le 6, 3) := by decide +kernel
theorem dX11_feed_16 : decode cX11_feed 16 = .ok (.bipush (-3), 2) := by decide +kernel
theorem dX11_feed_18 : decode cX11_feed 18 = .ok (.ireturn, 1) := by decide +kernel
theorem dX11_feed_19 : decode cX11_feed 19 = .ok (.aload_n 0, 1) := by decide +kernel
theorem dX11_feed_20 : decode cX11_feed 20 = .ok (.getfield 14, 3) := by decide +kernel
theorem dX11_feed_23 : decode cX11_feed 23 = .ok (.iload_n 1, 1) := by decide +kernel
theorem dX11_feed_24 : decode cX11_feed 24 = .ok (.invokevirtual 74, 3) := by decide +kernel
theorem dX11_feed_27 : decode cX11_feed 27 = .ok (.aload_n 0, 1) := by decide +kernel
theorem dX11_feed_28 : decode cX11_feed 28 = .ok (.getfield 14, 3) := by decide +kernel
theorem dX11_feed_31 : decode cX11_feed 31 = .ok (.iload_n 2, 1) := by decide +kernel
theorem dX11_feed_32 : decode cX11_feed 32 = .ok (.invokevirtual 74, 3) := by decide +kernel
theorem dX11_feed_35 : decode cX11_feed 35 = .ok (.aload_n 0, 1) := by decide +kernel
theorem dX11_feed_36 : decode cX11_feed 36 = .ok (.getfield 14, 3) := by decide +kernel
theorem dX11_feed_39 : decode cX11_feed 39 = .ok (.iload_n 3, 1) := by decide +kernel
theorem dX11_feed_40 : decode cX11_feed 40 = .ok (.invokevirtual 74, 3) := by decide +kernel
theorem dX11_feed_43 : decode cX11_feed 43 = .ok (.aload_n 0, 1) := by decide +kernel
theorem dX11_feed_44 : decode cX11_feed 44 = .ok (.getfield 14, 3) := by decide +kernel
theorem dX11_feed_47 : decode cX11_feed 47 = .ok (.iload 4, 2) := by decide +kernel
theorem dX11_feed_49 : decode cX11_feed 49 = .ok (.invokevirtual 74, 3) := by decide +kernel
theorem dX11_feed_52 : decode cX11_feed 52 = .ok (.aload_n 0, 1) := by decide +kernel
theorem dX11_feed_53 : decode cX11_feed 53 = .ok (.getfield 14, 3) := by decide +kernel
theorem dX11_feed_56 : decode cX11_feed 56 = .ok (.iload 5, 2) := by decide +kernel
theorem dX11_feed_58 : decode cX11_feed 58 = .ok (.invokevirtual 74, 3) := by decide +kernel
theorem dX11_feed_61 : decode cX11_feed 61 = .ok (.aload_n 0, 1) := by decide +kernel
theorem dX11_feed_62 : decode cX11_feed 62 = .ok (.getfield 14, 3) := by decide +kernel
theorem dX11_feed_65 : decode cX11_feed 65 = .ok (.getfield 71, 3) := by decide +kernel
theorem dX11_feed_68 : decode cX11_feed 68 = .ok (.ireturn, 1) := by decide +kernel
theorem dX11_end_0 : decode cX11_end 0 = .ok (.iload_n 1, 1) := by decide +kernel
theorem dX11_end_1 : decode cX11_end 1 = .ok (.ifCond .lt 14, 3) := by decide +kernel
theorem dX11_end_4 : decode cX11_end 4 = .ok (.iload_n 1, 1) := by decide +kernel
theorem dX11_end_5 : decode cX11_end 5 = .ok (.aload_n 0, 1) := by decide +kernel
theorem dX11_end_6 : decode cX11_end 6 = .ok (.getfield 14, 3) := by decide +kernel
theorem dX11_end_9 : decode cX11_end 9 = .ok (.getfield 71, 3) := by decide +kernel
theorem dX11_end_12 : decode cX11_end 12 = .ok (.if_icmp .le 5, 3) := by decide +kernel
theorem dX11_end_15 : decode cX11_end 15 = .ok (.iconst (-1), 1) := by decide +kernel
theorem dX11_end_16 : decode cX11_end 16 = .ok (.ireturn, 1) := by decide +kernel
theorem dX11_end_17 : decode cX11_end 17 = .ok (.aload_n 0, 1) := by decide +kernel
theorem dX11_end_18 : decode cX11_end 18 = .ok (.getfield 14, 3) := by decide +kernel
theorem dX11_end_21 : decode cX11_end 21 = .ok (.iload_n 1, 1) := by decide +kernel
theorem dX11_end_22 : decode cX11_end 22 = .ok (.putfield 71, 3) := by decide +kernel
theorem dX11_end_25 : decode cX11_end 25 = .ok (.iload_n 1, 1) := by decide +kernel
theorem dX11_end_26 : decode cX11_end 26 = .ok (.ireturn, 1) := by decide +kernel
theorem dX11_book_0 : decode cX11_book 0 = .ok (.aload_n 0, 1) := by decide +kernel
theorem dX11_book_1 : decode cX11_book 1 = .ok (.getfield 21, 3) := by decide +kernel
theorem dX11_book_4 : decode cX11_book 4 = .ok (.aload_n 0, 1) := by decide +kernel
theorem dX11_book_5 : decode cX11_book 5 = .ok (.getfield 14, 3) := by decide +kernel
theorem dX11_book_8 : decode cX11_book 8 = .ok (.aload_n 0, 1) := by decide +kernel
theorem dX11_book_9 : decode cX11_book 9 = .ok (.getfield 68, 3) := by decide +kernel
theorem dX11_book_12 : decode cX11_book 12 = .ok (.invokevirtual 77, 3) := by decide +kernel
theorem dX11_book_15 : decode cX11_book 15 = .ok (.istore_n 1, 1) := by decide +kernel
theorem dX11_book_16 : decode cX11_book 16 = .ok (.aload_n 0, 1) := by decide +kernel
theorem dX11_book_17 : decode cX11_book 17 = .ok (.getfield 14, 3) := by decide +kernel
theorem dX11_book_20 : decode cX11_book 20 = .ok (.invokevirtual 81, 3) := by decide +kernel
theorem dX11_book_23 : decode cX11_book 23 = .ok (.iload_n 1, 1) := by decide +kernel
theorem dX11_book_24 : decode cX11_book 24 = .ok (.ifCond .ne 5, 3) := by decide +kernel
theorem dX11_book_27 : decode cX11_book 27 = .ok (.iconst (-1), 1) := by decide +kernel
theorem dX11_book_28 : decode cX11_book 28 = .ok (.ireturn, 1) := by decide +kernel
theorem dX11_book_29 : decode cX11_book 29 = .ok (.aload_n 0, 1) := by decide +kernel
theorem dX11_book_30 : decode cX11_book 30 = .ok (.getfield 64, 3) := by decide +kernel
theorem dX11_book_33 : decode cX11_book 33 = .ok (.astore_n 2, 1) := by decide +kernel
theorem dX11_book_34 : decode cX11_book 34 = .ok (.aload_n 0, 1) := by decide +kernel
theorem dX11_book_35 : decode cX11_book 35 = .ok (.aload_n 0, 1) := by decide +kernel
theorem dX11_book_36 : decode cX11_book 36 = .ok (.getfield 68, 3) := by decide +kernel
theorem dX11_book_39 : decode cX11_book 39 = .ok (.putfield 64, 3) := by decide +kernel
theorem dX11_book_42 : decode cX11_book 42 = .ok (.aload_n 0, 1) := by decide +kernel
theorem dX11_book_43 : decode cX11_book 43 = .ok (.aload_n 2, 1) := by decide +kernel
theorem dX11_book_44 : decode cX11_book 44 = .ok (.putfield 68, 3) := by decide +kernel
theorem dX11_book_47 : decode cX11_book 47 = .ok (.aload_n 0, 1) := by decide +kernel
theorem dX11_book_48 : decode cX11_book 48 = .ok (.invokevirtual 84, 3) := by decide +kernel
theorem dX11_book_51 : decode cX11_book 51 = .ok (.aload_n 0, 1) := by decide +kernel
theorem dX11_book_52 : decode cX11_book 52 = .ok (.getfield 64, 3) := by decide +kernel
theorem dX11_book_55 : decode cX11_book 55 = .ok (.getfield 87, 3) := by decide +kernel
theorem dX11_book_58 : decode cX11_book 58 = .ok (.ireturn, 1) := by decide +kernel
theorem dX11_fault_0 : decode cX11_fault 0 = .ok (.iload_n 1, 1) := by decide +kernel
theorem dX11_fault_1 : decode cX11_fault 1 = .ok (.lookupswitch 43 #[(0, 27), (1, 35)], 27) := by decide +kernel
theorem dX11_fault_28 : decode cX11_fault 28 = .ok (.aload_n 0, 1) := by decide +kernel
theorem dX11_fault_29 : decode cX11_fault 29 = .ok (.getfield 21, 3) := by decide +kernel
theorem dX11_fault_32 : decode cX11_fault 32 = .ok (.getfield 90, 3) := by decide +kernel
theorem dX11_fault_35 : decode cX11_fault 35 = .ok (.ireturn, 1) := by decide +kernel
theorem dX11_fault_36 : decode cX11_fault 36 = .ok (.aload_n 0, 1) := by decide +kernel
theorem dX11_fault_37 : decode cX11_fault 37 = .ok (.getfield 21, 3) := by decide +kernel
theorem dX11_fault_40 : decode cX11_fault 40 = .ok (.getfield 93, 3) := by decide +kernel
theorem dX11_fault_43 : decode cX11_fault 43 = .ok (.ireturn, 1) := by decide +kernel
theorem dX11_fault_44 : decode cX11_fault 44 = .ok (.iconst (-1), 1) := by decide +kernel
theorem dX11_fault_45 : decode cX11_fault 45 = .ok (.ireturn, 1) := by decide +kernel
theorem dX11_verb_0 : decode cX11_verb 0 = .ok (.iload_n 1, 1) := by decide +kernel
theorem dX11_verb_1 : decode cX11_verb 1 = .ok (.ifCond .lt 14, 3) := by decide +kernel
theorem dX11_verb_4 : decode cX11_verb 4 = .ok (.iload_n 1, 1) := by decide +kernel
theorem dX11_verb_5 : decode cX11_verb 5 = .ok (.aload_n 0, 1) := by decide +kernel
theorem dX11_verb_6 : decode cX11_verb 6 = .ok (.getfield 64, 3) := by decide +kernel
theorem dX11_verb_9 : decode cX11_verb 9 = .ok (.getfield 96, 3) := by decide +kernel
theorem dX11_verb_12 : decode cX11_verb 12 = .ok (.if_icmp .lt 5, 3) := by decide +kernel
theorem dX11_verb_15 : decode cX11_verb 15 = .ok (.iconst (-1), 1) := by decide +kernel
theorem dX11_verb_16 : decode cX11_verb 16 = .ok (.ireturn, 1) := by decide +kernel
theorem dX11_verb_17 : decode cX11_verb 17 = .ok (.iload_n 2, 1) := by decide +kernel
theorem dX11_verb_18 : decode cX11_verb 18 = .ok (.lookupswitch 49 #[(0, 26), (1, 36)], 26) := by decide +kernel
theorem dX11_verb_44 : decode cX11_verb 44 = .ok (.aload_n 0, 1) := by decide +kernel
theorem dX11_verb_45 : decode cX11_verb 45 = .ok (.getfield 64, 3) := by decide +kernel
theorem dX11_verb_48 : decode cX11_verb 48 = .ok (.getfield 99, 3) := by decide +kernel
theorem dX11_verb_51 : decode cX11_verb 51 = .ok (.iload_n 1, 1) := by decide +kernel
theorem dX11_verb_52 : decode cX11_verb 52 = .ok (.iaload, 1) := by decide +kernel
theorem dX11_verb_53 : decode cX11_verb 53 = .ok (.ireturn, 1) := by decide +kernel
theorem dX11_verb_54 : decode cX11_verb 54 = .ok (.aload_n 0, 1) := by decide +kernel
theorem dX11_verb_55 : decode cX11_verb 55 = .ok (.getfield 64, 3) := by decide +kernel
theorem dX11_verb_58 : decode cX11_verb 58 = .ok (.getfield 102, 3) := by decide +kernel
theorem dX11_verb_61 : decode cX11_verb 61 = .ok (.iload_n 1, 1) := by decide +kernel
theorem dX11_verb_62 : decode cX11_verb 62 = .ok (.aaload, 1) := by decide +kernel
theorem dX11_verb_63 : decode cX11_verb 63 = .ok (.getfield 71, 3) := by decide +kernel
theorem dX11_verb_66 : decode cX11_verb 66 = .ok (.ireturn, 1) := by decide +kernel
theorem dX11_verb_67 : decode cX11_verb 67 = .ok (.iload_n 2, 1) := by decide +kernel
theorem dX11_verb_68 : decode cX11_verb 68 = .ok (.bipush 10, 2) := by decide +kernel
theorem dX11_verb_70 : decode cX11_verb 70 = .ok (.if_icmp .ge 7, 3) := by decide +kernel
theorem dX11_verb_73 : decode cX11_verb 73 = .ok (.iconst (-1), 1) := by decide +kernel
theorem dX11_verb_74 : decode cX11_verb 74 = .ok (.goto 19, 3) := by decide +kernel
theorem dX11_verb_77 : decode cX11_verb 77 = .ok (.aload_n 0, 1) := by decide +kernel
theorem dX11_verb_78 : decode cX11_verb 78 = .ok (.getfield 64, 3) := by decide +kernel
theorem dX11_verb_81 : decode cX11_verb 81 = .ok (.getfield 102, 3) := by decide +kernel
theorem dX11_verb_84 : decode cX11_verb 84 = .ok (.iload_n 1, 1) := by decide +kernel
theorem dX11_verb_85 : decode cX11_verb 85 = .ok (.aaload, 1) := by decide +kernel
theorem dX11_verb_86 : decode cX11_verb 86 = .ok (.iload_n 2, 1) := by decide +kernel
theorem dX11_verb_87 : decode cX11_verb 87 = .ok (.bipush 10, 2) := by decide +kernel
theorem dX11_verb_89 : decode cX11_verb 89 = .ok (.isub, 1) := by decide +kernel
theorem dX11_verb_90 : decode cX11_verb 90 = .ok (.invokevirtual 106, 3) := by decide +kernel
theorem dX11_verb_93 : decode cX11_verb 93 = .ok (.ireturn, 1) := by decide +kernel
theorem dX11_line_0 : decode cX11_line 0 = .ok (.iload_n 1, 1) := by decide +kernel
theorem dX11_line_1 : decode cX11_line 1 = .ok (.ifCond .lt 14, 3) := by decide +kernel
theorem dX11_line_4 : decode cX11_line 4 = .ok (.iload_n 1, 1) := by decide +kernel
