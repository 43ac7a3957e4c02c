theorem dX7_takeCompound_98 : decode cX7_takeCompound 98 = .ok (.goto 4, 3) := by decide +kernel
theorem dX7_takeCompound_101 : decode cX7_takeCompound 101 = .ok (.iconst (-1), 1) := by decide +kernel
theorem dX7_takeCompound_102 : decode cX7_takeCompound 102 = .ok (.putfield 164, 3) := by decide +kernel
theorem dX7_takeCompound_105 : decode cX7_takeCompound 105 = .ok (.aload_n 1, 1) := by decide +kernel
theorem dX7_takeCompound_106 : decode cX7_takeCompound 106 = .ok (.aload_n 1, 1) := by decide +kernel
theorem dX7_takeCompound_107 : decode cX7_takeCompound 107 = .ok (.getfield 164, 3) := by decide +kernel
theorem dX7_takeCompound_110 : decode cX7_takeCompound 110 = .ok (.iconst (-1), 1) := by decide +kernel
theorem dX7_takeCompound_111 : decode cX7_takeCompound 111 = .ok (.if_icmp .eq 20, 3) := by decide +kernel
theorem dX7_takeCompound_114 : decode cX7_takeCompound 114 = .ok (.aload_n 0, 1) := by decide +kernel
theorem dX7_takeCompound_115 : decode cX7_takeCompound 115 = .ok (.bipush 13, 2) := by decide +kernel
theorem dX7_takeCompound_117 : decode cX7_takeCompound 117 = .ok (.invokevirtual 58, 3) := by decide +kernel
theorem dX7_takeCompound_120 : decode cX7_takeCompound 120 = .ok (.ifCond .eq 11, 3) := by decide +kernel
theorem dX7_takeCompound_123 : decode cX7_takeCompound 123 = .ok (.aload_n 0, 1) := by decide +kernel
theorem dX7_takeCompound_124 : decode cX7_takeCompound 124 = .ok (.iconst 5, 1) := by decide +kernel
theorem dX7_takeCompound_125 : decode cX7_takeCompound 125 = .ok (.invokevirtual 141, 3) := by decide +kernel
theorem dX7_takeCompound_128 : decode cX7_takeCompound 128 = .ok (.goto 4, 3) := by decide +kernel
theorem dX7_takeCompound_131 : decode cX7_takeCompound 131 = .ok (.iconst (-1), 1) := by decide +kernel
theorem dX7_takeCompound_132 : decode cX7_takeCompound 132 = .ok (.putfield 167, 3) := by decide +kernel
theorem dX7_takeCompound_135 : decode cX7_takeCompound 135 = .ok (.aload_n 1, 1) := by decide +kernel
theorem dX7_takeCompound_136 : decode cX7_takeCompound 136 = .ok (.getfield 167, 3) := by decide +kernel
theorem dX7_takeCompound_139 : decode cX7_takeCompound 139 = .ok (.iconst (-1), 1) := by decide +kernel
theorem dX7_takeCompound_140 : decode cX7_takeCompound 140 = .ok (.if_icmp .eq 7, 3) := by decide +kernel
theorem dX7_takeCompound_143 : decode cX7_takeCompound 143 = .ok (.iconst 1, 1) := by decide +kernel
theorem dX7_takeCompound_144 : decode cX7_takeCompound 144 = .ok (.goto 4, 3) := by decide +kernel
theorem dX7_takeCompound_147 : decode cX7_takeCompound 147 = .ok (.iconst 0, 1) := by decide +kernel
theorem dX7_takeCompound_148 : decode cX7_takeCompound 148 = .ok (.ireturn, 1) := by decide +kernel
theorem dX7_takeExcepted_0 : decode cX7_takeExcepted 0 = .ok (.aload_n 0, 1) := by decide +kernel
theorem dX7_takeExcepted_1 : decode cX7_takeExcepted 1 = .ok (.getfield 45, 3) := by decide +kernel
theorem dX7_takeExcepted_4 : decode cX7_takeExcepted 4 = .ok (.bipush 19, 2) := by decide +kernel
theorem dX7_takeExcepted_6 : decode cX7_takeExcepted 6 = .ok (.if_icmp .ne 21, 3) := by decide +kernel
theorem dX7_takeExcepted_9 : decode cX7_takeExcepted 9 = .ok (.aload_n 0, 1) := by decide +kernel
theorem dX7_takeExcepted_10 : decode cX7_takeExcepted 10 = .ok (.getfield 30, 3) := by decide +kernel
theorem dX7_takeExcepted_13 : decode cX7_takeExcepted 13 = .ok (.aload_n 1, 1) := by decide +kernel
theorem dX7_takeExcepted_14 : decode cX7_takeExcepted 14 = .ok (.invokevirtual 170, 3) := by decide +kernel
theorem dX7_takeExcepted_17 : decode cX7_takeExcepted 17 = .ok (.iconst 2, 1) := by decide +kernel
theorem dX7_takeExcepted_18 : decode cX7_takeExcepted 18 = .ok (.if_icmp .lt 9, 3) := by decide +kernel
theorem dX7_takeExcepted_21 : decode cX7_takeExcepted 21 = .ok (.aload_n 0, 1) := by decide +kernel
theorem dX7_takeExcepted_22 : decode cX7_takeExcepted 22 = .ok (.iconst 4, 1) := by decide +kernel
theorem dX7_takeExcepted_23 : decode cX7_takeExcepted 23 = .ok (.invokevirtual 65, 3) := by decide +kernel
theorem dX7_takeExcepted_26 : decode cX7_takeExcepted 26 = .ok (.ireturn, 1) := by decide +kernel
theorem dX7_takeExcepted_27 : decode cX7_takeExcepted 27 = .ok (.aload_n 0, 1) := by decide +kernel
theorem dX7_takeExcepted_28 : decode cX7_takeExcepted 28 = .ok (.invokevirtual 151, 3) := by decide +kernel
theorem dX7_takeExcepted_31 : decode cX7_takeExcepted 31 = .ok (.ifCond .eq 18, 3) := by decide +kernel
theorem dX7_takeExcepted_34 : decode cX7_takeExcepted 34 = .ok (.aload_n 0, 1) := by decide +kernel
theorem dX7_takeExcepted_35 : decode cX7_takeExcepted 35 = .ok (.aload_n 1, 1) := by decide +kernel
theorem dX7_takeExcepted_36 : decode cX7_takeExcepted 36 = .ok (.getfield 119, 3) := by decide +kernel
theorem dX7_takeExcepted_39 : decode cX7_takeExcepted 39 = .ok (.invokevirtual 122, 3) := by decide +kernel
theorem dX7_takeExcepted_42 : decode cX7_takeExcepted 42 = .ok (.ifCond .eq 7, 3) := by decide +kernel
theorem dX7_takeExcepted_45 : decode cX7_takeExcepted 45 = .ok (.iconst 1, 1) := by decide +kernel
theorem dX7_takeExcepted_46 : decode cX7_takeExcepted 46 = .ok (.goto 4, 3) := by decide +kernel
theorem dX7_takeExcepted_49 : decode cX7_takeExcepted 49 = .ok (.iconst 0, 1) := by decide +kernel
theorem dX7_takeExcepted_50 : decode cX7_takeExcepted 50 = .ok (.ireturn, 1) := by decide +kernel
theorem dX7_isNotEmpty_0 : decode cX7_isNotEmpty 0 = .ok (.aload_n 0, 1) := by decide +kernel
theorem dX7_isNotEmpty_1 : decode cX7_isNotEmpty 1 = .ok (.getfield 45, 3) := by decide +kernel
theorem dX7_isNotEmpty_4 : decode cX7_isNotEmpty 4 = .ok (.bipush 19, 2) := by decide +kernel
theorem dX7_isNotEmpty_6 : decode cX7_isNotEmpty 6 = .ok (.if_icmp .ne 24, 3) := by decide +kernel
theorem dX7_isNotEmpty_9 : decode cX7_isNotEmpty 9 = .ok (.aload_n 0, 1) := by decide +kernel
theorem dX7_isNotEmpty_10 : decode cX7_isNotEmpty 10 = .ok (.getfield 39, 3) := by decide +kernel
theorem dX7_isNotEmpty_13 : decode cX7_isNotEmpty 13 = .ok (.aload_n 0, 1) := by decide +kernel
theorem dX7_isNotEmpty_14 : decode cX7_isNotEmpty 14 = .ok (.getfield 174, 3) := by decide +kernel
theorem dX7_isNotEmpty_17 : decode cX7_isNotEmpty 17 = .ok (.isub, 1) := by decide +kernel
theorem dX7_isNotEmpty_18 : decode cX7_isNotEmpty 18 = .ok (.iconst 2, 1) := by decide +kernel
theorem dX7_isNotEmpty_19 : decode cX7_isNotEmpty 19 = .ok (.if_icmp .gt 11, 3) := by decide +kernel
theorem dX7_isNotEmpty_22 : decode cX7_isNotEmpty 22 = .ok (.aload_n 0, 1) := by decide +kernel
theorem dX7_isNotEmpty_23 : decode cX7_isNotEmpty 23 = .ok (.iconst 5, 1) := by decide +kernel
theorem dX7_isNotEmpty_24 : decode cX7_isNotEmpty 24 = .ok (.invokevirtual 65, 3) := by decide +kernel
theorem dX7_isNotEmpty_27 : decode cX7_isNotEmpty 27 = .ok (.ifCond .eq 7, 3) := by decide +kernel
theorem dX7_isNotEmpty_30 : decode cX7_isNotEmpty 30 = .ok (.iconst 1, 1) := by decide +kernel
theorem dX7_isNotEmpty_31 : decode cX7_isNotEmpty 31 = .ok (.goto 4, 3) := by decide +kernel
theorem dX7_isNotEmpty_34 : decode cX7_isNotEmpty 34 = .ok (.iconst 0, 1) := by decide +kernel
theorem dX7_isNotEmpty_35 : decode cX7_isNotEmpty 35 = .ok (.ireturn, 1) := by decide +kernel
theorem dX7_takeLetters_0 : decode cX7_takeLetters 0 = .ok (.aload_n 0, 1) := by decide +kernel
theorem dX7_takeLetters_1 : decode cX7_takeLetters 1 = .ok (.getfield 45, 3) := by decide +kernel
theorem dX7_takeLetters_4 : decode cX7_takeLetters 4 = .ok (.bipush 19, 2) := by decide +kernel
theorem dX7_takeLetters_6 : decode cX7_takeLetters 6 = .ok (.if_icmp .eq 9, 3) := by decide +kernel
theorem dX7_takeLetters_9 : decode cX7_takeLetters 9 = .ok (.aload_n 0, 1) := by decide +kernel
theorem dX7_takeLetters_10 : decode cX7_takeLetters 10 = .ok (.iconst 1, 1) := by decide +kernel
theorem dX7_takeLetters_11 : decode cX7_takeLetters 11 = .ok (.invokevirtual 65, 3) := by decide +kernel
theorem dX7_takeLetters_14 : decode cX7_takeLetters 14 = .ok (.ireturn, 1) := by decide +kernel
theorem dX7_takeLetters_15 : decode cX7_takeLetters 15 = .ok (.aload_n 1, 1) := by decide +kernel
theorem dX7_takeLetters_16 : decode cX7_takeLetters 16 = .ok (.invokevirtual 177, 3) := by decide +kernel
theorem dX7_takeLetters_19 : decode cX7_takeLetters 19 = .ok (.aload_n 1, 1) := by decide +kernel
theorem dX7_takeLetters_20 : decode cX7_takeLetters 20 = .ok (.aload_n 0, 1) := by decide +kernel
theorem dX7_takeLetters_21 : decode cX7_takeLetters 21 = .ok (.getfield 27, 3) := by decide +kernel
theorem dX7_takeLetters_24 : decode cX7_takeLetters 24 = .ok (.aload_n 0, 1) := by decide +kernel
theorem dX7_takeLetters_25 : decode cX7_takeLetters 25 = .ok (.getfield 174, 3) := by decide +kernel
theorem dX7_takeLetters_28 : decode cX7_takeLetters 28 = .ok (.iconst 1, 1) := by decide +kernel
theorem dX7_takeLetters_29 : decode cX7_takeLetters 29 = .ok (.iadd, 1) := by decide +kernel
theorem dX7_takeLetters_30 : decode cX7_takeLetters 30 = .ok (.aload_n 0, 1) := by decide +kernel
theorem dX7_takeLetters_31 : decode cX7_takeLetters 31 = .ok (.getfield 39, 3) := by decide +kernel
theorem dX7_takeLetters_34 : decode cX7_takeLetters 34 = .ok (.iconst 1, 1) := by decide +kernel
theorem dX7_takeLetters_35 : decode cX7_takeLetters 35 = .ok (.isub, 1) := by decide +kernel
theorem dX7_takeLetters_36 : decode cX7_takeLetters 36 = .ok (.invokevirtual 178, 3) := by decide +kernel
theorem dX7_takeLetters_39 : decode cX7_takeLetters 39 = .ok (.pop, 1) := by decide +kernel
theorem dX7_takeLetters_40 : decode cX7_takeLetters 40 = .ok (.aload_n 0, 1) := by decide +kernel
theorem dX7_takeLetters_41 : decode cX7_takeLetters 41 = .ok (.invokevirtual 42, 3) := by decide +kernel
theorem dX7_takeLetters_44 : decode cX7_takeLetters 44 = .ok (.iconst 1, 1) := by decide +kernel
theorem dX7_takeLetters_45 : decode cX7_takeLetters 45 = .ok (.ireturn, 1) := by decide +kernel
theorem dX7_takeNumber_0 : decode cX7_takeNumber 0 = .ok (.aload_n 0, 1) := by decide +kernel
theorem dX7_takeNumber_1 : decode cX7_takeNumber 1 = .ok (.getfield 27, 3) := by decide +kernel
theorem dX7_takeNumber_4 : decode cX7_takeNumber 4 = .ok (.aload_n 0, 1) := by decide +kernel
theorem dX7_takeNumber_5 : decode cX7_takeNumber 5 = .ok (.getfield 174, 3) := by decide +kernel
theorem dX7_takeNumber_8 : decode cX7_takeNumber 8 = .ok (.invokevirtual 182, 3) := by decide +kernel
theorem dX7_takeNumber_11 : decode cX7_takeNumber 11 = .ok (.bipush 48, 2) := by decide +kernel
theorem dX7_takeNumber_13 : decode cX7_takeNumber 13 = .ok (.isub, 1) := by decide +kernel
theorem dX7_takeNumber_14 : decode cX7_takeNumber 14 = .ok (.istore_n 2, 1) := by decide +kernel
theorem dX7_takeNumber_15 : decode cX7_takeNumber 15 = .ok (.aload_n 0, 1) := by decide +kernel
theorem dX7_takeNumber_16 : decode cX7_takeNumber 16 = .ok (.getfield 45, 3) := by decide +kernel
theorem dX7_takeNumber_19 : decode cX7_takeNumber 19 = .ok (.bipush 18, 2) := by decide +kernel
theorem dX7_takeNumber_21 : decode cX7_takeNumber 21 = .ok (.if_icmp .ne 8, 3) := by decide +kernel
theorem dX7_takeNumber_24 : decode cX7_takeNumber 24 = .ok (.iload_n 2, 1) := by decide +kernel
theorem dX7_takeNumber_25 : decode cX7_takeNumber 25 = .ok (.iload_n 1, 1) := by decide +kernel
theorem dX7_takeNumber_26 : decode cX7_takeNumber 26 = .ok (.if_icmp .lt 24, 3) := by decide +kernel
theorem dX7_takeNumber_29 : decode cX7_takeNumber 29 = .ok (.aload_n 0, 1) := by decide +kernel
theorem dX7_takeNumber_30 : decode cX7_takeNumber 30 = .ok (.aload_n 0, 1) := by decide +kernel
theorem dX7_takeNumber_31 : decode cX7_takeNumber 31 = .ok (.getfield 45, 3) := by decide +kernel
theorem dX7_takeNumber_34 : decode cX7_takeNumber 34 = .ok (.bipush 18, 2) := by decide +kernel
theorem dX7_takeNumber_36 : decode cX7_takeNumber 36 = .ok (.if_icmp .eq 7, 3) := by decide +kernel
theorem dX7_takeNumber_39 : decode cX7_takeNumber 39 = .ok (.iconst 1, 1) := by decide +kernel
theorem dX7_takeNumber_40 : decode cX7_takeNumber 40 = .ok (.goto 4, 3) := by decide +kernel
theorem dX7_takeNumber_43 : decode cX7_takeNumber 43 = .ok (.iconst 3, 1) := by decide +kernel
theorem dX7_takeNumber_44 : decode cX7_takeNumber 44 = .ok (.invokevirtual 65, 3) := by decide +kernel
theorem dX7_takeNumber_47 : decode cX7_takeNumber 47 = .ok (.pop, 1) := by decide +kernel
theorem dX7_takeNumber_48 : decode cX7_takeNumber 48 = .ok (.iconst (-1), 1) := by decide +kernel
theorem dX7_takeNumber_49 : decode cX7_takeNumber 49 = .ok (.ireturn, 1) := by decide +kernel
theorem dX7_takeNumber_50 : decode cX7_takeNumber 50 = .ok (.aload_n 0, 1) := by decide +kernel
theorem dX7_takeNumber_51 : decode cX7_takeNumber 51 = .ok (.invokevirtual 42, 3) := by decide +kernel
theorem dX7_takeNumber_54 : decode cX7_takeNumber 54 = .ok (.iload_n 2, 1) := by decide +kernel
theorem dX7_takeNumber_55 : decode cX7_takeNumber 55 = .ok (.ireturn, 1) := by decide +kernel
theorem dX7_takeName_0 : decode cX7_takeName 0 = .ok (.aload_n 0, 1) := by decide +kernel
theorem dX7_takeName_1 : decode cX7_takeName 1 = .ok (.invokevirtual 185, 3) := by decide +kernel
theorem dX7_takeName_4 : decode cX7_takeName 4 = .ok (.ifCond .ne 5, 3) := by decide +kernel
theorem dX7_takeName_7 : decode cX7_takeName 7 = .ok (.iconst (-1), 1) := by decide +kernel
theorem dX7_takeName_8 : decode cX7_takeName 8 = .ok (.ireturn, 1) := by decide +kernel
theorem dX7_takeName_9 : decode cX7_takeName 9 = .ok (.aload_n 0, 1) := by decide +kernel
theorem dX7_takeName_10 : decode cX7_takeName 10 = .ok (.getfield 23, 3) := by decide +kernel
theorem dX7_takeName_13 : decode cX7_takeName 13 = .ok (.aload_n 1, 1) := by decide +kernel
theorem dX7_takeName_14 : decode cX7_takeName 14 = .ok (.iload_n 2, 1) := by decide +kernel
theorem dX7_takeName_15 : decode cX7_takeName 15 = .ok (.invokestatic 188, 3) := by decide +kernel
theorem dX7_takeName_18 : decode cX7_takeName 18 = .ok (.istore_n 3, 1) := by decide +kernel
theorem dX7_takeName_19 : decode cX7_takeName 19 = .ok (.iload_n 3, 1) := by decide +kernel
theorem dX7_takeName_20 : decode cX7_takeName 20 = .ok (.iconst (-1), 1) := by decide +kernel
theorem dX7_takeName_21 : decode cX7_takeName 21 = .ok (.if_icmp .ne 12, 3) := by decide +kernel
theorem dX7_takeName_24 : decode cX7_takeName 24 = .ok (.aload_n 0, 1) := by decide +kernel
theorem dX7_takeName_25 : decode cX7_takeName 25 = .ok (.iconst 2, 1) := by decide +kernel
theorem dX7_takeName_26 : decode cX7_takeName 26 = .ok (.invokevirtual 65, 3) := by decide +kernel
theorem dX7_takeName_29 : decode cX7_takeName 29 = .ok (.pop, 1) := by decide +kernel
theorem dX7_takeName_30 : decode cX7_takeName 30 = .ok (.goto 7, 3) := by decide +kernel
theorem dX7_takeName_33 : decode cX7_takeName 33 = .ok (.aload_n 0, 1) := by decide +kernel
theorem dX7_takeName_34 : decode cX7_takeName 34 = .ok (.invokevirtual 42, 3) := by decide +kernel
theorem dX7_takeName_37 : decode cX7_takeName 37 = .ok (.iload_n 3, 1) := by decide +kernel
theorem dX7_takeName_38 : decode cX7_takeName 38 = .ok (.ireturn, 1) := by decide +kernel
theorem dX7_isNewName_0 : decode cX7_isNewName 0 = .ok (.aload_n 0, 1) := by decide +kernel
theorem dX7_isNewName_1 : decode cX7_isNewName 1 = .ok (.invokevirtual 185, 3) := by decide +kernel
theorem dX7_isNewName_4 : decode cX7_isNewName 4 = .ok (.ifCond .ne 5, 3) := by decide +kernel
theorem dX7_isNewName_7 : decode cX7_isNewName 7 = .ok (.iconst 0, 1) := by decide +kernel
theorem dX7_isNewName_8 : decode cX7_isNewName 8 = .ok (.ireturn, 1) := by decide +kernel
theorem dX7_isNewName_9 : decode cX7_isNewName 9 = .ok (.aload_n 0, 1) := by decide +kernel
theorem dX7_isNewName_10 : decode cX7_isNewName 10 = .ok (.getfield 23, 3) := by decide +kernel
theorem dX7_isNewName_13 : decode cX7_isNewName 13 = .ok (.aload_n 1, 1) := by decide +kernel
theorem dX7_isNewName_14 : decode cX7_isNewName 14 = .ok (.iload_n 2, 1) := by decide +kernel
theorem dX7_isNewName_15 : decode cX7_isNewName 15 = .ok (.invokestatic 188, 3) := by decide +kernel
theorem dX7_isNewName_18 : decode cX7_isNewName 18 = .ok (.iconst (-1), 1) := by decide +kernel
theorem dX7_isNewName_19 : decode cX7_isNewName 19 = .ok (.if_icmp .eq 11, 3) := by decide +kernel
theorem dX7_isNewName_22 : decode cX7_isNewName 22 = .ok (.aload_n 0, 1) := by decide +kernel
theorem dX7_isNewName_23 : decode cX7_isNewName 23 = .ok (.iconst 2, 1) := by decide +kernel
theorem dX7_isNewName_24 : decode cX7_isNewName 24 = .ok (.invokevirtual 65, 3) := by decide +kernel
theorem dX7_isNewName_27 : decode cX7_isNewName 27 = .ok (.ifCond .eq 7, 3) := by decide +kernel
theorem dX7_isNewName_30 : decode cX7_isNewName 30 = .ok (.iconst 1, 1) := by decide +kernel
theorem dX7_isNewName_31 : decode cX7_isNewName 31 = .ok (.goto 4, 3) := by decide +kernel
theorem dX7_isNewName_34 : decode cX7_isNewName 34 = .ok (.iconst 0, 1) := by decide +kernel
theorem dX7_isNewName_35 : decode cX7_isNewName 35 = .ok (.ireturn, 1) := by decide +kernel
theorem dX7_isName_0 : decode cX7_isName 0 = .ok (.aload_n 0, 1) := by decide +kernel
theorem dX7_isName_1 : decode cX7_isName 1 = .ok (.getfield 45, 3) := by decide +kernel
theorem dX7_isName_4 : decode cX7_isName 4 = .ok (.bipush 17, 2) := by decide +kernel
theorem dX7_isName_6 : decode cX7_isName 6 = .ok (.if_icmp .eq 9, 3) := by decide +kernel
theorem dX7_isName_9 : decode cX7_isName 9 = .ok (.aload_n 0, 1) := by decide +kernel
theorem dX7_isName_10 : decode cX7_isName 10 = .ok (.iconst 1, 1) := by decide +kernel
theorem dX7_isName_11 : decode cX7_isName 11 = .ok (.invokevirtual 65, 3) := by decide +kernel
theorem dX7_isName_14 : decode cX7_isName 14 = .ok (.ireturn, 1) := by decide +kernel
theorem dX7_isName_15 : decode cX7_isName 15 = .ok (.aload_n 0, 1) := by decide +kernel
theorem dX7_isName_16 : decode cX7_isName 16 = .ok (.getfield 23, 3) := by decide +kernel
theorem dX7_isName_19 : decode cX7_isName 19 = .ok (.invokevirtual 177, 3) := by decide +kernel
theorem dX7_isName_22 : decode cX7_isName 22 = .ok (.aload_n 0, 1) := by decide +kernel
theorem dX7_isName_23 : decode cX7_isName 23 = .ok (.getfield 23, 3) := by decide +kernel
theorem dX7_isName_26 : decode cX7_isName 26 = .ok (.aload_n 0, 1) := by decide +kernel
theorem dX7_isName_27 : decode cX7_isName 27 = .ok (.getfield 27, 3) := by decide +kernel
theorem dX7_isName_30 : decode cX7_isName 30 = .ok (.aload_n 0, 1) := by decide +kernel
theorem dX7_isName_31 : decode cX7_isName 31 = .ok (.getfield 174, 3) := by decide +kernel
theorem dX7_isName_34 : decode cX7_isName 34 = .ok (.aload_n 0, 1) := by decide +kernel
theorem dX7_isName_35 : decode cX7_isName 35 = .ok (.getfield 39, 3) := by decide +kernel
theorem dX7_isName_38 : decode cX7_isName 38 = .ok (.invokevirtual 178, 3) := by decide +kernel
theorem dX7_isName_41 : decode cX7_isName 41 = .ok (.ireturn, 1) := by decide +kernel
theorem dX7_take_0 : decode cX7_take 0 = .ok (.aload_n 0, 1) := by decide +kernel
theorem dX7_take_1 : decode cX7_take 1 = .ok (.getfield 45, 3) := by decide +kernel
theorem dX7_take_4 : decode cX7_take 4 = .ok (.iload_n 1, 1) := by decide +kernel
theorem dX7_take_5 : decode cX7_take 5 = .ok (.if_icmp .eq 9, 3) := by decide +kernel
theorem dX7_take_8 : decode cX7_take 8 = .ok (.aload_n 0, 1) := by decide +kernel
theorem dX7_take_9 : decode cX7_take 9 = .ok (.iconst 1, 1) := by decide +kernel
theorem dX7_take_10 : decode cX7_take 10 = .ok (.invokevirtual 65, 3) := by decide +kernel
theorem dX7_take_13 : decode cX7_take 13 = .ok (.ireturn, 1) := by decide +kernel
theorem dX7_take_14 : decode cX7_take 14 = .ok (.aload_n 0, 1) := by decide +kernel
theorem dX7_take_15 : decode cX7_take 15 = .ok (.invokevirtual 42, 3) := by decide +kernel
theorem dX7_take_18 : decode cX7_take 18 = .ok (.iconst 1, 1) := by decide +kernel
theorem dX7_take_19 : decode cX7_take 19 = .ok (.ireturn, 1) := by decide +kernel
theorem dX7_refuse_0 : decode cX7_refuse 0 = .ok (.aload_n 0, 1) := by decide +kernel
theorem dX7_refuse_1 : decode cX7_refuse 1 = .ok (.iload_n 1, 1) := by decide +kernel
theorem dX7_refuse_2 : decode cX7_refuse 2 = .ok (.putfield 9, 3) := by decide +kernel
theorem dX7_refuse_5 : decode cX7_refuse 5 = .ok (.aload_n 0, 1) := by decide +kernel
theorem dX7_refuse_6 : decode cX7_refuse 6 = .ok (.aload_n 0, 1) := by decide +kernel
theorem dX7_refuse_7 : decode cX7_refuse 7 = .ok (.getfield 174, 3) := by decide +kernel
theorem dX7_refuse_10 : decode cX7_refuse 10 = .ok (.putfield 15, 3) := by decide +kernel
theorem dX7_refuse_13 : decode cX7_refuse 13 = .ok (.iconst 0, 1) := by decide +kernel
theorem dX7_refuse_14 : decode cX7_refuse 14 = .ok (.ireturn, 1) := by decide +kernel
theorem dX7_runEnd_0 : decode cX7_runEnd 0 = .ok (.iload_n 1, 1) := by decide +kernel
theorem dX7_runEnd_1 : decode cX7_runEnd 1 = .ok (.istore 4, 2) := by decide +kernel
theorem dX7_runEnd_3 : decode cX7_runEnd 3 = .ok (.iload 4, 2) := by decide +kernel
theorem dX7_runEnd_5 : decode cX7_runEnd 5 = .ok (.aload_n 0, 1) := by decide +kernel
theorem dX7_runEnd_6 : decode cX7_runEnd 6 = .ok (.getfield 27, 3) := by decide +kernel
theorem dX7_runEnd_9 : decode cX7_runEnd 9 = .ok (.getfield 192, 3) := by decide +kernel
theorem dX7_runEnd_12 : decode cX7_runEnd 12 = .ok (.if_icmp .ge 35, 3) := by decide +kernel
theorem dX7_runEnd_15 : decode cX7_runEnd 15 = .ok (.aload_n 0, 1) := by decide +kernel
theorem dX7_runEnd_16 : decode cX7_runEnd 16 = .ok (.getfield 27, 3) := by decide +kernel
theorem dX7_runEnd_19 : decode cX7_runEnd 19 = .ok (.iload 4, 2) := by decide +kernel
theorem dX7_runEnd_21 : decode cX7_runEnd 21 = .ok (.invokevirtual 182, 3) := by decide +kernel
theorem dX7_runEnd_24 : decode cX7_runEnd 24 = .ok (.iload_n 2, 1) := by decide +kernel
theorem dX7_runEnd_25 : decode cX7_runEnd 25 = .ok (.if_icmp .lt 22, 3) := by decide +kernel
theorem dX7_runEnd_28 : decode cX7_runEnd 28 = .ok (.aload_n 0, 1) := by decide +kernel
theorem dX7_runEnd_29 : decode cX7_runEnd 29 = .ok (.getfield 27, 3) := by decide +kernel
theorem dX7_runEnd_32 : decode cX7_runEnd 32 = .ok (.iload 4, 2) := by decide +kernel
theorem dX7_runEnd_34 : decode cX7_runEnd 34 = .ok (.invokevirtual 182, 3) := by decide +kernel
theorem dX7_runEnd_37 : decode cX7_runEnd 37 = .ok (.iload_n 3, 1) := by decide +kernel
theorem dX7_runEnd_38 : decode cX7_runEnd 38 = .ok (.if_icmp .gt 9, 3) := by decide +kernel
theorem dX7_runEnd_41 : decode cX7_runEnd 41 = .ok (.iinc 4 1, 3) := by decide +kernel
theorem dX7_runEnd_44 : decode cX7_runEnd 44 = .ok (.goto (-41), 3) := by decide +kernel
theorem dX7_runEnd_47 : decode cX7_runEnd 47 = .ok (.iload 4, 2) := by decide +kernel
theorem dX7_runEnd_49 : decode cX7_runEnd 49 = .ok (.ireturn, 1) := by decide +kernel
theorem dX7_wordNumber_0 : decode cX7_wordNumber 0 = .ok (.iconst 0, 1) := by decide +kernel
theorem dX7_wordNumber_1 : decode cX7_wordNumber 1 = .ok (.istore_n 1, 1) := by decide +kernel
theorem dX7_wordNumber_2 : decode cX7_wordNumber 2 = .ok (.aload_n 0, 1) := by decide +kernel
theorem dX7_wordNumber_3 : decode cX7_wordNumber 3 = .ok (.getfield 174, 3) := by decide +kernel
theorem dX7_wordNumber_6 : decode cX7_wordNumber 6 = .ok (.istore_n 2, 1) := by decide +kernel
theorem dX7_wordNumber_7 : decode cX7_wordNumber 7 = .ok (.iconst 1, 1) := by decide +kernel
theorem dX7_wordNumber_8 : decode cX7_wordNumber 8 = .ok (.istore_n 3, 1) := by decide +kernel
theorem dX7_wordNumber_9 : decode cX7_wordNumber 9 = .ok (.iconst 0, 1) := by decide +kernel
theorem dX7_wordNumber_10 : decode cX7_wordNumber 10 = .ok (.istore 4, 2) := by decide +kernel
theorem dX7_wordNumber_12 : decode cX7_wordNumber 12 = .ok (.iload 4, 2) := by decide +kernel
theorem dX7_wordNumber_14 : decode cX7_wordNumber 14 = .ok (.ldc 203, 2) := by decide +kernel
theorem dX7_wordNumber_16 : decode cX7_wordNumber 16 = .ok (.invokevirtual 205, 3) := by decide +kernel
theorem dX7_wordNumber_19 : decode cX7_wordNumber 19 = .ok (.if_icmp .ge 87, 3) := by decide +kernel
theorem dX7_wordNumber_22 : decode cX7_wordNumber 22 = .ok (.ldc 203, 2) := by decide +kernel
theorem dX7_wordNumber_24 : decode cX7_wordNumber 24 = .ok (.iload 4, 2) := by decide +kernel
theorem dX7_wordNumber_26 : decode cX7_wordNumber 26 = .ok (.invokevirtual 210, 3) := by decide +kernel
theorem dX7_wordNumber_29 : decode cX7_wordNumber 29 = .ok (.bipush 32, 2) := by decide +kernel
theorem dX7_wordNumber_31 : decode cX7_wordNumber 31 = .ok (.if_icmp .eq 45, 3) := by decide +kernel
theorem dX7_wordNumber_34 : decode cX7_wordNumber 34 = .ok (.iload_n 3, 1) := by decide +kernel
theorem dX7_wordNumber_35 : decode cX7_wordNumber 35 = .ok (.ifCond .eq 33, 3) := by decide +kernel
theorem dX7_wordNumber_38 : decode cX7_wordNumber 38 = .ok (.iload_n 2, 1) := by decide +kernel
theorem dX7_wordNumber_39 : decode cX7_wordNumber 39 = .ok (.aload_n 0, 1) := by decide +kernel
theorem dX7_wordNumber_40 : decode cX7_wordNumber 40 = .ok (.getfield 39, 3) := by decide +kernel
theorem dX7_wordNumber_43 : decode cX7_wordNumber 43 = .ok (.if_icmp .ge 25, 3) := by decide +kernel
theorem dX7_wordNumber_46 : decode cX7_wordNumber 46 = .ok (.aload_n 0, 1) := by decide +kernel
theorem dX7_wordNumber_47 : decode cX7_wordNumber 47 = .ok (.getfield 27, 3) := by decide +kernel
theorem dX7_wordNumber_50 : decode cX7_wordNumber 50 = .ok (.iload_n 2, 1) := by decide +kernel
theorem dX7_wordNumber_51 : decode cX7_wordNumber 51 = .ok (.invokevirtual 182, 3) := by decide +kernel
theorem dX7_wordNumber_54 : decode cX7_wordNumber 54 = .ok (.ldc 203, 2) := by decide +kernel
theorem dX7_wordNumber_56 : decode cX7_wordNumber 56 = .ok (.iload 4, 2) := by decide +kernel
theorem dX7_wordNumber_58 : decode cX7_wordNumber 58 = .ok (.invokevirtual 210, 3) := by decide +kernel
theorem dX7_wordNumber_61 : decode cX7_wordNumber 61 = .ok (.if_icmp .ne 7, 3) := by decide +kernel
theorem dX7_wordNumber_64 : decode cX7_wordNumber 64 = .ok (.iconst 1, 1) := by decide +kernel
theorem dX7_wordNumber_65 : decode cX7_wordNumber 65 = .ok (.goto 4, 3) := by decide +kernel
theorem dX7_wordNumber_68 : decode cX7_wordNumber 68 = .ok (.iconst 0, 1) := by decide +kernel
theorem dX7_wordNumber_69 : decode cX7_wordNumber 69 = .ok (.istore_n 3, 1) := by decide +kernel
theorem dX7_wordNumber_70 : decode cX7_wordNumber 70 = .ok (.iinc 2 1, 3) := by decide +kernel
theorem dX7_wordNumber_73 : decode cX7_wordNumber 73 = .ok (.goto 27, 3) := by decide +kernel
theorem dX7_wordNumber_76 : decode cX7_wordNumber 76 = .ok (.iload_n 3, 1) := by decide +kernel
theorem dX7_wordNumber_77 : decode cX7_wordNumber 77 = .ok (.ifCond .eq 13, 3) := by decide +kernel
theorem dX7_wordNumber_80 : decode cX7_wordNumber 80 = .ok (.iload_n 2, 1) := by decide +kernel
theorem dX7_wordNumber_81 : decode cX7_wordNumber 81 = .ok (.aload_n 0, 1) := by decide +kernel
theorem dX7_wordNumber_82 : decode cX7_wordNumber 82 = .ok (.getfield 39, 3) := by decide +kernel
theorem dX7_wordNumber_85 : decode cX7_wordNumber 85 = .ok (.if_icmp .ne 5, 3) := by decide +kernel
theorem dX7_wordNumber_88 : decode cX7_wordNumber 88 = .ok (.iload_n 1, 1) := by decide +kernel
theorem dX7_wordNumber_89 : decode cX7_wordNumber 89 = .ok (.ireturn, 1) := by decide +kernel
theorem dX7_wordNumber_90 : decode cX7_wordNumber 90 = .ok (.iinc 1 1, 3) := by decide +kernel
theorem dX7_wordNumber_93 : decode cX7_wordNumber 93 = .ok (.aload_n 0, 1) := by decide +kernel
theorem dX7_wordNumber_94 : decode cX7_wordNumber 94 = .ok (.getfield 174, 3) := by decide +kernel
theorem dX7_wordNumber_97 : decode cX7_wordNumber 97 = .ok (.istore_n 2, 1) := by decide +kernel
theorem dX7_wordNumber_98 : decode cX7_wordNumber 98 = .ok (.iconst 1, 1) := by decide +kernel
theorem dX7_wordNumber_99 : decode cX7_wordNumber 99 = .ok (.istore_n 3, 1) := by decide +kernel
theorem dX7_wordNumber_100 : decode cX7_wordNumber 100 = .ok (.iinc 4 1, 3) := by decide +kernel
theorem dX7_wordNumber_103 : decode cX7_wordNumber 103 = .ok (.goto (-91), 3) := by decide +kernel
theorem dX7_wordNumber_106 : decode cX7_wordNumber 106 = .ok (.bipush 17, 2) := by decide +kernel
theorem dX7_wordNumber_108 : decode cX7_wordNumber 108 = .ok (.ireturn, 1) := by decide +kernel
theorem dX8_note_0 : decode cX8_note 0 = .ok (.aload_n 0, 1) := by decide +kernel
theorem dX8_note_1 : decode cX8_note 1 = .ok (.getfield 9, 3) := by decide +kernel
theorem dX8_note_4 : decode cX8_note 4 = .ok (.iload_n 1, 1) := by decide +kernel
theorem dX8_note_5 : decode cX8_note 5 = .ok (.lconst 0, 1) := by decide +kernel
theorem dX8_note_6 : decode cX8_note 6 = .ok (.lastore, 1) := by decide +kernel
theorem dX8_note_7 : decode cX8_note 7 = .ok (.aload_n 0, 1) := by decide +kernel
theorem dX8_note_8 : decode cX8_note 8 = .ok (.getfield 15, 3) := by decide +kernel
theorem dX8_note_11 : decode cX8_note 11 = .ok (.iload_n 1, 1) := by decide +kernel
theorem dX8_note_12 : decode cX8_note 12 = .ok (.lconst 0, 1) := by decide +kernel
theorem dX8_note_13 : decode cX8_note 13 = .ok (.lastore, 1) := by decide +kernel
theorem dX8_note_14 : decode cX8_note 14 = .ok (.aload_n 0, 1) := by decide +kernel
theorem dX8_note_15 : decode cX8_note 15 = .ok (.getfield 18, 3) := by decide +kernel
theorem dX8_note_18 : decode cX8_note 18 = .ok (.iload_n 1, 1) := by decide +kernel
theorem dX8_note_19 : decode cX8_note 19 = .ok (.lconst 0, 1) := by decide +kernel
theorem dX8_note_20 : decode cX8_note 20 = .ok (.lastore, 1) := by decide +kernel
theorem dX8_note_21 : decode cX8_note 21 = .ok (.iconst 0, 1) := by decide +kernel
theorem dX8_note_22 : decode cX8_note 22 = .ok (.istore_n 3, 1) := by decide +kernel
theorem dX8_note_23 : decode cX8_note 23 = .ok (.iload_n 3, 1) := by decide +kernel
theorem dX8_note_24 : decode cX8_note 24 = .ok (.aload_n 2, 1) := by decide +kernel
theorem dX8_note_25 : decode cX8_note 25 = .ok (.getfield 55, 3) := by decide +kernel
theorem dX8_note_28 : decode cX8_note 28 = .ok (.if_icmp .ge 77, 3) := by decide +kernel
theorem dX8_note_31 : decode cX8_note 31 = .ok (.aload_n 2, 1) := by decide +kernel
theorem dX8_note_32 : decode cX8_note 32 = .ok (.iload_n 3, 1) := by decide +kernel
theorem dX8_note_33 : decode cX8_note 33 = .ok (.invokevirtual 61, 3) := by decide +kernel
theorem dX8_note_36 : decode cX8_note 36 = .ok (.astore 4, 2) := by decide +kernel
theorem dX8_note_38 : decode cX8_note 38 = .ok (.aload 4, 2) := by decide +kernel
theorem dX8_note_40 : decode cX8_note 40 = .ok (.ifnull 59, 3) := by decide +kernel
theorem dX8_note_43 : decode cX8_note 43 = .ok (.aload 4, 2) := by decide +kernel
theorem dX8_note_45 : decode cX8_note 45 = .ok (.invokevirtual 65, 3) := by decide +kernel
theorem dX8_note_48 : decode cX8_note 48 = .ok (.lstore 5, 2) := by decide +kernel
theorem dX8_note_50 : decode cX8_note 50 = .ok (.aload_n 0, 1) := by decide +kernel
theorem dX8_note_51 : decode cX8_note 51 = .ok (.getfield 9, 3) := by decide +kernel
theorem dX8_note_54 : decode cX8_note 54 = .ok (.iload_n 1, 1) := by decide +kernel
theorem dX8_note_55 : decode cX8_note 55 = .ok (.iload_n 3, 1) := by decide +kernel
theorem dX8_note_56 : decode cX8_note 56 = .ok (.ifCond .ne 8, 3) := by decide +kernel
theorem dX8_note_59 : decode cX8_note 59 = .ok (.lload 5, 2) := by decide +kernel
theorem dX8_note_61 : decode cX8_note 61 = .ok (.goto 9, 3) := by decide +kernel
theorem dX8_note_64 : decode cX8_note 64 = .ok (.aload_n 0, 1) := by decide +kernel
theorem dX8_note_65 : decode cX8_note 65 = .ok (.getfield 9, 3) := by decide +kernel
theorem dX8_note_68 : decode cX8_note 68 = .ok (.iload_n 1, 1) := by decide +kernel
theorem dX8_note_69 : decode cX8_note 69 = .ok (.laload, 1) := by decide +kernel
theorem dX8_note_70 : decode cX8_note 70 = .ok (.lastore, 1) := by decide +kernel
theorem dX8_note_71 : decode cX8_note 71 = .ok (.aload_n 0, 1) := by decide +kernel
theorem dX8_note_72 : decode cX8_note 72 = .ok (.getfield 15, 3) := by decide +kernel
theorem dX8_note_75 : decode cX8_note 75 = .ok (.iload_n 1, 1) := by decide +kernel
theorem dX8_note_76 : decode cX8_note 76 = .ok (.dup2, 1) := by decide +kernel
theorem dX8_note_77 : decode cX8_note 77 = .ok (.laload, 1) := by decide +kernel
theorem dX8_note_78 : decode cX8_note 78 = .ok (.lload 5, 2) := by decide +kernel
theorem dX8_note_80 : decode cX8_note 80 = .ok (.lor, 1) := by decide +kernel
theorem dX8_note_81 : decode cX8_note 81 = .ok (.lastore, 1) := by decide +kernel
theorem dX8_note_82 : decode cX8_note 82 = .ok (.aload_n 0, 1) := by decide +kernel
theorem dX8_note_83 : decode cX8_note 83 = .ok (.getfield 18, 3) := by decide +kernel
theorem dX8_note_86 : decode cX8_note 86 = .ok (.iload_n 1, 1) := by decide +kernel
theorem dX8_note_87 : decode cX8_note 87 = .ok (.dup2, 1) := by decide +kernel
theorem dX8_note_88 : decode cX8_note 88 = .ok (.laload, 1) := by decide +kernel
theorem dX8_note_89 : decode cX8_note 89 = .ok (.aload 4, 2) := by decide +kernel
theorem dX8_note_91 : decode cX8_note 91 = .ok (.getfield 71, 3) := by decide +kernel
theorem dX8_note_94 : decode cX8_note 94 = .ok (.invokevirtual 75, 3) := by decide +kernel
theorem dX8_note_97 : decode cX8_note 97 = .ok (.lor, 1) := by decide +kernel
theorem dX8_note_98 : decode cX8_note 98 = .ok (.lastore, 1) := by decide +kernel
theorem dX8_note_99 : decode cX8_note 99 = .ok (.iinc 3 1, 3) := by decide +kernel
theorem dX8_note_102 : decode cX8_note 102 = .ok (.goto (-79), 3) := by decide +kernel
theorem dX8_note_105 : decode cX8_note 105 = .ok (.return_, 1) := by decide +kernel
theorem dX8_hasForm_0 : decode cX8_hasForm 0 = .ok (.aload_n 0, 1) := by decide +kernel
theorem dX8_hasForm_1 : decode cX8_hasForm 1 = .ok (.getfield 18, 3) := by decide +kernel
theorem dX8_hasForm_4 : decode cX8_hasForm 4 = .ok (.iload_n 1, 1) := by decide +kernel
theorem dX8_hasForm_5 : decode cX8_hasForm 5 = .ok (.laload, 1) := by decide +kernel
theorem dX8_hasForm_6 : decode cX8_hasForm 6 = .ok (.lconst 0, 1) := by decide +kernel
theorem dX8_hasForm_7 : decode cX8_hasForm 7 = .ok (.lcmp, 1) := by decide +kernel
theorem dX8_hasForm_8 : decode cX8_hasForm 8 = .ok (.ifCond .eq 7, 3) := by decide +kernel
theorem dX8_hasForm_11 : decode cX8_hasForm 11 = .ok (.iconst 1, 1) := by decide +kernel
theorem dX8_hasForm_12 : decode cX8_hasForm 12 = .ok (.goto 4, 3) := by decide +kernel
theorem dX8_hasForm_15 : decode cX8_hasForm 15 = .ok (.iconst 0, 1) := by decide +kernel
theorem dX8_hasForm_16 : decode cX8_hasForm 16 = .ok (.ireturn, 1) := by decide +kernel
theorem dX8_mayHave_0 : decode cX8_mayHave 0 = .ok (.aload_n 0, 1) := by decide +kernel
theorem dX8_mayHave_1 : decode cX8_mayHave 1 = .ok (.getfield 18, 3) := by decide +kernel
theorem dX8_mayHave_4 : decode cX8_mayHave 4 = .ok (.iload_n 1, 1) := by decide +kernel
theorem dX8_mayHave_5 : decode cX8_mayHave 5 = .ok (.laload, 1) := by decide +kernel
theorem dX8_mayHave_6 : decode cX8_mayHave 6 = .ok (.lload_n 2, 1) := by decide +kernel
theorem dX8_mayHave_7 : decode cX8_mayHave 7 = .ok (.land, 1) := by decide +kernel
theorem dX8_mayHave_8 : decode cX8_mayHave 8 = .ok (.lconst 0, 1) := by decide +kernel
theorem dX8_mayHave_9 : decode cX8_mayHave 9 = .ok (.lcmp, 1) := by decide +kernel
theorem dX8_mayHave_10 : decode cX8_mayHave 10 = .ok (.ifCond .eq 7, 3) := by decide +kernel
theorem dX8_mayHave_13 : decode cX8_mayHave 13 = .ok (.iconst 1, 1) := by decide +kernel
theorem dX8_mayHave_14 : decode cX8_mayHave 14 = .ok (.goto 4, 3) := by decide +kernel
theorem dX8_mayHave_17 : decode cX8_mayHave 17 = .ok (.iconst 0, 1) := by decide +kernel
theorem dX8_mayHave_18 : decode cX8_mayHave 18 = .ok (.ireturn, 1) := by decide +kernel
theorem dX8_placesUsing_0 : decode cX8_placesUsing 0 = .ok (.iconst 0, 1) := by decide +kernel
theorem dX8_placesUsing_1 : decode cX8_placesUsing 1 = .ok (.istore_n 3, 1) := by decide +kernel
theorem dX8_placesUsing_2 : decode cX8_placesUsing 2 = .ok (.iconst 0, 1) := by decide +kernel
theorem dX8_placesUsing_3 : decode cX8_placesUsing 3 = .ok (.istore 4, 2) := by decide +kernel
theorem dX8_placesUsing_5 : decode cX8_placesUsing 5 = .ok (.iload 4, 2) := by decide +kernel
theorem dX8_placesUsing_7 : decode cX8_placesUsing 7 = .ok (.iload_n 2, 1) := by decide +kernel
theorem dX8_placesUsing_8 : decode cX8_placesUsing 8 = .ok (.if_icmp .ge 24, 3) := by decide +kernel
theorem dX8_placesUsing_11 : decode cX8_placesUsing 11 = .ok (.iload_n 3, 1) := by decide +kernel
theorem dX8_placesUsing_12 : decode cX8_placesUsing 12 = .ok (.aload_n 0, 1) := by decide +kernel
theorem dX8_placesUsing_13 : decode cX8_placesUsing 13 = .ok (.getfield 15, 3) := by decide +kernel
theorem dX8_placesUsing_16 : decode cX8_placesUsing 16 = .ok (.iload 4, 2) := by decide +kernel
theorem dX8_placesUsing_18 : decode cX8_placesUsing 18 = .ok (.laload, 1) := by decide +kernel
theorem dX8_placesUsing_19 : decode cX8_placesUsing 19 = .ok (.iload_n 1, 1) := by decide +kernel
theorem dX8_placesUsing_20 : decode cX8_placesUsing 20 = .ok (.lushr, 1) := by decide +kernel
theorem dX8_placesUsing_21 : decode cX8_placesUsing 21 = .ok (.lconst 1, 1) := by decide +kernel
theorem dX8_placesUsing_22 : decode cX8_placesUsing 22 = .ok (.land, 1) := by decide +kernel
theorem dX8_placesUsing_23 : decode cX8_placesUsing 23 = .ok (.l2i, 1) := by decide +kernel
theorem dX8_placesUsing_24 : decode cX8_placesUsing 24 = .ok (.iadd, 1) := by decide +kernel
theorem dX8_placesUsing_25 : decode cX8_placesUsing 25 = .ok (.istore_n 3, 1) := by decide +kernel
theorem dX8_placesUsing_26 : decode cX8_placesUsing 26 = .ok (.iinc 4 1, 3) := by decide +kernel
theorem dX8_placesUsing_29 : decode cX8_placesUsing 29 = .ok (.goto (-24), 3) := by decide +kernel
theorem dX8_placesUsing_32 : decode cX8_placesUsing 32 = .ok (.iload_n 3, 1) := by decide +kernel
theorem dX8_placesUsing_33 : decode cX8_placesUsing 33 = .ok (.ireturn, 1) := by decide +kernel
theorem dX9_addPart_0 : decode cX9_addPart 0 = .ok (.iload_n 3, 1) := by decide +kernel
theorem dX9_addPart_1 : decode cX9_addPart 1 = .ok (.iload_n 2, 1) := by decide +kernel
theorem dX9_addPart_2 : decode cX9_addPart 2 = .ok (.isub, 1) := by decide +kernel
theorem dX9_addPart_3 : decode cX9_addPart 3 = .ok (.istore 4, 2) := by decide +kernel
theorem dX9_addPart_5 : decode cX9_addPart 5 = .ok (.iload_n 2, 1) := by decide +kernel
theorem dX9_addPart_6 : decode cX9_addPart 6 = .ok (.ifCond .lt 31, 3) := by decide +kernel
theorem dX9_addPart_9 : decode cX9_addPart 9 = .ok (.iload 4, 2) := by decide +kernel
theorem dX9_addPart_11 : decode cX9_addPart 11 = .ok (.ifCond .lt 26, 3) := by decide +kernel
theorem dX9_addPart_14 : decode cX9_addPart 14 = .ok (.iload_n 3, 1) := by decide +kernel
theorem dX9_addPart_15 : decode cX9_addPart 15 = .ok (.aload_n 1, 1) := by decide +kernel
theorem dX9_addPart_16 : decode cX9_addPart 16 = .ok (.getfield 21, 3) := by decide +kernel
theorem dX9_addPart_19 : decode cX9_addPart 19 = .ok (.if_icmp .gt 18, 3) := by decide +kernel
theorem dX9_addPart_22 : decode cX9_addPart 22 = .ok (.iload 4, 2) := by decide +kernel
theorem dX9_addPart_24 : decode cX9_addPart 24 = .ok (.aload_n 0, 1) := by decide +kernel
theorem dX9_addPart_25 : decode cX9_addPart 25 = .ok (.getfield 15, 3) := by decide +kernel
theorem dX9_addPart_28 : decode cX9_addPart 28 = .ok (.arraylength, 1) := by decide +kernel
theorem dX9_addPart_29 : decode cX9_addPart 29 = .ok (.aload_n 0, 1) := by decide +kernel
theorem dX9_addPart_30 : decode cX9_addPart 30 = .ok (.getfield 21, 3) := by decide +kernel
theorem dX9_addPart_33 : decode cX9_addPart 33 = .ok (.isub, 1) := by decide +kernel
theorem dX9_addPart_34 : decode cX9_addPart 34 = .ok (.if_icmp .le 5, 3) := by decide +kernel
theorem dX9_addPart_37 : decode cX9_addPart 37 = .ok (.iconst 0, 1) := by decide +kernel
theorem dX9_addPart_38 : decode cX9_addPart 38 = .ok (.ireturn, 1) := by decide +kernel
theorem dX9_addPart_39 : decode cX9_addPart 39 = .ok (.aload_n 1, 1) := by decide +kernel
theorem dX9_addPart_40 : decode cX9_addPart 40 = .ok (.getfield 15, 3) := by decide +kernel
theorem dX9_addPart_43 : decode cX9_addPart 43 = .ok (.iload_n 2, 1) := by decide +kernel
theorem dX9_addPart_44 : decode cX9_addPart 44 = .ok (.aload_n 0, 1) := by decide +kernel
theorem dX9_addPart_45 : decode cX9_addPart 45 = .ok (.getfield 15, 3) := by decide +kernel
theorem dX9_addPart_48 : decode cX9_addPart 48 = .ok (.aload_n 0, 1) := by decide +kernel
theorem dX9_addPart_49 : decode cX9_addPart 49 = .ok (.getfield 21, 3) := by decide +kernel
theorem dX9_addPart_52 : decode cX9_addPart 52 = .ok (.iload 4, 2) := by decide +kernel
theorem dX9_addPart_54 : decode cX9_addPart 54 = .ok (.invokestatic 29, 3) := by decide +kernel
theorem dX9_addPart_57 : decode cX9_addPart 57 = .ok (.aload_n 0, 1) := by decide +kernel
theorem dX9_addPart_58 : decode cX9_addPart 58 = .ok (.dup, 1) := by decide +kernel
theorem dX9_addPart_59 : decode cX9_addPart 59 = .ok (.getfield 21, 3) := by decide +kernel
theorem dX9_addPart_62 : decode cX9_addPart 62 = .ok (.iload 4, 2) := by decide +kernel
theorem dX9_addPart_64 : decode cX9_addPart 64 = .ok (.iadd, 1) := by decide +kernel
theorem dX9_addPart_65 : decode cX9_addPart 65 = .ok (.putfield 21, 3) := by decide +kernel
theorem dX9_addPart_68 : decode cX9_addPart 68 = .ok (.iconst 1, 1) := by decide +kernel
theorem dX9_addPart_69 : decode cX9_addPart 69 = .ok (.ireturn, 1) := by decide +kernel
theorem dX9_addAll_0 : decode cX9_addAll 0 = .ok (.aload_n 0, 1) := by decide +kernel
theorem dX9_addAll_1 : decode cX9_addAll 1 = .ok (.aload_n 1, 1) := by decide +kernel
theorem dX9_addAll_2 : decode cX9_addAll 2 = .ok (.iconst 0, 1) := by decide +kernel
theorem dX9_addAll_3 : decode cX9_addAll 3 = .ok (.aload_n 1, 1) := by decide +kernel
theorem dX9_addAll_4 : decode cX9_addAll 4 = .ok (.getfield 21, 3) := by decide +kernel
theorem dX9_addAll_7 : decode cX9_addAll 7 = .ok (.invokevirtual 35, 3) := by decide +kernel
theorem dX9_addAll_10 : decode cX9_addAll 10 = .ok (.ireturn, 1) := by decide +kernel
theorem dX9_set_0 : decode cX9_set 0 = .ok (.aload_n 0, 1) := by decide +kernel
theorem dX9_set_1 : decode cX9_set 1 = .ok (.iconst 0, 1) := by decide +kernel
theorem dX9_set_2 : decode cX9_set 2 = .ok (.putfield 21, 3) := by decide +kernel
theorem dX9_set_5 : decode cX9_set 5 = .ok (.aload_n 0, 1) := by decide +kernel
theorem dX9_set_6 : decode cX9_set 6 = .ok (.aload_n 1, 1) := by decide +kernel
theorem dX9_set_7 : decode cX9_set 7 = .ok (.iconst 0, 1) := by decide +kernel
theorem dX9_set_8 : decode cX9_set 8 = .ok (.aload_n 1, 1) := by decide +kernel
theorem dX9_set_9 : decode cX9_set 9 = .ok (.getfield 21, 3) := by decide +kernel
theorem dX9_set_12 : decode cX9_set 12 = .ok (.invokevirtual 35, 3) := by decide +kernel
theorem dX9_set_15 : decode cX9_set 15 = .ok (.pop, 1) := by decide +kernel
theorem dX9_set_16 : decode cX9_set 16 = .ok (.return_, 1) := by decide +kernel
theorem dX9_same_0 : decode cX9_same 0 = .ok (.aload_n 0, 1) := by decide +kernel
theorem dX9_same_1 : decode cX9_same 1 = .ok (.getfield 21, 3) := by decide +kernel
theorem dX9_same_4 : decode cX9_same 4 = .ok (.aload_n 1, 1) := by decide +kernel
theorem dX9_same_5 : decode cX9_same 5 = .ok (.getfield 21, 3) := by decide +kernel
theorem dX9_same_8 : decode cX9_same 8 = .ok (.if_icmp .ne 16, 3) := by decide +kernel
theorem dX9_same_11 : decode cX9_same 11 = .ok (.aload_n 0, 1) := by decide +kernel
theorem dX9_same_12 : decode cX9_same 12 = .ok (.aload_n 1, 1) := by decide +kernel
theorem dX9_same_13 : decode cX9_same 13 = .ok (.iconst 0, 1) := by decide +kernel
theorem dX9_same_14 : decode cX9_same 14 = .ok (.invokevirtual 39, 3) := by decide +kernel
theorem dX9_same_17 : decode cX9_same 17 = .ok (.ifCond .eq 7, 3) := by decide +kernel
theorem dX9_same_20 : decode cX9_same 20 = .ok (.iconst 1, 1) := by decide +kernel
theorem dX9_same_21 : decode cX9_same 21 = .ok (.goto 4, 3) := by decide +kernel
theorem dX9_same_24 : decode cX9_same 24 = .ok (.iconst 0, 1) := by decide +kernel
theorem dX9_same_25 : decode cX9_same 25 = .ok (.ireturn, 1) := by decide +kernel
theorem dX9_holds_0 : decode cX9_holds 0 = .ok (.iload_n 2, 1) := by decide +kernel
theorem dX9_holds_1 : decode cX9_holds 1 = .ok (.ifCond .lt 16, 3) := by decide +kernel
theorem dX9_holds_4 : decode cX9_holds 4 = .ok (.aload_n 1, 1) := by decide +kernel
theorem dX9_holds_5 : decode cX9_holds 5 = .ok (.getfield 21, 3) := by decide +kernel
theorem dX9_holds_8 : decode cX9_holds 8 = .ok (.aload_n 0, 1) := by decide +kernel
theorem dX9_holds_9 : decode cX9_holds 9 = .ok (.getfield 21, 3) := by decide +kernel
theorem dX9_holds_12 : decode cX9_holds 12 = .ok (.iload_n 2, 1) := by decide +kernel
theorem dX9_holds_13 : decode cX9_holds 13 = .ok (.isub, 1) := by decide +kernel
theorem dX9_holds_14 : decode cX9_holds 14 = .ok (.if_icmp .le 5, 3) := by decide +kernel
theorem dX9_holds_17 : decode cX9_holds 17 = .ok (.iconst 0, 1) := by decide +kernel
theorem dX9_holds_18 : decode cX9_holds 18 = .ok (.ireturn, 1) := by decide +kernel
theorem dX9_holds_19 : decode cX9_holds 19 = .ok (.iconst 0, 1) := by decide +kernel
theorem dX9_holds_20 : decode cX9_holds 20 = .ok (.istore_n 3, 1) := by decide +kernel
theorem dX9_holds_21 : decode cX9_holds 21 = .ok (.iload_n 3, 1) := by decide +kernel
theorem dX9_holds_22 : decode cX9_holds 22 = .ok (.aload_n 1, 1) := by decide +kernel
theorem dX9_holds_23 : decode cX9_holds 23 = .ok (.getfield 21, 3) := by decide +kernel
theorem dX9_holds_26 : decode cX9_holds 26 = .ok (.if_icmp .ge 28, 3) := by decide +kernel
theorem dX9_holds_29 : decode cX9_holds 29 = .ok (.aload_n 0, 1) := by decide +kernel
theorem dX9_holds_30 : decode cX9_holds 30 = .ok (.getfield 15, 3) := by decide +kernel
theorem dX9_holds_33 : decode cX9_holds 33 = .ok (.iload_n 2, 1) := by decide +kernel
theorem dX9_holds_34 : decode cX9_holds 34 = .ok (.iload_n 3, 1) := by decide +kernel
theorem dX9_holds_35 : decode cX9_holds 35 = .ok (.iadd, 1) := by decide +kernel
theorem dX9_holds_36 : decode cX9_holds 36 = .ok (.baload, 1) := by decide +kernel
theorem dX9_holds_37 : decode cX9_holds 37 = .ok (.aload_n 1, 1) := by decide +kernel
theorem dX9_holds_38 : decode cX9_holds 38 = .ok (.getfield 15, 3) := by decide +kernel
theorem dX9_holds_41 : decode cX9_holds 41 = .ok (.iload_n 3, 1) := by decide +kernel
theorem dX9_holds_42 : decode cX9_holds 42 = .ok (.baload, 1) := by decide +kernel
theorem dX9_holds_43 : decode cX9_holds 43 = .ok (.if_icmp .eq 5, 3) := by decide +kernel
theorem dX9_holds_46 : decode cX9_holds 46 = .ok (.iconst 0, 1) := by decide +kernel
theorem dX9_holds_47 : decode cX9_holds 47 = .ok (.ireturn, 1) := by decide +kernel
theorem dX9_holds_48 : decode cX9_holds 48 = .ok (.iinc 3 1, 3) := by decide +kernel
theorem dX9_holds_51 : decode cX9_holds 51 = .ok (.goto (-30), 3) := by decide +kernel
theorem dX9_holds_54 : decode cX9_holds 54 = .ok (.iconst 1, 1) := by decide +kernel
theorem dX9_holds_55 : decode cX9_holds 55 = .ok (.ireturn, 1) := by decide +kernel
theorem dX9_firstPlaceOf_0 : decode cX9_firstPlaceOf 0 = .ok (.iload_n 2, 1) := by decide +kernel
theorem dX9_firstPlaceOf_1 : decode cX9_firstPlaceOf 1 = .ok (.istore_n 3, 1) := by decide +kernel
theorem dX9_firstPlaceOf_2 : decode cX9_firstPlaceOf 2 = .ok (.iload_n 3, 1) := by decide +kernel
theorem dX9_firstPlaceOf_3 : decode cX9_firstPlaceOf 3 = .ok (.aload_n 0, 1) := by decide +kernel
theorem dX9_firstPlaceOf_4 : decode cX9_firstPlaceOf 4 = .ok (.getfield 21, 3) := by decide +kernel
theorem dX9_firstPlaceOf_7 : decode cX9_firstPlaceOf 7 = .ok (.aload_n 1, 1) := by decide +kernel
theorem dX9_firstPlaceOf_8 : decode cX9_firstPlaceOf 8 = .ok (.getfield 21, 3) := by decide +kernel
theorem dX9_firstPlaceOf_11 : decode cX9_firstPlaceOf 11 = .ok (.isub, 1) := by decide +kernel
theorem dX9_firstPlaceOf_12 : decode cX9_firstPlaceOf 12 = .ok (.if_icmp .gt 20, 3) := by decide +kernel
theorem dX9_firstPlaceOf_15 : decode cX9_firstPlaceOf 15 = .ok (.aload_n 0, 1) := by decide +kernel
theorem dX9_firstPlaceOf_16 : decode cX9_firstPlaceOf 16 = .ok (.aload_n 1, 1) := by decide +kernel
theorem dX9_firstPlaceOf_17 : decode cX9_firstPlaceOf 17 = .ok (.iload_n 3, 1) := by decide +kernel
theorem dX9_firstPlaceOf_18 : decode cX9_firstPlaceOf 18 = .ok (.invokevirtual 39, 3) := by decide +kernel
theorem dX9_firstPlaceOf_21 : decode cX9_firstPlaceOf 21 = .ok (.ifCond .eq 5, 3) := by decide +kernel
theorem dX9_firstPlaceOf_24 : decode cX9_firstPlaceOf 24 = .ok (.iload_n 3, 1) := by decide +kernel
theorem dX9_firstPlaceOf_25 : decode cX9_firstPlaceOf 25 = .ok (.ireturn, 1) := by decide +kernel
theorem dX9_firstPlaceOf_26 : decode cX9_firstPlaceOf 26 = .ok (.iinc 3 1, 3) := by decide +kernel
theorem dX9_firstPlaceOf_29 : decode cX9_firstPlaceOf 29 = .ok (.goto (-27), 3) := by decide +kernel
theorem dX9_firstPlaceOf_32 : decode cX9_firstPlaceOf 32 = .ok (.iconst (-1), 1) := by decide +kernel
theorem dX9_firstPlaceOf_33 : decode cX9_firstPlaceOf 33 = .ok (.ireturn, 1) := by decide +kernel
theorem dX9_lastPlaceOf_0 : decode cX9_lastPlaceOf 0 = .ok (.aload_n 0, 1) := by decide +kernel
theorem dX9_lastPlaceOf_1 : decode cX9_lastPlaceOf 1 = .ok (.getfield 21, 3) := by decide +kernel
theorem dX9_lastPlaceOf_4 : decode cX9_lastPlaceOf 4 = .ok (.aload_n 1, 1) := by decide +kernel
theorem dX9_lastPlaceOf_5 : decode cX9_lastPlaceOf 5 = .ok (.getfield 21, 3) := by decide +kernel
theorem dX9_lastPlaceOf_8 : decode cX9_lastPlaceOf 8 = .ok (.isub, 1) := by decide +kernel
theorem dX9_lastPlaceOf_9 : decode cX9_lastPlaceOf 9 = .ok (.istore_n 2, 1) := by decide +kernel
theorem dX9_lastPlaceOf_10 : decode cX9_lastPlaceOf 10 = .ok (.iload_n 2, 1) := by decide +kernel
theorem dX9_lastPlaceOf_11 : decode cX9_lastPlaceOf 11 = .ok (.ifCond .lt 20, 3) := by decide +kernel
theorem dX9_lastPlaceOf_14 : decode cX9_lastPlaceOf 14 = .ok (.aload_n 0, 1) := by decide +kernel
theorem dX9_lastPlaceOf_15 : decode cX9_lastPlaceOf 15 = .ok (.aload_n 1, 1) := by decide +kernel
theorem dX9_lastPlaceOf_16 : decode cX9_lastPlaceOf 16 = .ok (.iload_n 2, 1) := by decide +kernel
theorem dX9_lastPlaceOf_17 : decode cX9_lastPlaceOf 17 = .ok (.invokevirtual 39, 3) := by decide +kernel
theorem dX9_lastPlaceOf_20 : decode cX9_lastPlaceOf 20 = .ok (.ifCond .eq 5, 3) := by decide +kernel
theorem dX9_lastPlaceOf_23 : decode cX9_lastPlaceOf 23 = .ok (.iload_n 2, 1) := by decide +kernel
theorem dX9_lastPlaceOf_24 : decode cX9_lastPlaceOf 24 = .ok (.ireturn, 1) := by decide +kernel
theorem dX9_lastPlaceOf_25 : decode cX9_lastPlaceOf 25 = .ok (.iinc 2 (-1), 3) := by decide +kernel
theorem dX9_lastPlaceOf_28 : decode cX9_lastPlaceOf 28 = .ok (.goto (-18), 3) := by decide +kernel
theorem dX9_lastPlaceOf_31 : decode cX9_lastPlaceOf 31 = .ok (.iconst (-1), 1) := by decide +kernel
theorem dX9_lastPlaceOf_32 : decode cX9_lastPlaceOf 32 = .ok (.ireturn, 1) := by decide +kernel
theorem dX10_set_0 : decode cX10_set 0 = .ok (.aload_n 0, 1) := by decide +kernel
theorem dX10_set_1 : decode cX10_set 1 = .ok (.aload_n 1, 1) := by decide +kernel
theorem dX10_set_2 : decode cX10_set 2 = .ok (.getfield 9, 3) := by decide +kernel
theorem dX10_set_5 : decode cX10_set 5 = .ok (.putfield 9, 3) := by decide +kernel
theorem dX10_set_8 : decode cX10_set 8 = .ok (.aload_n 0, 1) := by decide +kernel
theorem dX10_set_9 : decode cX10_set 9 = .ok (.aload_n 1, 1) := by decide +kernel
theorem dX10_set_10 : decode cX10_set 10 = .ok (.getfield 15, 3) := by decide +kernel
theorem dX10_set_13 : decode cX10_set 13 = .ok (.putfield 15, 3) := by decide +kernel
theorem dX10_set_16 : decode cX10_set 16 = .ok (.aload_n 0, 1) := by decide +kernel
theorem dX10_set_17 : decode cX10_set 17 = .ok (.aload_n 1, 1) := by decide +kernel
theorem dX10_set_18 : decode cX10_set 18 = .ok (.getfield 18, 3) := by decide +kernel
theorem dX10_set_21 : decode cX10_set 21 = .ok (.putfield 18, 3) := by decide +kernel
theorem dX10_set_24 : decode cX10_set 24 = .ok (.aload_n 0, 1) := by decide +kernel
theorem dX10_set_25 : decode cX10_set 25 = .ok (.aload_n 1, 1) := by decide +kernel
theorem dX10_set_26 : decode cX10_set 26 = .ok (.getfield 21, 3) := by decide +kernel
theorem dX10_set_29 : decode cX10_set 29 = .ok (.putfield 21, 3) := by decide +kernel
theorem dX10_set_32 : decode cX10_set 32 = .ok (.aload_n 0, 1) := by decide +kernel
theorem dX10_set_33 : decode cX10_set 33 = .ok (.aload_n 1, 1) := by decide +kernel
theorem dX10_set_34 : decode cX10_set 34 = .ok (.getfield 24, 3) := by decide +kernel
theorem dX10_set_37 : decode cX10_set 37 = .ok (.putfield 24, 3) := by decide +kernel
theorem dX10_set_40 : decode cX10_set 40 = .ok (.aload_n 0, 1) := by decide +kernel
theorem dX10_set_41 : decode cX10_set 41 = .ok (.aload_n 1, 1) := by decide +kernel
theorem dX10_set_42 : decode cX10_set 42 = .ok (.getfield 27, 3) := by decide +kernel
theorem dX10_set_45 : decode cX10_set 45 = .ok (.putfield 27, 3) := by decide +kernel
theorem dX10_set_48 : decode cX10_set 48 = .ok (.aload_n 0, 1) := by decide +kernel
theorem dX10_set_49 : decode cX10_set 49 = .ok (.aload_n 1, 1) := by decide +kernel
theorem dX10_set_50 : decode cX10_set 50 = .ok (.getfield 30, 3) := by decide +kernel
theorem dX10_set_53 : decode cX10_set 53 = .ok (.putfield 30, 3) := by decide +kernel
theorem dX10_set_56 : decode cX10_set 56 = .ok (.return_, 1) := by decide +kernel
theorem dX10_cost_0 : decode cX10_cost 0 = .ok (.aload_n 0, 1) := by decide +kernel
theorem dX10_cost_1 : decode cX10_cost 1 = .ok (.getfield 9, 3) := by decide +kernel
theorem dX10_cost_4 : decode cX10_cost 4 = .ok (.iconst (-1), 1) := by decide +kernel
theorem dX10_cost_5 : decode cX10_cost 5 = .ok (.if_icmp .ne 7, 3) := by decide +kernel
theorem dX10_cost_8 : decode cX10_cost 8 = .ok (.iconst 0, 1) := by decide +kernel
theorem dX10_cost_9 : decode cX10_cost 9 = .ok (.goto 4, 3) := by decide +kernel
theorem dX10_cost_12 : decode cX10_cost 12 = .ok (.iconst 2, 1) := by decide +kernel
theorem dX10_cost_13 : decode cX10_cost 13 = .ok (.aload_n 0, 1) := by decide +kernel
theorem dX10_cost_14 : decode cX10_cost 14 = .ok (.getfield 21, 3) := by decide +kernel
theorem dX10_cost_17 : decode cX10_cost 17 = .ok (.bipush (-2), 2) := by decide +kernel
theorem dX10_cost_19 : decode cX10_cost 19 = .ok (.if_icmp .ne 7, 3) := by decide +kernel
theorem dX10_cost_22 : decode cX10_cost 22 = .ok (.iconst 0, 1) := by decide +kernel
theorem dX10_cost_23 : decode cX10_cost 23 = .ok (.goto 16, 3) := by decide +kernel
theorem dX10_cost_26 : decode cX10_cost 26 = .ok (.aload_n 0, 1) := by decide +kernel
theorem dX10_cost_27 : decode cX10_cost 27 = .ok (.getfield 21, 3) := by decide +kernel
theorem dX10_cost_30 : decode cX10_cost 30 = .ok (.iconst (-1), 1) := by decide +kernel
theorem dX10_cost_31 : decode cX10_cost 31 = .ok (.if_icmp .ne 7, 3) := by decide +kernel
theorem dX10_cost_34 : decode cX10_cost 34 = .ok (.iconst 2, 1) := by decide +kernel
theorem dX10_cost_35 : decode cX10_cost 35 = .ok (.goto 4, 3) := by decide +kernel
theorem dX10_cost_38 : decode cX10_cost 38 = .ok (.iconst 3, 1) := by decide +kernel
theorem dX10_cost_39 : decode cX10_cost 39 = .ok (.iadd, 1) := by decide +kernel
theorem dX10_cost_40 : decode cX10_cost 40 = .ok (.aload_n 0, 1) := by decide +kernel
theorem dX10_cost_41 : decode cX10_cost 41 = .ok (.getfield 24, 3) := by decide +kernel
theorem dX10_cost_44 : decode cX10_cost 44 = .ok (.bipush (-2), 2) := by decide +kernel
theorem dX10_cost_46 : decode cX10_cost 46 = .ok (.if_icmp .ne 7, 3) := by decide +kernel
theorem dX10_cost_49 : decode cX10_cost 49 = .ok (.iconst 0, 1) := by decide +kernel
theorem dX10_cost_50 : decode cX10_cost 50 = .ok (.goto 17, 3) := by decide +kernel
theorem dX10_cost_53 : decode cX10_cost 53 = .ok (.aload_n 0, 1) := by decide +kernel
theorem dX10_cost_54 : decode cX10_cost 54 = .ok (.getfield 24, 3) := by decide +kernel
theorem dX10_cost_57 : decode cX10_cost 57 = .ok (.bipush 60, 2) := by decide +kernel
theorem dX10_cost_59 : decode cX10_cost 59 = .ok (.if_icmp .ne 7, 3) := by decide +kernel
theorem dX10_cost_62 : decode cX10_cost 62 = .ok (.iconst 4, 1) := by decide +kernel
theorem dX10_cost_63 : decode cX10_cost 63 = .ok (.goto 4, 3) := by decide +kernel
theorem dX10_cost_66 : decode cX10_cost 66 = .ok (.iconst 3, 1) := by decide +kernel
theorem dX10_cost_67 : decode cX10_cost 67 = .ok (.iadd, 1) := by decide +kernel
theorem dX10_cost_68 : decode cX10_cost 68 = .ok (.aload_n 0, 1) := by decide +kernel
theorem dX10_cost_69 : decode cX10_cost 69 = .ok (.getfield 27, 3) := by decide +kernel
theorem dX10_cost_72 : decode cX10_cost 72 = .ok (.iconst (-1), 1) := by decide +kernel
theorem dX10_cost_73 : decode cX10_cost 73 = .ok (.if_icmp .ne 7, 3) := by decide +kernel
theorem dX10_cost_76 : decode cX10_cost 76 = .ok (.iconst 0, 1) := by decide +kernel
theorem dX10_cost_77 : decode cX10_cost 77 = .ok (.goto 4, 3) := by decide +kernel
theorem dX10_cost_80 : decode cX10_cost 80 = .ok (.iconst 2, 1) := by decide +kernel
theorem dX10_cost_81 : decode cX10_cost 81 = .ok (.iadd, 1) := by decide +kernel
theorem dX10_cost_82 : decode cX10_cost 82 = .ok (.aload_n 0, 1) := by decide +kernel
theorem dX10_cost_83 : decode cX10_cost 83 = .ok (.getfield 30, 3) := by decide +kernel
theorem dX10_cost_86 : decode cX10_cost 86 = .ok (.iconst (-1), 1) := by decide +kernel
theorem dX10_cost_87 : decode cX10_cost 87 = .ok (.if_icmp .ne 7, 3) := by decide +kernel
theorem dX10_cost_90 : decode cX10_cost 90 = .ok (.iconst 0, 1) := by decide +kernel
theorem dX10_cost_91 : decode cX10_cost 91 = .ok (.goto 4, 3) := by decide +kernel
theorem dX10_cost_94 : decode cX10_cost 94 = .ok (.iconst 2, 1) := by decide +kernel
theorem dX10_cost_95 : decode cX10_cost 95 = .ok (.iadd, 1) := by decide +kernel
theorem dX10_cost_96 : decode cX10_cost 96 = .ok (.ireturn, 1) := by decide +kernel
theorem dX10_changes_0 : decode cX10_changes 0 = .ok (.aload_n 0, 1) := by decide +kernel
theorem dX10_changes_1 : decode cX10_changes 1 = .ok (.getfield 9, 3) := by decide +kernel
theorem dX10_changes_4 : decode cX10_changes 4 = .ok (.iconst (-1), 1) := by decide +kernel
theorem dX10_changes_5 : decode cX10_changes 5 = .ok (.if_icmp .ne 7, 3) := by decide +kernel
theorem dX10_changes_8 : decode cX10_changes 8 = .ok (.iconst 0, 1) := by decide +kernel
theorem dX10_changes_9 : decode cX10_changes 9 = .ok (.goto 4, 3) := by decide +kernel
theorem dX10_changes_12 : decode cX10_changes 12 = .ok (.iconst 1, 1) := by decide +kernel
theorem dX10_changes_13 : decode cX10_changes 13 = .ok (.aload_n 0, 1) := by decide +kernel
theorem dX10_changes_14 : decode cX10_changes 14 = .ok (.getfield 21, 3) := by decide +kernel
theorem dX10_changes_17 : decode cX10_changes 17 = .ok (.bipush (-2), 2) := by decide +kernel
theorem dX10_changes_19 : decode cX10_changes 19 = .ok (.if_icmp .ne 7, 3) := by decide +kernel
theorem dX10_changes_22 : decode cX10_changes 22 = .ok (.iconst 0, 1) := by decide +kernel
theorem dX10_changes_23 : decode cX10_changes 23 = .ok (.goto 4, 3) := by decide +kernel
theorem dX10_changes_26 : decode cX10_changes 26 = .ok (.iconst 1, 1) := by decide +kernel
theorem dX10_changes_27 : decode cX10_changes 27 = .ok (.iadd, 1) := by decide +kernel
theorem dX10_changes_28 : decode cX10_changes 28 = .ok (.aload_n 0, 1) := by decide +kernel
theorem dX10_changes_29 : decode cX10_changes 29 = .ok (.getfield 24, 3) := by decide +kernel
theorem dX10_changes_32 : decode cX10_changes 32 = .ok (.bipush (-2), 2) := by decide +kernel
theorem dX10_changes_34 : decode cX10_changes 34 = .ok (.if_icmp .ne 7, 3) := by decide +kernel
theorem dX10_changes_37 : decode cX10_changes 37 = .ok (.iconst 0, 1) := by decide +kernel
theorem dX10_changes_38 : decode cX10_changes 38 = .ok (.goto 4, 3) := by decide +kernel
theorem dX10_changes_41 : decode cX10_changes 41 = .ok (.iconst 1, 1) := by decide +kernel
theorem dX10_changes_42 : decode cX10_changes 42 = .ok (.iadd, 1) := by decide +kernel
theorem dX10_changes_43 : decode cX10_changes 43 = .ok (.aload_n 0, 1) := by decide +kernel
theorem dX10_changes_44 : decode cX10_changes 44 = .ok (.getfield 27, 3) := by decide +kernel
theorem dX10_changes_47 : decode cX10_changes 47 = .ok (.iconst (-1), 1) := by decide +kernel
theorem dX10_changes_48 : decode cX10_changes 48 = .ok (.if_icmp .ne 7, 3) := by decide +kernel
theorem dX10_changes_51 : decode cX10_changes 51 = .ok (.iconst 0, 1) := by decide +kernel
theorem dX10_changes_52 : decode cX10_changes 52 = .ok (.goto 4, 3) := by decide +kernel
theorem dX10_changes_55 : decode cX10_changes 55 = .ok (.iconst 1, 1) := by decide +kernel
theorem dX10_changes_56 : decode cX10_changes 56 = .ok (.iadd, 1) := by decide +kernel
theorem dX10_changes_57 : decode cX10_changes 57 = .ok (.aload_n 0, 1) := by decide +kernel
theorem dX10_changes_58 : decode cX10_changes 58 = .ok (.getfield 30, 3) := by decide +kernel
theorem dX10_changes_61 : decode cX10_changes 61 = .ok (.iconst (-1), 1) := by decide +kernel
theorem dX10_changes_62 : decode cX10_changes 62 = .ok (.if_icmp .ne 7, 3) := by decide +kernel
theorem dX10_changes_65 : decode cX10_changes 65 = .ok (.iconst 0, 1) := by decide +kernel
theorem dX10_changes_66 : decode cX10_changes 66 = .ok (.goto 4, 3) := by decide +kernel
theorem dX10_changes_69 : decode cX10_changes 69 = .ok (.iconst 1, 1) := by decide +kernel
theorem dX10_changes_70 : decode cX10_changes 70 = .ok (.iadd, 1) := by decide +kernel
theorem dX10_changes_71 : decode cX10_changes 71 = .ok (.ireturn, 1) := by decide +kernel
theorem dX11_placeOf_0 : decode cX11_placeOf 0 = .ok (.iload_n 0, 1) := by decide +kernel
theorem dX11_placeOf_1 : decode cX11_placeOf 1 = .ok (.bipush 30, 2) := by decide +kernel
theorem dX11_placeOf_3 : decode cX11_placeOf 3 = .ok (.imul, 1) := by decide +kernel
theorem dX11_placeOf_4 : decode cX11_placeOf 4 = .ok (.iload_n 1, 1) := by decide +kernel
theorem dX11_placeOf_5 : decode cX11_placeOf 5 = .ok (.bipush 6, 2) := by decide +kernel
theorem dX11_placeOf_7 : decode cX11_placeOf 7 = .ok (.imul, 1) := by decide +kernel
theorem dX11_placeOf_8 : decode cX11_placeOf 8 = .ok (.iadd, 1) := by decide +kernel
theorem dX11_placeOf_9 : decode cX11_placeOf 9 = .ok (.iload_n 2, 1) := by decide +kernel
theorem dX11_placeOf_10 : decode cX11_placeOf 10 = .ok (.iadd, 1) := by decide +kernel
theorem dX11_placeOf_11 : decode cX11_placeOf 11 = .ok (.ireturn, 1) := by decide +kernel
theorem dX11_verbOf_0 : decode cX11_verbOf 0 = .ok (.iload_n 0, 1) := by decide +kernel
theorem dX11_verbOf_1 : decode cX11_verbOf 1 = .ok (.bipush 30, 2) := by decide +kernel
theorem dX11_verbOf_3 : decode cX11_verbOf 3 = .ok (.idiv, 1) := by decide +kernel
theorem dX11_verbOf_4 : decode cX11_verbOf 4 = .ok (.ireturn, 1) := by decide +kernel
theorem dX11_tenseOf_0 : decode cX11_tenseOf 0 = .ok (.iload_n 0, 1) := by decide +kernel
theorem dX11_tenseOf_1 : decode cX11_tenseOf 1 = .ok (.bipush 30, 2) := by decide +kernel
theorem dX11_tenseOf_3 : decode cX11_tenseOf 3 = .ok (.irem, 1) := by decide +kernel
theorem dX11_tenseOf_4 : decode cX11_tenseOf 4 = .ok (.bipush 6, 2) := by decide +kernel
theorem dX11_tenseOf_6 : decode cX11_tenseOf 6 = .ok (.idiv, 1) := by decide +kernel
theorem dX11_tenseOf_7 : decode cX11_tenseOf 7 = .ok (.ireturn, 1) := by decide +kernel
theorem dX11_personOf_0 : decode cX11_personOf 0 = .ok (.iload_n 0, 1) := by decide +kernel
theorem dX11_personOf_1 : decode cX11_personOf 1 = .ok (.bipush 6, 2) := by decide +kernel
theorem dX11_personOf_3 : decode cX11_personOf 3 = .ok (.irem, 1) := by decide +kernel
theorem dX11_personOf_4 : decode cX11_personOf 4 = .ok (.ireturn, 1) := by decide +kernel
theorem dX11_tapeIsFormAt_0 : decode cX11_tapeIsFormAt 0 = .ok (.aload_n 0, 1) := by decide +kernel
theorem dX11_tapeIsFormAt_1 : decode cX11_tapeIsFormAt 1 = .ok (.getfield 28, 3) := by decide +kernel
theorem dX11_tapeIsFormAt_4 : decode cX11_tapeIsFormAt 4 = .ok (.aload_n 0, 1) := by decide +kernel
theorem dX11_tapeIsFormAt_5 : decode cX11_tapeIsFormAt 5 = .ok (.getfield 64, 3) := by decide +kernel
theorem dX11_tapeIsFormAt_8 : decode cX11_tapeIsFormAt 8 = .ok (.iload_n 1, 1) := by decide +kernel
theorem dX11_tapeIsFormAt_9 : decode cX11_tapeIsFormAt 9 = .ok (.invokestatic 195, 3) := by decide +kernel
theorem dX11_tapeIsFormAt_12 : decode cX11_tapeIsFormAt 12 = .ok (.iload_n 1, 1) := by decide +kernel
theorem dX11_tapeIsFormAt_13 : decode cX11_tapeIsFormAt 13 = .ok (.invokestatic 198, 3) := by decide +kernel
theorem dX11_tapeIsFormAt_16 : decode cX11_tapeIsFormAt 16 = .ok (.iload_n 1, 1) := by decide +kernel
theorem dX11_tapeIsFormAt_17 : decode cX11_tapeIsFormAt 17 = .ok (.invokestatic 201, 3) := by decide +kernel
theorem dX11_tapeIsFormAt_20 : decode cX11_tapeIsFormAt 20 = .ok (.invokevirtual 145, 3) := by decide +kernel
theorem dX11_tapeIsFormAt_23 : decode cX11_tapeIsFormAt 23 = .ok (.aload_n 0, 1) := by decide +kernel
theorem dX11_tapeIsFormAt_24 : decode cX11_tapeIsFormAt 24 = .ok (.getfield 28, 3) := by decide +kernel
theorem dX11_tapeIsFormAt_27 : decode cX11_tapeIsFormAt 27 = .ok (.getfield 149, 3) := by decide +kernel
theorem dX11_tapeIsFormAt_30 : decode cX11_tapeIsFormAt 30 = .ok (.aload_n 0, 1) := by decide +kernel
theorem dX11_tapeIsFormAt_31 : decode cX11_tapeIsFormAt 31 = .ok (.getfield 14, 3) := by decide +kernel
theorem dX11_tapeIsFormAt_34 : decode cX11_tapeIsFormAt 34 = .ok (.invokevirtual 226, 3) := by decide +kernel
theorem dX11_tapeIsFormAt_37 : decode cX11_tapeIsFormAt 37 = .ok (.iconst (-1), 1) := by decide +kernel
theorem dX11_tapeIsFormAt_38 : decode cX11_tapeIsFormAt 38 = .ok (.if_icmp .eq 7, 3) := by decide +kernel
theorem dX11_tapeIsFormAt_41 : decode cX11_tapeIsFormAt 41 = .ok (.iconst 1, 1) := by decide +kernel
theorem dX11_tapeIsFormAt_42 : decode cX11_tapeIsFormAt 42 = .ok (.goto 4, 3) := by decide +kernel
theorem dX11_tapeIsFormAt_45 : decode cX11_tapeIsFormAt 45 = .ok (.iconst 0, 1) := by decide +kernel
theorem dX11_tapeIsFormAt_46 : decode cX11_tapeIsFormAt 46 = .ok (.ireturn, 1) := by decide +kernel
theorem dX11_notePlace_0 : decode cX11_notePlace 0 = .ok (.aload_n 0, 1) := by decide +kernel
theorem dX11_notePlace_1 : decode cX11_notePlace 1 = .ok (.getfield 57, 3) := by decide +kernel
theorem dX11_notePlace_4 : decode cX11_notePlace 4 = .ok (.bipush 60, 2) := by decide +kernel
theorem dX11_notePlace_6 : decode cX11_notePlace 6 = .ok (.if_icmp .ge 23, 3) := by decide +kernel
theorem dX11_notePlace_9 : decode cX11_notePlace 9 = .ok (.aload_n 0, 1) := by decide +kernel
theorem dX11_notePlace_10 : decode cX11_notePlace 10 = .ok (.getfield 53, 3) := by decide +kernel
theorem dX11_notePlace_13 : decode cX11_notePlace 13 = .ok (.aload_n 0, 1) := by decide +kernel
theorem dX11_notePlace_14 : decode cX11_notePlace 14 = .ok (.getfield 57, 3) := by decide +kernel
theorem dX11_notePlace_17 : decode cX11_notePlace 17 = .ok (.iload_n 1, 1) := by decide +kernel
theorem dX11_notePlace_18 : decode cX11_notePlace 18 = .ok (.iastore, 1) := by decide +kernel
theorem dX11_notePlace_19 : decode cX11_notePlace 19 = .ok (.aload_n 0, 1) := by decide +kernel
theorem dX11_notePlace_20 : decode cX11_notePlace 20 = .ok (.dup, 1) := by decide +kernel
theorem dX11_notePlace_21 : decode cX11_notePlace 21 = .ok (.getfield 57, 3) := by decide +kernel
theorem dX11_notePlace_24 : decode cX11_notePlace 24 = .ok (.iconst 1, 1) := by decide +kernel
theorem dX11_notePlace_25 : decode cX11_notePlace 25 = .ok (.iadd, 1) := by decide +kernel
theorem dX11_notePlace_26 : decode cX11_notePlace 26 = .ok (.putfield 57, 3) := by decide +kernel
theorem dX11_notePlace_29 : decode cX11_notePlace 29 = .ok (.return_, 1) := by decide +kernel
theorem dX11_isSlipAt_0 : decode cX11_isSlipAt 0 = .ok (.aload_n 0, 1) := by decide +kernel
theorem dX11_isSlipAt_1 : decode cX11_isSlipAt 1 = .ok (.getfield 28, 3) := by decide +kernel
theorem dX11_isSlipAt_4 : decode cX11_isSlipAt 4 = .ok (.getfield 149, 3) := by decide +kernel
theorem dX11_isSlipAt_7 : decode cX11_isSlipAt 7 = .ok (.getfield 153, 3) := by decide +kernel
theorem dX11_isSlipAt_10 : decode cX11_isSlipAt 10 = .ok (.ifCond .le 23, 3) := by decide +kernel
theorem dX11_isSlipAt_13 : decode cX11_isSlipAt 13 = .ok (.aload_n 0, 1) := by decide +kernel
theorem dX11_isSlipAt_14 : decode cX11_isSlipAt 14 = .ok (.getfield 64, 3) := by decide +kernel
theorem dX11_isSlipAt_17 : decode cX11_isSlipAt 17 = .ok (.iconst 3, 1) := by decide +kernel
theorem dX11_isSlipAt_18 : decode cX11_isSlipAt 18 = .ok (.iconst 0, 1) := by decide +kernel
theorem dX11_isSlipAt_19 : decode cX11_isSlipAt 19 = .ok (.iload_n 1, 1) := by decide +kernel
theorem dX11_isSlipAt_20 : decode cX11_isSlipAt 20 = .ok (.iload_n 2, 1) := by decide +kernel
theorem dX11_isSlipAt_21 : decode cX11_isSlipAt 21 = .ok (.iload_n 3, 1) := by decide +kernel
theorem dX11_isSlipAt_22 : decode cX11_isSlipAt 22 = .ok (.invokevirtual 292, 3) := by decide +kernel
theorem dX11_isSlipAt_25 : decode cX11_isSlipAt 25 = .ok (.iconst (-1), 1) := by decide +kernel
theorem dX11_isSlipAt_26 : decode cX11_isSlipAt 26 = .ok (.if_icmp .ne 7, 3) := by decide +kernel
theorem dX11_isSlipAt_29 : decode cX11_isSlipAt 29 = .ok (.iconst 1, 1) := by decide +kernel
theorem dX11_isSlipAt_30 : decode cX11_isSlipAt 30 = .ok (.goto 4, 3) := by decide +kernel
theorem dX11_isSlipAt_33 : decode cX11_isSlipAt 33 = .ok (.iconst 0, 1) := by decide +kernel
theorem dX11_isSlipAt_34 : decode cX11_isSlipAt 34 = .ok (.ireturn, 1) := by decide +kernel
theorem dX13_wrong_0 : decode cX13_wrong 0 = .ok (.aload_n 0, 1) := by decide +kernel
theorem dX13_wrong_1 : decode cX13_wrong 1 = .ok (.iload_n 1, 1) := by decide +kernel
theorem dX13_wrong_2 : decode cX13_wrong 2 = .ok (.putfield 56, 3) := by decide +kernel
theorem dX13_wrong_5 : decode cX13_wrong 5 = .ok (.aload_n 0, 1) := by decide +kernel
theorem dX13_wrong_6 : decode cX13_wrong 6 = .ok (.aload_n 0, 1) := by decide +kernel
theorem dX13_wrong_7 : decode cX13_wrong 7 = .ok (.getfield 60, 3) := by decide +kernel
theorem dX13_wrong_10 : decode cX13_wrong 10 = .ok (.putfield 63, 3) := by decide +kernel
theorem dX13_wrong_13 : decode cX13_wrong 13 = .ok (.aload_n 0, 1) := by decide +kernel
theorem dX13_wrong_14 : decode cX13_wrong 14 = .ok (.getfield 66, 3) := by decide +kernel
theorem dX13_wrong_17 : decode cX13_wrong 17 = .ok (.areturn, 1) := by decide +kernel
theorem dX13_isFigure_0 : decode cX13_isFigure 0 = .ok (.iload_n 0, 1) := by decide +kernel
theorem dX13_isFigure_1 : decode cX13_isFigure 1 = .ok (.bipush 48, 2) := by decide +kernel
theorem dX13_isFigure_3 : decode cX13_isFigure 3 = .ok (.if_icmp .lt 13, 3) := by decide +kernel
theorem dX13_isFigure_6 : decode cX13_isFigure 6 = .ok (.iload_n 0, 1) := by decide +kernel
theorem dX13_isFigure_7 : decode cX13_isFigure 7 = .ok (.bipush 57, 2) := by decide +kernel
theorem dX13_isFigure_9 : decode cX13_isFigure 9 = .ok (.if_icmp .gt 7, 3) := by decide +kernel
theorem dX13_isFigure_12 : decode cX13_isFigure 12 = .ok (.iconst 1, 1) := by decide +kernel
theorem dX13_isFigure_13 : decode cX13_isFigure 13 = .ok (.goto 4, 3) := by decide +kernel
theorem dX13_isFigure_16 : decode cX13_isFigure 16 = .ok (.iconst 0, 1) := by decide +kernel
theorem dX13_isFigure_17 : decode cX13_isFigure 17 = .ok (.ireturn, 1) := by decide +kernel
theorem dX13_isSmall_0 : decode cX13_isSmall 0 = .ok (.iload_n 0, 1) := by decide +kernel
theorem dX13_isSmall_1 : decode cX13_isSmall 1 = .ok (.bipush 97, 2) := by decide +kernel
theorem dX13_isSmall_3 : decode cX13_isSmall 3 = .ok (.if_icmp .lt 13, 3) := by decide +kernel
theorem dX13_isSmall_6 : decode cX13_isSmall 6 = .ok (.iload_n 0, 1) := by decide +kernel
theorem dX13_isSmall_7 : decode cX13_isSmall 7 = .ok (.bipush 122, 2) := by decide +kernel
theorem dX13_isSmall_9 : decode cX13_isSmall 9 = .ok (.if_icmp .gt 7, 3) := by decide +kernel
theorem dX13_isSmall_12 : decode cX13_isSmall 12 = .ok (.iconst 1, 1) := by decide +kernel
theorem dX13_isSmall_13 : decode cX13_isSmall 13 = .ok (.goto 4, 3) := by decide +kernel
theorem dX13_isSmall_16 : decode cX13_isSmall 16 = .ok (.iconst 0, 1) := by decide +kernel
theorem dX13_isSmall_17 : decode cX13_isSmall 17 = .ok (.ireturn, 1) := by decide +kernel
theorem dX13_is_0 : decode cX13_is 0 = .ok (.aload_n 0, 1) := by decide +kernel
theorem dX13_is_1 : decode cX13_is 1 = .ok (.getfield 83, 3) := by decide +kernel
theorem dX13_is_4 : decode cX13_is 4 = .ok (.iconst 1, 1) := by decide +kernel
theorem dX13_is_5 : decode cX13_is 5 = .ok (.if_icmp .ne 23, 3) := by decide +kernel
theorem dX13_is_8 : decode cX13_is 8 = .ok (.aload_n 0, 1) := by decide +kernel
theorem dX13_is_9 : decode cX13_is 9 = .ok (.getfield 76, 3) := by decide +kernel
theorem dX13_is_12 : decode cX13_is 12 = .ok (.aload_n 0, 1) := by decide +kernel
theorem dX13_is_13 : decode cX13_is 13 = .ok (.getfield 60, 3) := by decide +kernel
theorem dX13_is_16 : decode cX13_is 16 = .ok (.isub, 1) := by decide +kernel
theorem dX13_is_17 : decode cX13_is 17 = .ok (.aload_n 1, 1) := by decide +kernel
theorem dX13_is_18 : decode cX13_is 18 = .ok (.invokevirtual 93, 3) := by decide +kernel
theorem dX13_is_21 : decode cX13_is 21 = .ok (.if_icmp .ne 7, 3) := by decide +kernel
theorem dX13_is_24 : decode cX13_is 24 = .ok (.iconst 1, 1) := by decide +kernel
theorem dX13_is_25 : decode cX13_is 25 = .ok (.goto 4, 3) := by decide +kernel
theorem dX13_is_28 : decode cX13_is 28 = .ok (.iconst 0, 1) := by decide +kernel
theorem dX13_is_29 : decode cX13_is 29 = .ok (.istore_n 2, 1) := by decide +kernel
theorem dX13_is_30 : decode cX13_is 30 = .ok (.iconst 0, 1) := by decide +kernel
theorem dX13_is_31 : decode cX13_is 31 = .ok (.istore_n 3, 1) := by decide +kernel
theorem dX13_is_32 : decode cX13_is 32 = .ok (.iload_n 3, 1) := by decide +kernel
theorem dX13_is_33 : decode cX13_is 33 = .ok (.aload_n 1, 1) := by decide +kernel
theorem dX13_is_34 : decode cX13_is 34 = .ok (.invokevirtual 93, 3) := by decide +kernel
theorem dX13_is_37 : decode cX13_is 37 = .ok (.if_icmp .ge 38, 3) := by decide +kernel
theorem dX13_is_40 : decode cX13_is 40 = .ok (.iload_n 2, 1) := by decide +kernel
theorem dX13_is_41 : decode cX13_is 41 = .ok (.ifCond .eq 34, 3) := by decide +kernel
theorem dX13_is_44 : decode cX13_is 44 = .ok (.aload_n 0, 1) := by decide +kernel
theorem dX13_is_45 : decode cX13_is 45 = .ok (.getfield 73, 3) := by decide +kernel
theorem dX13_is_48 : decode cX13_is 48 = .ok (.aload_n 0, 1) := by decide +kernel
theorem dX13_is_49 : decode cX13_is 49 = .ok (.getfield 60, 3) := by decide +kernel
theorem dX13_is_52 : decode cX13_is 52 = .ok (.iload_n 3, 1) := by decide +kernel
theorem dX13_is_53 : decode cX13_is 53 = .ok (.iadd, 1) := by decide +kernel
theorem dX13_is_54 : decode cX13_is 54 = .ok (.baload, 1) := by decide +kernel
theorem dX13_is_55 : decode cX13_is 55 = .ok (.aload_n 1, 1) := by decide +kernel
theorem dX13_is_56 : decode cX13_is 56 = .ok (.iload_n 3, 1) := by decide +kernel
theorem dX13_is_57 : decode cX13_is 57 = .ok (.invokevirtual 99, 3) := by decide +kernel
theorem dX13_is_60 : decode cX13_is 60 = .ok (.if_icmp .ne 7, 3) := by decide +kernel
theorem dX13_is_63 : decode cX13_is 63 = .ok (.iconst 1, 1) := by decide +kernel
theorem dX13_is_64 : decode cX13_is 64 = .ok (.goto 4, 3) := by decide +kernel
theorem dX13_is_67 : decode cX13_is 67 = .ok (.iconst 0, 1) := by decide +kernel
theorem dX13_is_68 : decode cX13_is 68 = .ok (.istore_n 2, 1) := by decide +kernel
theorem dX13_is_69 : decode cX13_is 69 = .ok (.iinc 3 1, 3) := by decide +kernel
theorem dX13_is_72 : decode cX13_is 72 = .ok (.goto (-40), 3) := by decide +kernel
theorem dX13_is_75 : decode cX13_is 75 = .ok (.iload_n 2, 1) := by decide +kernel
theorem dX13_is_76 : decode cX13_is 76 = .ok (.ireturn, 1) := by decide +kernel
theorem dX13_need_0 : decode cX13_need 0 = .ok (.aload_n 0, 1) := by decide +kernel
theorem dX13_need_1 : decode cX13_need 1 = .ok (.aload_n 1, 1) := by decide +kernel
theorem dX13_need_2 : decode cX13_need 2 = .ok (.invokevirtual 103, 3) := by decide +kernel
theorem dX13_need_5 : decode cX13_need 5 = .ok (.ifCond .ne 9, 3) := by decide +kernel
theorem dX13_need_8 : decode cX13_need 8 = .ok (.aload_n 0, 1) := by decide +kernel
theorem dX13_need_9 : decode cX13_need 9 = .ok (.iconst 1, 1) := by decide +kernel
theorem dX13_need_10 : decode cX13_need 10 = .ok (.invokevirtual 107, 3) := by decide +kernel
theorem dX13_need_13 : decode cX13_need 13 = .ok (.athrow, 1) := by decide +kernel
theorem dX13_need_14 : decode cX13_need 14 = .ok (.aload_n 0, 1) := by decide +kernel
theorem dX13_need_15 : decode cX13_need 15 = .ok (.invokevirtual 111, 3) := by decide +kernel
theorem dX13_need_18 : decode cX13_need 18 = .ok (.return_, 1) := by decide +kernel
theorem dX13_isKeyword_0 : decode cX13_isKeyword 0 = .ok (.aload_n 0, 1) := by decide +kernel
theorem dX13_isKeyword_1 : decode cX13_isKeyword 1 = .ok (.ldc 115, 2) := by decide +kernel
theorem dX13_isKeyword_3 : decode cX13_isKeyword 3 = .ok (.invokevirtual 103, 3) := by decide +kernel
theorem dX13_isKeyword_6 : decode cX13_isKeyword 6 = .ok (.ifCond .ne 75, 3) := by decide +kernel
theorem dX13_isKeyword_9 : decode cX13_isKeyword 9 = .ok (.aload_n 0, 1) := by decide +kernel
theorem dX13_isKeyword_10 : decode cX13_isKeyword 10 = .ok (.ldc 117, 2) := by decide +kernel
theorem dX13_isKeyword_12 : decode cX13_isKeyword 12 = .ok (.invokevirtual 103, 3) := by decide +kernel
theorem dX13_isKeyword_15 : decode cX13_isKeyword 15 = .ok (.ifCond .ne 66, 3) := by decide +kernel
theorem dX13_isKeyword_18 : decode cX13_isKeyword 18 = .ok (.aload_n 0, 1) := by decide +kernel
theorem dX13_isKeyword_19 : decode cX13_isKeyword 19 = .ok (.ldc 119, 2) := by decide +kernel
theorem dX13_isKeyword_21 : decode cX13_isKeyword 21 = .ok (.invokevirtual 103, 3) := by decide +kernel
theorem dX13_isKeyword_24 : decode cX13_isKeyword 24 = .ok (.ifCond .ne 57, 3) := by decide +kernel
theorem dX13_isKeyword_27 : decode cX13_isKeyword 27 = .ok (.aload_n 0, 1) := by decide +kernel
theorem dX13_isKeyword_28 : decode cX13_isKeyword 28 = .ok (.ldc 121, 2) := by decide +kernel
theorem dX13_isKeyword_30 : decode cX13_isKeyword 30 = .ok (.invokevirtual 103, 3) := by decide +kernel
theorem dX13_isKeyword_33 : decode cX13_isKeyword 33 = .ok (.ifCond .ne 48, 3) := by decide +kernel
theorem dX13_isKeyword_36 : decode cX13_isKeyword 36 = .ok (.aload_n 0, 1) := by decide +kernel
theorem dX13_isKeyword_37 : decode cX13_isKeyword 37 = .ok (.ldc 123, 2) := by decide +kernel
theorem dX13_isKeyword_39 : decode cX13_isKeyword 39 = .ok (.invokevirtual 103, 3) := by decide +kernel
theorem dX13_isKeyword_42 : decode cX13_isKeyword 42 = .ok (.ifCond .ne 39, 3) := by decide +kernel
theorem dX13_isKeyword_45 : decode cX13_isKeyword 45 = .ok (.aload_n 0, 1) := by decide +kernel
theorem dX13_isKeyword_46 : decode cX13_isKeyword 46 = .ok (.ldc 125, 2) := by decide +kernel
theorem dX13_isKeyword_48 : decode cX13_isKeyword 48 = .ok (.invokevirtual 103, 3) := by decide +kernel
theorem dX13_isKeyword_51 : decode cX13_isKeyword 51 = .ok (.ifCond .ne 30, 3) := by decide +kernel
theorem dX13_isKeyword_54 : decode cX13_isKeyword 54 = .ok (.aload_n 0, 1) := by decide +kernel
theorem dX13_isKeyword_55 : decode cX13_isKeyword 55 = .ok (.ldc 127, 2) := by decide +kernel
theorem dX13_isKeyword_57 : decode cX13_isKeyword 57 = .ok (.invokevirtual 103, 3) := by decide +kernel
theorem dX13_isKeyword_60 : decode cX13_isKeyword 60 = .ok (.ifCond .ne 21, 3) := by decide +kernel
theorem dX13_isKeyword_63 : decode cX13_isKeyword 63 = .ok (.aload_n 0, 1) := by decide +kernel
theorem dX13_isKeyword_64 : decode cX13_isKeyword 64 = .ok (.ldc 129, 2) := by decide +kernel
theorem dX13_isKeyword_66 : decode cX13_isKeyword 66 = .ok (.invokevirtual 103, 3) := by decide +kernel
theorem dX13_isKeyword_69 : decode cX13_isKeyword 69 = .ok (.ifCond .ne 12, 3) := by decide +kernel
theorem dX13_isKeyword_72 : decode cX13_isKeyword 72 = .ok (.aload_n 0, 1) := by decide +kernel
theorem dX13_isKeyword_73 : decode cX13_isKeyword 73 = .ok (.ldc 131, 2) := by decide +kernel
theorem dX13_isKeyword_75 : decode cX13_isKeyword 75 = .ok (.invokevirtual 103, 3) := by decide +kernel
theorem dX13_isKeyword_78 : decode cX13_isKeyword 78 = .ok (.ifCond .eq 7, 3) := by decide +kernel
theorem dX13_isKeyword_81 : decode cX13_isKeyword 81 = .ok (.iconst 1, 1) := by decide +kernel
theorem dX13_isKeyword_82 : decode cX13_isKeyword 82 = .ok (.goto 4, 3) := by decide +kernel
theorem dX13_isKeyword_85 : decode cX13_isKeyword 85 = .ok (.iconst 0, 1) := by decide +kernel
theorem dX13_isKeyword_86 : decode cX13_isKeyword 86 = .ok (.istore_n 1, 1) := by decide +kernel
theorem dX13_isKeyword_87 : decode cX13_isKeyword 87 = .ok (.iload_n 1, 1) := by decide +kernel
theorem dX13_isKeyword_88 : decode cX13_isKeyword 88 = .ok (.ifCond .ne 75, 3) := by decide +kernel
theorem dX13_isKeyword_91 : decode cX13_isKeyword 91 = .ok (.aload_n 0, 1) := by decide +kernel
theorem dX13_isKeyword_92 : decode cX13_isKeyword 92 = .ok (.ldc 133, 2) := by decide +kernel
theorem dX13_isKeyword_94 : decode cX13_isKeyword 94 = .ok (.invokevirtual 103, 3) := by decide +kernel
theorem dX13_isKeyword_97 : decode cX13_isKeyword 97 = .ok (.ifCond .ne 66, 3) := by decide +kernel
theorem dX13_isKeyword_100 : decode cX13_isKeyword 100 = .ok (.aload_n 0, 1) := by decide +kernel
theorem dX13_isKeyword_101 : decode cX13_isKeyword 101 = .ok (.ldc 134, 2) := by decide +kernel
theorem dX13_isKeyword_103 : decode cX13_isKeyword 103 = .ok (.invokevirtual 103, 3) := by decide +kernel
theorem dX13_isKeyword_106 : decode cX13_isKeyword 106 = .ok (.ifCond .ne 57, 3) := by decide +kernel
theorem dX13_isKeyword_109 : decode cX13_isKeyword 109 = .ok (.aload_n 0, 1) := by decide +kernel
theorem dX13_isKeyword_110 : decode cX13_isKeyword 110 = .ok (.ldc 136, 2) := by decide +kernel
theorem dX13_isKeyword_112 : decode cX13_isKeyword 112 = .ok (.invokevirtual 103, 3) := by decide +kernel
theorem dX13_isKeyword_115 : decode cX13_isKeyword 115 = .ok (.ifCond .ne 48, 3) := by decide +kernel
theorem dX13_isKeyword_118 : decode cX13_isKeyword 118 = .ok (.aload_n 0, 1) := by decide +kernel
theorem dX13_isKeyword_119 : decode cX13_isKeyword 119 = .ok (.ldc 137, 2) := by decide +kernel
theorem dX13_isKeyword_121 : decode cX13_isKeyword 121 = .ok (.invokevirtual 103, 3) := by decide +kernel
theorem dX13_isKeyword_124 : decode cX13_isKeyword 124 = .ok (.ifCond .ne 39, 3) := by decide +kernel
theorem dX13_isKeyword_127 : decode cX13_isKeyword 127 = .ok (.aload_n 0, 1) := by decide +kernel
theorem dX13_isKeyword_128 : decode cX13_isKeyword 128 = .ok (.ldc 139, 2) := by decide +kernel
theorem dX13_isKeyword_130 : decode cX13_isKeyword 130 = .ok (.invokevirtual 103, 3) := by decide +kernel
theorem dX13_isKeyword_133 : decode cX13_isKeyword 133 = .ok (.ifCond .ne 30, 3) := by decide +kernel
theorem dX13_isKeyword_136 : decode cX13_isKeyword 136 = .ok (.aload_n 0, 1) := by decide +kernel
theorem dX13_isKeyword_137 : decode cX13_isKeyword 137 = .ok (.ldc 141, 2) := by decide +kernel
theorem dX13_isKeyword_139 : decode cX13_isKeyword 139 = .ok (.invokevirtual 103, 3) := by decide +kernel
