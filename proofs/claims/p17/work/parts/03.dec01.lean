theorem dX11_line_5 : decode cX11_line 5 = .ok (.aload_n 0, 1) := by decide +kernel
theorem dX11_line_6 : decode cX11_line 6 = .ok (.getfield 64, 3) := by decide +kernel
theorem dX11_line_9 : decode cX11_line 9 = .ok (.getfield 87, 3) := by decide +kernel
theorem dX11_line_12 : decode cX11_line 12 = .ok (.if_icmp .lt 6, 3) := by decide +kernel
theorem dX11_line_15 : decode cX11_line 15 = .ok (.bipush (-9), 2) := by decide +kernel
theorem dX11_line_17 : decode cX11_line 17 = .ok (.ireturn, 1) := by decide +kernel
theorem dX11_line_18 : decode cX11_line 18 = .ok (.aload_n 0, 1) := by decide +kernel
theorem dX11_line_19 : decode cX11_line 19 = .ok (.getfield 64, 3) := by decide +kernel
theorem dX11_line_22 : decode cX11_line 22 = .ok (.getfield 110, 3) := by decide +kernel
theorem dX11_line_25 : decode cX11_line 25 = .ok (.iload_n 1, 1) := by decide +kernel
theorem dX11_line_26 : decode cX11_line 26 = .ok (.aaload, 1) := by decide +kernel
theorem dX11_line_27 : decode cX11_line 27 = .ok (.astore_n 3, 1) := by decide +kernel
theorem dX11_line_28 : decode cX11_line 28 = .ok (.iload_n 2, 1) := by decide +kernel
theorem dX11_line_29 : decode cX11_line 29 = .ok (.tableswitch 107 0 6 #[43, 48, 53, 58, 63, 71, 79], 43) := by decide +kernel
theorem dX11_line_72 : decode cX11_line 72 = .ok (.aload_n 3, 1) := by decide +kernel
theorem dX11_line_73 : decode cX11_line 73 = .ok (.getfield 114, 3) := by decide +kernel
theorem dX11_line_76 : decode cX11_line 76 = .ok (.ireturn, 1) := by decide +kernel
theorem dX11_line_77 : decode cX11_line 77 = .ok (.aload_n 3, 1) := by decide +kernel
theorem dX11_line_78 : decode cX11_line 78 = .ok (.getfield 119, 3) := by decide +kernel
theorem dX11_line_81 : decode cX11_line 81 = .ok (.ireturn, 1) := by decide +kernel
theorem dX11_line_82 : decode cX11_line 82 = .ok (.aload_n 3, 1) := by decide +kernel
theorem dX11_line_83 : decode cX11_line 83 = .ok (.getfield 122, 3) := by decide +kernel
theorem dX11_line_86 : decode cX11_line 86 = .ok (.ireturn, 1) := by decide +kernel
theorem dX11_line_87 : decode cX11_line 87 = .ok (.aload_n 3, 1) := by decide +kernel
theorem dX11_line_88 : decode cX11_line 88 = .ok (.getfield 125, 3) := by decide +kernel
theorem dX11_line_91 : decode cX11_line 91 = .ok (.ireturn, 1) := by decide +kernel
theorem dX11_line_92 : decode cX11_line 92 = .ok (.aload_n 3, 1) := by decide +kernel
theorem dX11_line_93 : decode cX11_line 93 = .ok (.getfield 128, 3) := by decide +kernel
theorem dX11_line_96 : decode cX11_line 96 = .ok (.getfield 71, 3) := by decide +kernel
theorem dX11_line_99 : decode cX11_line 99 = .ok (.ireturn, 1) := by decide +kernel
theorem dX11_line_100 : decode cX11_line 100 = .ok (.aload_n 3, 1) := by decide +kernel
theorem dX11_line_101 : decode cX11_line 101 = .ok (.getfield 131, 3) := by decide +kernel
theorem dX11_line_104 : decode cX11_line 104 = .ok (.getfield 71, 3) := by decide +kernel
theorem dX11_line_107 : decode cX11_line 107 = .ok (.ireturn, 1) := by decide +kernel
theorem dX11_line_108 : decode cX11_line 108 = .ok (.aload_n 3, 1) := by decide +kernel
theorem dX11_line_109 : decode cX11_line 109 = .ok (.getfield 114, 3) := by decide +kernel
theorem dX11_line_112 : decode cX11_line 112 = .ok (.iconst 3, 1) := by decide +kernel
theorem dX11_line_113 : decode cX11_line 113 = .ok (.if_icmp .ne 10, 3) := by decide +kernel
theorem dX11_line_116 : decode cX11_line 116 = .ok (.aload_n 3, 1) := by decide +kernel
theorem dX11_line_117 : decode cX11_line 117 = .ok (.getfield 134, 3) := by decide +kernel
theorem dX11_line_120 : decode cX11_line 120 = .ok (.goto 15, 3) := by decide +kernel
theorem dX11_line_123 : decode cX11_line 123 = .ok (.aload_n 3, 1) := by decide +kernel
theorem dX11_line_124 : decode cX11_line 124 = .ok (.getfield 137, 3) := by decide +kernel
theorem dX11_line_127 : decode cX11_line 127 = .ok (.ifCond .eq 7, 3) := by decide +kernel
theorem dX11_line_130 : decode cX11_line 130 = .ok (.iconst 1, 1) := by decide +kernel
theorem dX11_line_131 : decode cX11_line 131 = .ok (.goto 4, 3) := by decide +kernel
theorem dX11_line_134 : decode cX11_line 134 = .ok (.iconst 0, 1) := by decide +kernel
theorem dX11_line_135 : decode cX11_line 135 = .ok (.ireturn, 1) := by decide +kernel
theorem dX11_line_136 : decode cX11_line 136 = .ok (.bipush (-9), 2) := by decide +kernel
theorem dX11_line_138 : decode cX11_line 138 = .ok (.ireturn, 1) := by decide +kernel
theorem dX11_forms_0 : decode cX11_forms 0 = .ok (.aload_n 0, 1) := by decide +kernel
theorem dX11_forms_1 : decode cX11_forms 1 = .ok (.iload_n 1, 1) := by decide +kernel
theorem dX11_forms_2 : decode cX11_forms 2 = .ok (.iload_n 2, 1) := by decide +kernel
theorem dX11_forms_3 : decode cX11_forms 3 = .ok (.iload_n 3, 1) := by decide +kernel
theorem dX11_forms_4 : decode cX11_forms 4 = .ok (.invokevirtual 141, 3) := by decide +kernel
theorem dX11_forms_7 : decode cX11_forms 7 = .ok (.ifCond .ne 6, 3) := by decide +kernel
theorem dX11_forms_10 : decode cX11_forms 10 = .ok (.bipush (-2), 2) := by decide +kernel
theorem dX11_forms_12 : decode cX11_forms 12 = .ok (.ireturn, 1) := by decide +kernel
theorem dX11_forms_13 : decode cX11_forms 13 = .ok (.aload_n 0, 1) := by decide +kernel
theorem dX11_forms_14 : decode cX11_forms 14 = .ok (.getfield 28, 3) := by decide +kernel
theorem dX11_forms_17 : decode cX11_forms 17 = .ok (.aload_n 0, 1) := by decide +kernel
theorem dX11_forms_18 : decode cX11_forms 18 = .ok (.getfield 64, 3) := by decide +kernel
theorem dX11_forms_21 : decode cX11_forms 21 = .ok (.iload_n 1, 1) := by decide +kernel
theorem dX11_forms_22 : decode cX11_forms 22 = .ok (.iload_n 2, 1) := by decide +kernel
theorem dX11_forms_23 : decode cX11_forms 23 = .ok (.iload_n 3, 1) := by decide +kernel
theorem dX11_forms_24 : decode cX11_forms 24 = .ok (.invokevirtual 145, 3) := by decide +kernel
theorem dX11_forms_27 : decode cX11_forms 27 = .ok (.aload_n 0, 1) := by decide +kernel
theorem dX11_forms_28 : decode cX11_forms 28 = .ok (.getfield 28, 3) := by decide +kernel
theorem dX11_forms_31 : decode cX11_forms 31 = .ok (.getfield 149, 3) := by decide +kernel
theorem dX11_forms_34 : decode cX11_forms 34 = .ok (.getfield 153, 3) := by decide +kernel
theorem dX11_forms_37 : decode cX11_forms 37 = .ok (.ireturn, 1) := by decide +kernel
theorem dX11_form_0 : decode cX11_form 0 = .ok (.aload_n 0, 1) := by decide +kernel
theorem dX11_form_1 : decode cX11_form 1 = .ok (.iload_n 1, 1) := by decide +kernel
theorem dX11_form_2 : decode cX11_form 2 = .ok (.iload_n 2, 1) := by decide +kernel
theorem dX11_form_3 : decode cX11_form 3 = .ok (.iload_n 3, 1) := by decide +kernel
theorem dX11_form_4 : decode cX11_form 4 = .ok (.iload 4, 2) := by decide +kernel
theorem dX11_form_6 : decode cX11_form 6 = .ok (.invokevirtual 156, 3) := by decide +kernel
theorem dX11_form_9 : decode cX11_form 9 = .ok (.astore 6, 2) := by decide +kernel
theorem dX11_form_11 : decode cX11_form 11 = .ok (.aload 6, 2) := by decide +kernel
theorem dX11_form_13 : decode cX11_form 13 = .ok (.ifnonnull 7, 3) := by decide +kernel
theorem dX11_form_16 : decode cX11_form 16 = .ok (.iconst (-1), 1) := by decide +kernel
theorem dX11_form_17 : decode cX11_form 17 = .ok (.goto 13, 3) := by decide +kernel
theorem dX11_form_20 : decode cX11_form 20 = .ok (.aload 6, 2) := by decide +kernel
theorem dX11_form_22 : decode cX11_form 22 = .ok (.getfield 160, 3) := by decide +kernel
theorem dX11_form_25 : decode cX11_form 25 = .ok (.iload 5, 2) := by decide +kernel
theorem dX11_form_27 : decode cX11_form 27 = .ok (.invokevirtual 106, 3) := by decide +kernel
theorem dX11_form_30 : decode cX11_form 30 = .ok (.ireturn, 1) := by decide +kernel
theorem dX11_row_0 : decode cX11_row 0 = .ok (.aload_n 0, 1) := by decide +kernel
theorem dX11_row_1 : decode cX11_row 1 = .ok (.iload_n 1, 1) := by decide +kernel
theorem dX11_row_2 : decode cX11_row 2 = .ok (.iload_n 2, 1) := by decide +kernel
theorem dX11_row_3 : decode cX11_row 3 = .ok (.iload_n 3, 1) := by decide +kernel
theorem dX11_row_4 : decode cX11_row 4 = .ok (.iload 4, 2) := by decide +kernel
theorem dX11_row_6 : decode cX11_row 6 = .ok (.invokevirtual 156, 3) := by decide +kernel
theorem dX11_row_9 : decode cX11_row 9 = .ok (.astore 6, 2) := by decide +kernel
theorem dX11_row_11 : decode cX11_row 11 = .ok (.aload 6, 2) := by decide +kernel
theorem dX11_row_13 : decode cX11_row 13 = .ok (.ifnonnull 7, 3) := by decide +kernel
theorem dX11_row_16 : decode cX11_row 16 = .ok (.iconst (-1), 1) := by decide +kernel
theorem dX11_row_17 : decode cX11_row 17 = .ok (.goto 10, 3) := by decide +kernel
theorem dX11_row_20 : decode cX11_row 20 = .ok (.aload 6, 2) := by decide +kernel
theorem dX11_row_22 : decode cX11_row 22 = .ok (.iload 5, 2) := by decide +kernel
theorem dX11_row_24 : decode cX11_row 24 = .ok (.invokevirtual 165, 3) := by decide +kernel
theorem dX11_row_27 : decode cX11_row 27 = .ok (.ireturn, 1) := by decide +kernel
theorem dX11_rivals_0 : decode cX11_rivals 0 = .ok (.aload_n 0, 1) := by decide +kernel
theorem dX11_rivals_1 : decode cX11_rivals 1 = .ok (.iload_n 1, 1) := by decide +kernel
theorem dX11_rivals_2 : decode cX11_rivals 2 = .ok (.iload_n 2, 1) := by decide +kernel
theorem dX11_rivals_3 : decode cX11_rivals 3 = .ok (.iload_n 3, 1) := by decide +kernel
theorem dX11_rivals_4 : decode cX11_rivals 4 = .ok (.invokevirtual 141, 3) := by decide +kernel
theorem dX11_rivals_7 : decode cX11_rivals 7 = .ok (.ifCond .ne 6, 3) := by decide +kernel
theorem dX11_rivals_10 : decode cX11_rivals 10 = .ok (.bipush (-2), 2) := by decide +kernel
theorem dX11_rivals_12 : decode cX11_rivals 12 = .ok (.ireturn, 1) := by decide +kernel
theorem dX11_rivals_13 : decode cX11_rivals 13 = .ok (.iconst 0, 1) := by decide +kernel
theorem dX11_rivals_14 : decode cX11_rivals 14 = .ok (.istore 4, 2) := by decide +kernel
theorem dX11_rivals_16 : decode cX11_rivals 16 = .ok (.iconst 0, 1) := by decide +kernel
theorem dX11_rivals_17 : decode cX11_rivals 17 = .ok (.istore 5, 2) := by decide +kernel
theorem dX11_rivals_19 : decode cX11_rivals 19 = .ok (.iload 5, 2) := by decide +kernel
theorem dX11_rivals_21 : decode cX11_rivals 21 = .ok (.aload_n 0, 1) := by decide +kernel
theorem dX11_rivals_22 : decode cX11_rivals 22 = .ok (.getfield 64, 3) := by decide +kernel
theorem dX11_rivals_25 : decode cX11_rivals 25 = .ok (.getfield 87, 3) := by decide +kernel
theorem dX11_rivals_28 : decode cX11_rivals 28 = .ok (.if_icmp .ge 44, 3) := by decide +kernel
theorem dX11_rivals_31 : decode cX11_rivals 31 = .ok (.aload_n 0, 1) := by decide +kernel
theorem dX11_rivals_32 : decode cX11_rivals 32 = .ok (.getfield 64, 3) := by decide +kernel
theorem dX11_rivals_35 : decode cX11_rivals 35 = .ok (.getfield 110, 3) := by decide +kernel
theorem dX11_rivals_38 : decode cX11_rivals 38 = .ok (.iload 5, 2) := by decide +kernel
theorem dX11_rivals_40 : decode cX11_rivals 40 = .ok (.aaload, 1) := by decide +kernel
theorem dX11_rivals_41 : decode cX11_rivals 41 = .ok (.getfield 114, 3) := by decide +kernel
theorem dX11_rivals_44 : decode cX11_rivals 44 = .ok (.iconst 1, 1) := by decide +kernel
theorem dX11_rivals_45 : decode cX11_rivals 45 = .ok (.if_icmp .ne 21, 3) := by decide +kernel
theorem dX11_rivals_48 : decode cX11_rivals 48 = .ok (.aload_n 0, 1) := by decide +kernel
theorem dX11_rivals_49 : decode cX11_rivals 49 = .ok (.getfield 64, 3) := by decide +kernel
theorem dX11_rivals_52 : decode cX11_rivals 52 = .ok (.iload 5, 2) := by decide +kernel
theorem dX11_rivals_54 : decode cX11_rivals 54 = .ok (.iload_n 1, 1) := by decide +kernel
theorem dX11_rivals_55 : decode cX11_rivals 55 = .ok (.iload_n 2, 1) := by decide +kernel
theorem dX11_rivals_56 : decode cX11_rivals 56 = .ok (.iload_n 3, 1) := by decide +kernel
theorem dX11_rivals_57 : decode cX11_rivals 57 = .ok (.invokevirtual 168, 3) := by decide +kernel
theorem dX11_rivals_60 : decode cX11_rivals 60 = .ok (.ifCond .eq 6, 3) := by decide +kernel
theorem dX11_rivals_63 : decode cX11_rivals 63 = .ok (.iinc 4 1, 3) := by decide +kernel
theorem dX11_rivals_66 : decode cX11_rivals 66 = .ok (.iinc 5 1, 3) := by decide +kernel
theorem dX11_rivals_69 : decode cX11_rivals 69 = .ok (.goto (-50), 3) := by decide +kernel
theorem dX11_rivals_72 : decode cX11_rivals 72 = .ok (.iload 4, 2) := by decide +kernel
theorem dX11_rivals_74 : decode cX11_rivals 74 = .ok (.ireturn, 1) := by decide +kernel
theorem dX11_read_0 : decode cX11_read 0 = .ok (.aload_n 0, 1) := by decide +kernel
theorem dX11_read_1 : decode cX11_read 1 = .ok (.getfield 35, 3) := by decide +kernel
theorem dX11_read_4 : decode cX11_read 4 = .ok (.aload_n 0, 1) := by decide +kernel
theorem dX11_read_5 : decode cX11_read 5 = .ok (.getfield 64, 3) := by decide +kernel
theorem dX11_read_8 : decode cX11_read 8 = .ok (.aload_n 0, 1) := by decide +kernel
theorem dX11_read_9 : decode cX11_read 9 = .ok (.getfield 28, 3) := by decide +kernel
theorem dX11_read_12 : decode cX11_read 12 = .ok (.invokevirtual 172, 3) := by decide +kernel
theorem dX11_read_15 : decode cX11_read 15 = .ok (.aload_n 0, 1) := by decide +kernel
theorem dX11_read_16 : decode cX11_read 16 = .ok (.getfield 14, 3) := by decide +kernel
theorem dX11_read_19 : decode cX11_read 19 = .ok (.invokevirtual 176, 3) := by decide +kernel
theorem dX11_read_22 : decode cX11_read 22 = .ok (.lstore_n 1, 1) := by decide +kernel
theorem dX11_read_23 : decode cX11_read 23 = .ok (.iconst 0, 1) := by decide +kernel
theorem dX11_read_24 : decode cX11_read 24 = .ok (.istore_n 3, 1) := by decide +kernel
theorem dX11_read_25 : decode cX11_read 25 = .ok (.aload_n 0, 1) := by decide +kernel
theorem dX11_read_26 : decode cX11_read 26 = .ok (.iconst 0, 1) := by decide +kernel
theorem dX11_read_27 : decode cX11_read 27 = .ok (.putfield 57, 3) := by decide +kernel
theorem dX11_read_30 : decode cX11_read 30 = .ok (.iconst 0, 1) := by decide +kernel
theorem dX11_read_31 : decode cX11_read 31 = .ok (.istore 4, 2) := by decide +kernel
theorem dX11_read_33 : decode cX11_read 33 = .ok (.iload 4, 2) := by decide +kernel
theorem dX11_read_35 : decode cX11_read 35 = .ok (.aload_n 0, 1) := by decide +kernel
theorem dX11_read_36 : decode cX11_read 36 = .ok (.getfield 64, 3) := by decide +kernel
theorem dX11_read_39 : decode cX11_read 39 = .ok (.invokevirtual 180, 3) := by decide +kernel
theorem dX11_read_42 : decode cX11_read 42 = .ok (.if_icmp .ge 40, 3) := by decide +kernel
theorem dX11_read_45 : decode cX11_read 45 = .ok (.aload_n 0, 1) := by decide +kernel
theorem dX11_read_46 : decode cX11_read 46 = .ok (.getfield 35, 3) := by decide +kernel
theorem dX11_read_49 : decode cX11_read 49 = .ok (.iload 4, 2) := by decide +kernel
theorem dX11_read_51 : decode cX11_read 51 = .ok (.lload_n 1, 1) := by decide +kernel
theorem dX11_read_52 : decode cX11_read 52 = .ok (.invokevirtual 184, 3) := by decide +kernel
theorem dX11_read_55 : decode cX11_read 55 = .ok (.ifCond .eq 21, 3) := by decide +kernel
theorem dX11_read_58 : decode cX11_read 58 = .ok (.aload_n 0, 1) := by decide +kernel
theorem dX11_read_59 : decode cX11_read 59 = .ok (.iload 4, 2) := by decide +kernel
theorem dX11_read_61 : decode cX11_read 61 = .ok (.invokevirtual 188, 3) := by decide +kernel
theorem dX11_read_64 : decode cX11_read 64 = .ok (.ifCond .eq 12, 3) := by decide +kernel
theorem dX11_read_67 : decode cX11_read 67 = .ok (.iinc 3 1, 3) := by decide +kernel
theorem dX11_read_70 : decode cX11_read 70 = .ok (.aload_n 0, 1) := by decide +kernel
theorem dX11_read_71 : decode cX11_read 71 = .ok (.iload 4, 2) := by decide +kernel
theorem dX11_read_73 : decode cX11_read 73 = .ok (.invokevirtual 192, 3) := by decide +kernel
theorem dX11_read_76 : decode cX11_read 76 = .ok (.iinc 4 1, 3) := by decide +kernel
theorem dX11_read_79 : decode cX11_read 79 = .ok (.goto (-46), 3) := by decide +kernel
theorem dX11_read_82 : decode cX11_read 82 = .ok (.aload_n 0, 1) := by decide +kernel
theorem dX11_read_83 : decode cX11_read 83 = .ok (.getfield 14, 3) := by decide +kernel
theorem dX11_read_86 : decode cX11_read 86 = .ok (.invokevirtual 81, 3) := by decide +kernel
theorem dX11_read_89 : decode cX11_read 89 = .ok (.iload_n 3, 1) := by decide +kernel
theorem dX11_read_90 : decode cX11_read 90 = .ok (.ireturn, 1) := by decide +kernel
theorem dX11_place_0 : decode cX11_place 0 = .ok (.iload_n 1, 1) := by decide +kernel
theorem dX11_place_1 : decode cX11_place 1 = .ok (.ifCond .lt 11, 3) := by decide +kernel
theorem dX11_place_4 : decode cX11_place 4 = .ok (.iload_n 1, 1) := by decide +kernel
theorem dX11_place_5 : decode cX11_place 5 = .ok (.aload_n 0, 1) := by decide +kernel
theorem dX11_place_6 : decode cX11_place 6 = .ok (.getfield 57, 3) := by decide +kernel
theorem dX11_place_9 : decode cX11_place 9 = .ok (.if_icmp .lt 5, 3) := by decide +kernel
theorem dX11_place_12 : decode cX11_place 12 = .ok (.iconst (-1), 1) := by decide +kernel
theorem dX11_place_13 : decode cX11_place 13 = .ok (.ireturn, 1) := by decide +kernel
theorem dX11_place_14 : decode cX11_place 14 = .ok (.iload_n 2, 1) := by decide +kernel
theorem dX11_place_15 : decode cX11_place 15 = .ok (.tableswitch 55 0 2 #[25, 35, 45], 25) := by decide +kernel
theorem dX11_place_40 : decode cX11_place 40 = .ok (.aload_n 0, 1) := by decide +kernel
theorem dX11_place_41 : decode cX11_place 41 = .ok (.getfield 53, 3) := by decide +kernel
theorem dX11_place_44 : decode cX11_place 44 = .ok (.iload_n 1, 1) := by decide +kernel
theorem dX11_place_45 : decode cX11_place 45 = .ok (.iaload, 1) := by decide +kernel
theorem dX11_place_46 : decode cX11_place 46 = .ok (.invokestatic 195, 3) := by decide +kernel
theorem dX11_place_49 : decode cX11_place 49 = .ok (.ireturn, 1) := by decide +kernel
theorem dX11_place_50 : decode cX11_place 50 = .ok (.aload_n 0, 1) := by decide +kernel
theorem dX11_place_51 : decode cX11_place 51 = .ok (.getfield 53, 3) := by decide +kernel
theorem dX11_place_54 : decode cX11_place 54 = .ok (.iload_n 1, 1) := by decide +kernel
theorem dX11_place_55 : decode cX11_place 55 = .ok (.iaload, 1) := by decide +kernel
theorem dX11_place_56 : decode cX11_place 56 = .ok (.invokestatic 198, 3) := by decide +kernel
theorem dX11_place_59 : decode cX11_place 59 = .ok (.ireturn, 1) := by decide +kernel
theorem dX11_place_60 : decode cX11_place 60 = .ok (.aload_n 0, 1) := by decide +kernel
theorem dX11_place_61 : decode cX11_place 61 = .ok (.getfield 53, 3) := by decide +kernel
theorem dX11_place_64 : decode cX11_place 64 = .ok (.iload_n 1, 1) := by decide +kernel
theorem dX11_place_65 : decode cX11_place 65 = .ok (.iaload, 1) := by decide +kernel
theorem dX11_place_66 : decode cX11_place 66 = .ok (.invokestatic 201, 3) := by decide +kernel
theorem dX11_place_69 : decode cX11_place 69 = .ok (.ireturn, 1) := by decide +kernel
theorem dX11_place_70 : decode cX11_place 70 = .ok (.iconst (-1), 1) := by decide +kernel
theorem dX11_place_71 : decode cX11_place 71 = .ok (.ireturn, 1) := by decide +kernel
theorem dX11_unused_0 : decode cX11_unused 0 = .ok (.aload_n 0, 1) := by decide +kernel
theorem dX11_unused_1 : decode cX11_unused 1 = .ok (.getfield 35, 3) := by decide +kernel
theorem dX11_unused_4 : decode cX11_unused 4 = .ok (.aload_n 0, 1) := by decide +kernel
theorem dX11_unused_5 : decode cX11_unused 5 = .ok (.getfield 64, 3) := by decide +kernel
theorem dX11_unused_8 : decode cX11_unused 8 = .ok (.aload_n 0, 1) := by decide +kernel
theorem dX11_unused_9 : decode cX11_unused 9 = .ok (.getfield 28, 3) := by decide +kernel
theorem dX11_unused_12 : decode cX11_unused 12 = .ok (.invokevirtual 172, 3) := by decide +kernel
theorem dX11_unused_15 : decode cX11_unused 15 = .ok (.aload_n 0, 1) := by decide +kernel
theorem dX11_unused_16 : decode cX11_unused 16 = .ok (.getfield 64, 3) := by decide +kernel
theorem dX11_unused_19 : decode cX11_unused 19 = .ok (.getfield 87, 3) := by decide +kernel
theorem dX11_unused_22 : decode cX11_unused 22 = .ok (.aload_n 0, 1) := by decide +kernel
theorem dX11_unused_23 : decode cX11_unused 23 = .ok (.getfield 35, 3) := by decide +kernel
theorem dX11_unused_26 : decode cX11_unused 26 = .ok (.aload_n 0, 1) := by decide +kernel
theorem dX11_unused_27 : decode cX11_unused 27 = .ok (.getfield 64, 3) := by decide +kernel
theorem dX11_unused_30 : decode cX11_unused 30 = .ok (.invokevirtual 180, 3) := by decide +kernel
theorem dX11_unused_33 : decode cX11_unused 33 = .ok (.invokevirtual 204, 3) := by decide +kernel
theorem dX11_unused_36 : decode cX11_unused 36 = .ok (.invokestatic 208, 3) := by decide +kernel
theorem dX11_unused_39 : decode cX11_unused 39 = .ok (.isub, 1) := by decide +kernel
theorem dX11_unused_40 : decode cX11_unused 40 = .ok (.ireturn, 1) := by decide +kernel
theorem dX11_users_0 : decode cX11_users 0 = .ok (.iload_n 1, 1) := by decide +kernel
theorem dX11_users_1 : decode cX11_users 1 = .ok (.ifCond .lt 14, 3) := by decide +kernel
theorem dX11_users_4 : decode cX11_users 4 = .ok (.iload_n 1, 1) := by decide +kernel
theorem dX11_users_5 : decode cX11_users 5 = .ok (.aload_n 0, 1) := by decide +kernel
theorem dX11_users_6 : decode cX11_users 6 = .ok (.getfield 64, 3) := by decide +kernel
theorem dX11_users_9 : decode cX11_users 9 = .ok (.getfield 87, 3) := by decide +kernel
theorem dX11_users_12 : decode cX11_users 12 = .ok (.if_icmp .lt 6, 3) := by decide +kernel
theorem dX11_users_15 : decode cX11_users 15 = .ok (.bipush (-2), 2) := by decide +kernel
theorem dX11_users_17 : decode cX11_users 17 = .ok (.ireturn, 1) := by decide +kernel
theorem dX11_users_18 : decode cX11_users 18 = .ok (.aload_n 0, 1) := by decide +kernel
theorem dX11_users_19 : decode cX11_users 19 = .ok (.getfield 35, 3) := by decide +kernel
theorem dX11_users_22 : decode cX11_users 22 = .ok (.aload_n 0, 1) := by decide +kernel
theorem dX11_users_23 : decode cX11_users 23 = .ok (.getfield 64, 3) := by decide +kernel
theorem dX11_users_26 : decode cX11_users 26 = .ok (.aload_n 0, 1) := by decide +kernel
theorem dX11_users_27 : decode cX11_users 27 = .ok (.getfield 28, 3) := by decide +kernel
theorem dX11_users_30 : decode cX11_users 30 = .ok (.invokevirtual 172, 3) := by decide +kernel
theorem dX11_users_33 : decode cX11_users 33 = .ok (.aload_n 0, 1) := by decide +kernel
theorem dX11_users_34 : decode cX11_users 34 = .ok (.getfield 35, 3) := by decide +kernel
theorem dX11_users_37 : decode cX11_users 37 = .ok (.iload_n 1, 1) := by decide +kernel
theorem dX11_users_38 : decode cX11_users 38 = .ok (.aload_n 0, 1) := by decide +kernel
theorem dX11_users_39 : decode cX11_users 39 = .ok (.getfield 64, 3) := by decide +kernel
theorem dX11_users_42 : decode cX11_users 42 = .ok (.invokevirtual 180, 3) := by decide +kernel
theorem dX11_users_45 : decode cX11_users 45 = .ok (.invokevirtual 214, 3) := by decide +kernel
theorem dX11_users_48 : decode cX11_users 48 = .ok (.ireturn, 1) := by decide +kernel
theorem dX11_answer_0 : decode cX11_answer 0 = .ok (.bipush (-2), 2) := by decide +kernel
theorem dX11_answer_2 : decode cX11_answer 2 = .ok (.istore 5, 2) := by decide +kernel
theorem dX11_answer_4 : decode cX11_answer 4 = .ok (.iload_n 1, 1) := by decide +kernel
theorem dX11_answer_5 : decode cX11_answer 5 = .ok (.invokestatic 218, 3) := by decide +kernel
theorem dX11_answer_8 : decode cX11_answer 8 = .ok (.ifCond .eq 168, 3) := by decide +kernel
theorem dX11_answer_11 : decode cX11_answer 11 = .ok (.aload_n 0, 1) := by decide +kernel
theorem dX11_answer_12 : decode cX11_answer 12 = .ok (.iload_n 2, 1) := by decide +kernel
theorem dX11_answer_13 : decode cX11_answer 13 = .ok (.iload_n 3, 1) := by decide +kernel
theorem dX11_answer_14 : decode cX11_answer 14 = .ok (.iload 4, 2) := by decide +kernel
theorem dX11_answer_16 : decode cX11_answer 16 = .ok (.invokevirtual 141, 3) := by decide +kernel
theorem dX11_answer_19 : decode cX11_answer 19 = .ok (.ifCond .eq 157, 3) := by decide +kernel
theorem dX11_answer_22 : decode cX11_answer 22 = .ok (.aload_n 0, 1) := by decide +kernel
theorem dX11_answer_23 : decode cX11_answer 23 = .ok (.getfield 48, 3) := by decide +kernel
theorem dX11_answer_26 : decode cX11_answer 26 = .ok (.iload_n 1, 1) := by decide +kernel
theorem dX11_answer_27 : decode cX11_answer 27 = .ok (.aaload, 1) := by decide +kernel
theorem dX11_answer_28 : decode cX11_answer 28 = .ok (.iload_n 2, 1) := by decide +kernel
theorem dX11_answer_29 : decode cX11_answer 29 = .ok (.iload_n 3, 1) := by decide +kernel
theorem dX11_answer_30 : decode cX11_answer 30 = .ok (.iload 4, 2) := by decide +kernel
theorem dX11_answer_32 : decode cX11_answer 32 = .ok (.invokestatic 221, 3) := by decide +kernel
theorem dX11_answer_35 : decode cX11_answer 35 = .ok (.invokevirtual 225, 3) := by decide +kernel
theorem dX11_answer_38 : decode cX11_answer 38 = .ok (.aload_n 0, 1) := by decide +kernel
theorem dX11_answer_39 : decode cX11_answer 39 = .ok (.getfield 28, 3) := by decide +kernel
theorem dX11_answer_42 : decode cX11_answer 42 = .ok (.aload_n 0, 1) := by decide +kernel
theorem dX11_answer_43 : decode cX11_answer 43 = .ok (.getfield 64, 3) := by decide +kernel
theorem dX11_answer_46 : decode cX11_answer 46 = .ok (.iload_n 2, 1) := by decide +kernel
theorem dX11_answer_47 : decode cX11_answer 47 = .ok (.iload_n 3, 1) := by decide +kernel
theorem dX11_answer_48 : decode cX11_answer 48 = .ok (.iload 4, 2) := by decide +kernel
theorem dX11_answer_50 : decode cX11_answer 50 = .ok (.invokevirtual 145, 3) := by decide +kernel
theorem dX11_answer_53 : decode cX11_answer 53 = .ok (.aload_n 0, 1) := by decide +kernel
theorem dX11_answer_54 : decode cX11_answer 54 = .ok (.getfield 28, 3) := by decide +kernel
theorem dX11_answer_57 : decode cX11_answer 57 = .ok (.getfield 149, 3) := by decide +kernel
theorem dX11_answer_60 : decode cX11_answer 60 = .ok (.aload_n 0, 1) := by decide +kernel
theorem dX11_answer_61 : decode cX11_answer 61 = .ok (.getfield 28, 3) := by decide +kernel
theorem dX11_answer_64 : decode cX11_answer 64 = .ok (.getfield 149, 3) := by decide +kernel
theorem dX11_answer_67 : decode cX11_answer 67 = .ok (.aload_n 0, 1) := by decide +kernel
theorem dX11_answer_68 : decode cX11_answer 68 = .ok (.getfield 14, 3) := by decide +kernel
theorem dX11_answer_71 : decode cX11_answer 71 = .ok (.invokevirtual 226, 3) := by decide +kernel
theorem dX11_answer_74 : decode cX11_answer 74 = .ok (.invokevirtual 230, 3) := by decide +kernel
theorem dX11_answer_77 : decode cX11_answer 77 = .ok (.astore 6, 2) := by decide +kernel
theorem dX11_answer_79 : decode cX11_answer 79 = .ok (.aload 6, 2) := by decide +kernel
theorem dX11_answer_81 : decode cX11_answer 81 = .ok (.ifnull 23, 3) := by decide +kernel
theorem dX11_answer_84 : decode cX11_answer 84 = .ok (.aload_n 0, 1) := by decide +kernel
theorem dX11_answer_85 : decode cX11_answer 85 = .ok (.getfield 48, 3) := by decide +kernel
theorem dX11_answer_88 : decode cX11_answer 88 = .ok (.iload_n 1, 1) := by decide +kernel
theorem dX11_answer_89 : decode cX11_answer 89 = .ok (.aaload, 1) := by decide +kernel
theorem dX11_answer_90 : decode cX11_answer 90 = .ok (.aload 6, 2) := by decide +kernel
theorem dX11_answer_92 : decode cX11_answer 92 = .ok (.invokevirtual 234, 3) := by decide +kernel
theorem dX11_answer_95 : decode cX11_answer 95 = .ok (.invokevirtual 237, 3) := by decide +kernel
theorem dX11_answer_98 : decode cX11_answer 98 = .ok (.iconst 0, 1) := by decide +kernel
theorem dX11_answer_99 : decode cX11_answer 99 = .ok (.istore 5, 2) := by decide +kernel
theorem dX11_answer_101 : decode cX11_answer 101 = .ok (.goto 75, 3) := by decide +kernel
theorem dX11_answer_104 : decode cX11_answer 104 = .ok (.aload_n 0, 1) := by decide +kernel
theorem dX11_answer_105 : decode cX11_answer 105 = .ok (.iload_n 2, 1) := by decide +kernel
theorem dX11_answer_106 : decode cX11_answer 106 = .ok (.iload_n 3, 1) := by decide +kernel
theorem dX11_answer_107 : decode cX11_answer 107 = .ok (.iload 4, 2) := by decide +kernel
theorem dX11_answer_109 : decode cX11_answer 109 = .ok (.invokevirtual 241, 3) := by decide +kernel
theorem dX11_answer_112 : decode cX11_answer 112 = .ok (.ifCond .eq 60, 3) := by decide +kernel
theorem dX11_answer_115 : decode cX11_answer 115 = .ok (.aload_n 0, 1) := by decide +kernel
theorem dX11_answer_116 : decode cX11_answer 116 = .ok (.getfield 42, 3) := by decide +kernel
theorem dX11_answer_119 : decode cX11_answer 119 = .ok (.aload_n 0, 1) := by decide +kernel
theorem dX11_answer_120 : decode cX11_answer 120 = .ok (.getfield 64, 3) := by decide +kernel
theorem dX11_answer_123 : decode cX11_answer 123 = .ok (.aload_n 0, 1) := by decide +kernel
theorem dX11_answer_124 : decode cX11_answer 124 = .ok (.getfield 14, 3) := by decide +kernel
theorem dX11_answer_127 : decode cX11_answer 127 = .ok (.aload_n 0, 1) := by decide +kernel
theorem dX11_answer_128 : decode cX11_answer 128 = .ok (.getfield 28, 3) := by decide +kernel
theorem dX11_answer_131 : decode cX11_answer 131 = .ok (.iload_n 2, 1) := by decide +kernel
theorem dX11_answer_132 : decode cX11_answer 132 = .ok (.iload_n 3, 1) := by decide +kernel
theorem dX11_answer_133 : decode cX11_answer 133 = .ok (.iload 4, 2) := by decide +kernel
theorem dX11_answer_135 : decode cX11_answer 135 = .ok (.invokevirtual 244, 3) := by decide +kernel
theorem dX11_answer_138 : decode cX11_answer 138 = .ok (.ifCond .eq 34, 3) := by decide +kernel
theorem dX11_answer_141 : decode cX11_answer 141 = .ok (.aload_n 0, 1) := by decide +kernel
theorem dX11_answer_142 : decode cX11_answer 142 = .ok (.getfield 48, 3) := by decide +kernel
theorem dX11_answer_145 : decode cX11_answer 145 = .ok (.iload_n 1, 1) := by decide +kernel
theorem dX11_answer_146 : decode cX11_answer 146 = .ok (.aaload, 1) := by decide +kernel
theorem dX11_answer_147 : decode cX11_answer 147 = .ok (.aload_n 0, 1) := by decide +kernel
theorem dX11_answer_148 : decode cX11_answer 148 = .ok (.getfield 42, 3) := by decide +kernel
theorem dX11_answer_151 : decode cX11_answer 151 = .ok (.invokevirtual 248, 3) := by decide +kernel
theorem dX11_answer_154 : decode cX11_answer 154 = .ok (.invokevirtual 251, 3) := by decide +kernel
theorem dX11_answer_157 : decode cX11_answer 157 = .ok (.aload_n 0, 1) := by decide +kernel
theorem dX11_answer_158 : decode cX11_answer 158 = .ok (.getfield 42, 3) := by decide +kernel
theorem dX11_answer_161 : decode cX11_answer 161 = .ok (.getfield 254, 3) := by decide +kernel
theorem dX11_answer_164 : decode cX11_answer 164 = .ok (.invokevirtual 258, 3) := by decide +kernel
theorem dX11_answer_167 : decode cX11_answer 167 = .ok (.istore 5, 2) := by decide +kernel
theorem dX11_answer_169 : decode cX11_answer 169 = .ok (.goto 7, 3) := by decide +kernel
theorem dX11_answer_172 : decode cX11_answer 172 = .ok (.bipush (-5), 2) := by decide +kernel
theorem dX11_answer_174 : decode cX11_answer 174 = .ok (.istore 5, 2) := by decide +kernel
theorem dX11_answer_176 : decode cX11_answer 176 = .ok (.aload_n 0, 1) := by decide +kernel
theorem dX11_answer_177 : decode cX11_answer 177 = .ok (.getfield 14, 3) := by decide +kernel
theorem dX11_answer_180 : decode cX11_answer 180 = .ok (.invokevirtual 81, 3) := by decide +kernel
theorem dX11_answer_183 : decode cX11_answer 183 = .ok (.iload 5, 2) := by decide +kernel
theorem dX11_answer_185 : decode cX11_answer 185 = .ok (.ireturn, 1) := by decide +kernel
theorem dX11_change_0 : decode cX11_change 0 = .ok (.aload_n 0, 1) := by decide +kernel
theorem dX11_change_1 : decode cX11_change 1 = .ok (.getfield 42, 3) := by decide +kernel
theorem dX11_change_4 : decode cX11_change 4 = .ok (.iload_n 1, 1) := by decide +kernel
theorem dX11_change_5 : decode cX11_change 5 = .ok (.invokevirtual 263, 3) := by decide +kernel
theorem dX11_change_8 : decode cX11_change 8 = .ok (.ireturn, 1) := by decide +kernel
theorem dX11_misses_0 : decode cX11_misses 0 = .ok (.iload_n 1, 1) := by decide +kernel
theorem dX11_misses_1 : decode cX11_misses 1 = .ok (.invokestatic 218, 3) := by decide +kernel
theorem dX11_misses_4 : decode cX11_misses 4 = .ok (.ifCond .eq 18, 3) := by decide +kernel
theorem dX11_misses_7 : decode cX11_misses 7 = .ok (.iload_n 2, 1) := by decide +kernel
theorem dX11_misses_8 : decode cX11_misses 8 = .ok (.ifCond .lt 14, 3) := by decide +kernel
theorem dX11_misses_11 : decode cX11_misses 11 = .ok (.iload_n 2, 1) := by decide +kernel
theorem dX11_misses_12 : decode cX11_misses 12 = .ok (.aload_n 0, 1) := by decide +kernel
theorem dX11_misses_13 : decode cX11_misses 13 = .ok (.getfield 64, 3) := by decide +kernel
theorem dX11_misses_16 : decode cX11_misses 16 = .ok (.getfield 87, 3) := by decide +kernel
theorem dX11_misses_19 : decode cX11_misses 19 = .ok (.if_icmp .lt 6, 3) := by decide +kernel
theorem dX11_misses_22 : decode cX11_misses 22 = .ok (.bipush (-2), 2) := by decide +kernel
theorem dX11_misses_24 : decode cX11_misses 24 = .ok (.ireturn, 1) := by decide +kernel
theorem dX11_misses_25 : decode cX11_misses 25 = .ok (.aload_n 0, 1) := by decide +kernel
theorem dX11_misses_26 : decode cX11_misses 26 = .ok (.getfield 48, 3) := by decide +kernel
theorem dX11_misses_29 : decode cX11_misses 29 = .ok (.iload_n 1, 1) := by decide +kernel
theorem dX11_misses_30 : decode cX11_misses 30 = .ok (.aaload, 1) := by decide +kernel
theorem dX11_misses_31 : decode cX11_misses 31 = .ok (.getfield 266, 3) := by decide +kernel
theorem dX11_misses_34 : decode cX11_misses 34 = .ok (.iload_n 2, 1) := by decide +kernel
theorem dX11_misses_35 : decode cX11_misses 35 = .ok (.iaload, 1) := by decide +kernel
theorem dX11_misses_36 : decode cX11_misses 36 = .ok (.ireturn, 1) := by decide +kernel
theorem dX11_drill_0 : decode cX11_drill 0 = .ok (.iload_n 1, 1) := by decide +kernel
theorem dX11_drill_1 : decode cX11_drill 1 = .ok (.invokestatic 218, 3) := by decide +kernel
theorem dX11_drill_4 : decode cX11_drill 4 = .ok (.ifCond .ne 6, 3) := by decide +kernel
theorem dX11_drill_7 : decode cX11_drill 7 = .ok (.bipush (-2), 2) := by decide +kernel
theorem dX11_drill_9 : decode cX11_drill 9 = .ok (.ireturn, 1) := by decide +kernel
theorem dX11_drill_10 : decode cX11_drill 10 = .ok (.aload_n 0, 1) := by decide +kernel
theorem dX11_drill_11 : decode cX11_drill 11 = .ok (.getfield 35, 3) := by decide +kernel
theorem dX11_drill_14 : decode cX11_drill 14 = .ok (.aload_n 0, 1) := by decide +kernel
theorem dX11_drill_15 : decode cX11_drill 15 = .ok (.getfield 64, 3) := by decide +kernel
theorem dX11_drill_18 : decode cX11_drill 18 = .ok (.aload_n 0, 1) := by decide +kernel
theorem dX11_drill_19 : decode cX11_drill 19 = .ok (.getfield 28, 3) := by decide +kernel
theorem dX11_drill_22 : decode cX11_drill 22 = .ok (.invokevirtual 172, 3) := by decide +kernel
theorem dX11_drill_25 : decode cX11_drill 25 = .ok (.aload_n 0, 1) := by decide +kernel
theorem dX11_drill_26 : decode cX11_drill 26 = .ok (.getfield 48, 3) := by decide +kernel
theorem dX11_drill_29 : decode cX11_drill 29 = .ok (.iload_n 1, 1) := by decide +kernel
theorem dX11_drill_30 : decode cX11_drill 30 = .ok (.aaload, 1) := by decide +kernel
theorem dX11_drill_31 : decode cX11_drill 31 = .ok (.astore_n 2, 1) := by decide +kernel
theorem dX11_drill_32 : decode cX11_drill 32 = .ok (.iconst (-1), 1) := by decide +kernel
theorem dX11_drill_33 : decode cX11_drill 33 = .ok (.istore_n 3, 1) := by decide +kernel
theorem dX11_drill_34 : decode cX11_drill 34 = .ok (.iconst (-1), 1) := by decide +kernel
theorem dX11_drill_35 : decode cX11_drill 35 = .ok (.istore 4, 2) := by decide +kernel
theorem dX11_drill_37 : decode cX11_drill 37 = .ok (.iconst 0, 1) := by decide +kernel
theorem dX11_drill_38 : decode cX11_drill 38 = .ok (.istore 5, 2) := by decide +kernel
theorem dX11_drill_40 : decode cX11_drill 40 = .ok (.iload 5, 2) := by decide +kernel
theorem dX11_drill_42 : decode cX11_drill 42 = .ok (.aload_n 0, 1) := by decide +kernel
theorem dX11_drill_43 : decode cX11_drill 43 = .ok (.getfield 64, 3) := by decide +kernel
theorem dX11_drill_46 : decode cX11_drill 46 = .ok (.invokevirtual 180, 3) := by decide +kernel
theorem dX11_drill_49 : decode cX11_drill 49 = .ok (.if_icmp .ge 60, 3) := by decide +kernel
theorem dX11_drill_52 : decode cX11_drill 52 = .ok (.aload_n 0, 1) := by decide +kernel
theorem dX11_drill_53 : decode cX11_drill 53 = .ok (.getfield 35, 3) := by decide +kernel
theorem dX11_drill_56 : decode cX11_drill 56 = .ok (.iload 5, 2) := by decide +kernel
theorem dX11_drill_58 : decode cX11_drill 58 = .ok (.invokevirtual 269, 3) := by decide +kernel
theorem dX11_drill_61 : decode cX11_drill 61 = .ok (.ifCond .eq 42, 3) := by decide +kernel
theorem dX11_drill_64 : decode cX11_drill 64 = .ok (.aload_n 2, 1) := by decide +kernel
theorem dX11_drill_65 : decode cX11_drill 65 = .ok (.iload 5, 2) := by decide +kernel
theorem dX11_drill_67 : decode cX11_drill 67 = .ok (.invokevirtual 272, 3) := by decide +kernel
theorem dX11_drill_70 : decode cX11_drill 70 = .ok (.ifCond .ne 33, 3) := by decide +kernel
theorem dX11_drill_73 : decode cX11_drill 73 = .ok (.aload_n 2, 1) := by decide +kernel
theorem dX11_drill_74 : decode cX11_drill 74 = .ok (.aload_n 0, 1) := by decide +kernel
theorem dX11_drill_75 : decode cX11_drill 75 = .ok (.getfield 35, 3) := by decide +kernel
theorem dX11_drill_78 : decode cX11_drill 78 = .ok (.getfield 275, 3) := by decide +kernel
theorem dX11_drill_81 : decode cX11_drill 81 = .ok (.iload 5, 2) := by decide +kernel
theorem dX11_drill_83 : decode cX11_drill 83 = .ok (.laload, 1) := by decide +kernel
theorem dX11_drill_84 : decode cX11_drill 84 = .ok (.invokevirtual 279, 3) := by decide +kernel
theorem dX11_drill_87 : decode cX11_drill 87 = .ok (.istore 6, 2) := by decide +kernel
theorem dX11_drill_89 : decode cX11_drill 89 = .ok (.iload 6, 2) := by decide +kernel
theorem dX11_drill_91 : decode cX11_drill 91 = .ok (.iload 4, 2) := by decide +kernel
theorem dX11_drill_93 : decode cX11_drill 93 = .ok (.if_icmp .le 10, 3) := by decide +kernel
theorem dX11_drill_96 : decode cX11_drill 96 = .ok (.iload 6, 2) := by decide +kernel
theorem dX11_drill_98 : decode cX11_drill 98 = .ok (.istore 4, 2) := by decide +kernel
theorem dX11_drill_100 : decode cX11_drill 100 = .ok (.iload 5, 2) := by decide +kernel
theorem dX11_drill_102 : decode cX11_drill 102 = .ok (.istore_n 3, 1) := by decide +kernel
theorem dX11_drill_103 : decode cX11_drill 103 = .ok (.iinc 5 1, 3) := by decide +kernel
theorem dX11_drill_106 : decode cX11_drill 106 = .ok (.goto (-66), 3) := by decide +kernel
theorem dX11_drill_109 : decode cX11_drill 109 = .ok (.iload_n 3, 1) := by decide +kernel
theorem dX11_drill_110 : decode cX11_drill 110 = .ok (.iconst (-1), 1) := by decide +kernel
theorem dX11_drill_111 : decode cX11_drill 111 = .ok (.if_icmp .ne 7, 3) := by decide +kernel
theorem dX11_drill_114 : decode cX11_drill 114 = .ok (.iconst (-1), 1) := by decide +kernel
theorem dX11_drill_115 : decode cX11_drill 115 = .ok (.goto 23, 3) := by decide +kernel
theorem dX11_drill_118 : decode cX11_drill 118 = .ok (.bipush 100, 2) := by decide +kernel
theorem dX11_drill_120 : decode cX11_drill 120 = .ok (.iload_n 3, 1) := by decide +kernel
theorem dX11_drill_121 : decode cX11_drill 121 = .ok (.invokestatic 195, 3) := by decide +kernel
theorem dX11_drill_124 : decode cX11_drill 124 = .ok (.imul, 1) := by decide +kernel
theorem dX11_drill_125 : decode cX11_drill 125 = .ok (.bipush 10, 2) := by decide +kernel
theorem dX11_drill_127 : decode cX11_drill 127 = .ok (.iload_n 3, 1) := by decide +kernel
theorem dX11_drill_128 : decode cX11_drill 128 = .ok (.invokestatic 198, 3) := by decide +kernel
theorem dX11_drill_131 : decode cX11_drill 131 = .ok (.imul, 1) := by decide +kernel
theorem dX11_drill_132 : decode cX11_drill 132 = .ok (.iadd, 1) := by decide +kernel
theorem dX11_drill_133 : decode cX11_drill 133 = .ok (.iload_n 3, 1) := by decide +kernel
theorem dX11_drill_134 : decode cX11_drill 134 = .ok (.invokestatic 201, 3) := by decide +kernel
theorem dX11_drill_137 : decode cX11_drill 137 = .ok (.iadd, 1) := by decide +kernel
theorem dX11_drill_138 : decode cX11_drill 138 = .ok (.ireturn, 1) := by decide +kernel
theorem dX11_count_0 : decode cX11_count 0 = .ok (.iload_n 1, 1) := by decide +kernel
theorem dX11_count_1 : decode cX11_count 1 = .ok (.tableswitch 63 0 3 #[31, 39, 47, 55], 31) := by decide +kernel
theorem dX11_count_32 : decode cX11_count 32 = .ok (.aload_n 0, 1) := by decide +kernel
theorem dX11_count_33 : decode cX11_count 33 = .ok (.getfield 64, 3) := by decide +kernel
theorem dX11_count_36 : decode cX11_count 36 = .ok (.getfield 282, 3) := by decide +kernel
theorem dX11_count_39 : decode cX11_count 39 = .ok (.ireturn, 1) := by decide +kernel
theorem dX11_count_40 : decode cX11_count 40 = .ok (.aload_n 0, 1) := by decide +kernel
theorem dX11_count_41 : decode cX11_count 41 = .ok (.getfield 64, 3) := by decide +kernel
theorem dX11_count_44 : decode cX11_count 44 = .ok (.getfield 96, 3) := by decide +kernel
theorem dX11_count_47 : decode cX11_count 47 = .ok (.ireturn, 1) := by decide +kernel
theorem dX11_count_48 : decode cX11_count 48 = .ok (.aload_n 0, 1) := by decide +kernel
theorem dX11_count_49 : decode cX11_count 49 = .ok (.getfield 64, 3) := by decide +kernel
theorem dX11_count_52 : decode cX11_count 52 = .ok (.getfield 87, 3) := by decide +kernel
theorem dX11_count_55 : decode cX11_count 55 = .ok (.ireturn, 1) := by decide +kernel
theorem dX11_count_56 : decode cX11_count 56 = .ok (.aload_n 0, 1) := by decide +kernel
theorem dX11_count_57 : decode cX11_count 57 = .ok (.getfield 14, 3) := by decide +kernel
theorem dX11_count_60 : decode cX11_count 60 = .ok (.getfield 71, 3) := by decide +kernel
theorem dX11_count_63 : decode cX11_count 63 = .ok (.ireturn, 1) := by decide +kernel
theorem dX11_count_64 : decode cX11_count 64 = .ok (.iconst (-1), 1) := by decide +kernel
theorem dX11_count_65 : decode cX11_count 65 = .ok (.ireturn, 1) := by decide +kernel
theorem dX11_isLearner_0 : decode cX11_isLearner 0 = .ok (.iload_n 0, 1) := by decide +kernel
theorem dX11_isLearner_1 : decode cX11_isLearner 1 = .ok (.ifCond .lt 13, 3) := by decide +kernel
theorem dX11_isLearner_4 : decode cX11_isLearner 4 = .ok (.iload_n 0, 1) := by decide +kernel
theorem dX11_isLearner_5 : decode cX11_isLearner 5 = .ok (.bipush 8, 2) := by decide +kernel
theorem dX11_isLearner_7 : decode cX11_isLearner 7 = .ok (.if_icmp .ge 7, 3) := by decide +kernel
theorem dX11_isLearner_10 : decode cX11_isLearner 10 = .ok (.iconst 1, 1) := by decide +kernel
theorem dX11_isLearner_11 : decode cX11_isLearner 11 = .ok (.goto 4, 3) := by decide +kernel
theorem dX11_isLearner_14 : decode cX11_isLearner 14 = .ok (.iconst 0, 1) := by decide +kernel
theorem dX11_isLearner_15 : decode cX11_isLearner 15 = .ok (.ireturn, 1) := by decide +kernel
theorem dX11_isPlace_0 : decode cX11_isPlace 0 = .ok (.iload_n 1, 1) := by decide +kernel
theorem dX11_isPlace_1 : decode cX11_isPlace 1 = .ok (.ifCond .lt 37, 3) := by decide +kernel
theorem dX11_isPlace_4 : decode cX11_isPlace 4 = .ok (.iload_n 1, 1) := by decide +kernel
theorem dX11_isPlace_5 : decode cX11_isPlace 5 = .ok (.aload_n 0, 1) := by decide +kernel
theorem dX11_isPlace_6 : decode cX11_isPlace 6 = .ok (.getfield 64, 3) := by decide +kernel
theorem dX11_isPlace_9 : decode cX11_isPlace 9 = .ok (.getfield 96, 3) := by decide +kernel
theorem dX11_isPlace_12 : decode cX11_isPlace 12 = .ok (.if_icmp .ge 26, 3) := by decide +kernel
theorem dX11_isPlace_15 : decode cX11_isPlace 15 = .ok (.iload_n 2, 1) := by decide +kernel
theorem dX11_isPlace_16 : decode cX11_isPlace 16 = .ok (.ifCond .lt 22, 3) := by decide +kernel
theorem dX11_isPlace_19 : decode cX11_isPlace 19 = .ok (.iload_n 2, 1) := by decide +kernel
theorem dX11_isPlace_20 : decode cX11_isPlace 20 = .ok (.iconst 5, 1) := by decide +kernel
theorem dX11_isPlace_21 : decode cX11_isPlace 21 = .ok (.if_icmp .ge 17, 3) := by decide +kernel
theorem dX11_isPlace_24 : decode cX11_isPlace 24 = .ok (.iload_n 3, 1) := by decide +kernel
theorem dX11_isPlace_25 : decode cX11_isPlace 25 = .ok (.ifCond .lt 13, 3) := by decide +kernel
theorem dX11_isPlace_28 : decode cX11_isPlace 28 = .ok (.iload_n 3, 1) := by decide +kernel
theorem dX11_isPlace_29 : decode cX11_isPlace 29 = .ok (.bipush 6, 2) := by decide +kernel
theorem dX11_isPlace_31 : decode cX11_isPlace 31 = .ok (.if_icmp .ge 7, 3) := by decide +kernel
theorem dX11_isPlace_34 : decode cX11_isPlace 34 = .ok (.iconst 1, 1) := by decide +kernel
theorem dX11_isPlace_35 : decode cX11_isPlace 35 = .ok (.goto 4, 3) := by decide +kernel
theorem dX11_isPlace_38 : decode cX11_isPlace 38 = .ok (.iconst 0, 1) := by decide +kernel
theorem dX11_isPlace_39 : decode cX11_isPlace 39 = .ok (.ireturn, 1) := by decide +kernel
theorem dX11_forgetAll_0 : decode cX11_forgetAll 0 = .ok (.iconst 0, 1) := by decide +kernel
theorem dX11_forgetAll_1 : decode cX11_forgetAll 1 = .ok (.istore_n 1, 1) := by decide +kernel
theorem dX11_forgetAll_2 : decode cX11_forgetAll 2 = .ok (.iload_n 1, 1) := by decide +kernel
theorem dX11_forgetAll_3 : decode cX11_forgetAll 3 = .ok (.bipush 8, 2) := by decide +kernel
theorem dX11_forgetAll_5 : decode cX11_forgetAll 5 = .ok (.if_icmp .ge 18, 3) := by decide +kernel
theorem dX11_forgetAll_8 : decode cX11_forgetAll 8 = .ok (.aload_n 0, 1) := by decide +kernel
theorem dX11_forgetAll_9 : decode cX11_forgetAll 9 = .ok (.getfield 48, 3) := by decide +kernel
theorem dX11_forgetAll_12 : decode cX11_forgetAll 12 = .ok (.iload_n 1, 1) := by decide +kernel
theorem dX11_forgetAll_13 : decode cX11_forgetAll 13 = .ok (.aaload, 1) := by decide +kernel
theorem dX11_forgetAll_14 : decode cX11_forgetAll 14 = .ok (.invokevirtual 285, 3) := by decide +kernel
theorem dX11_forgetAll_17 : decode cX11_forgetAll 17 = .ok (.iinc 1 1, 3) := by decide +kernel
theorem dX11_forgetAll_20 : decode cX11_forgetAll 20 = .ok (.goto (-18), 3) := by decide +kernel
theorem dX11_forgetAll_23 : decode cX11_forgetAll 23 = .ok (.aload_n 0, 1) := by decide +kernel
theorem dX11_forgetAll_24 : decode cX11_forgetAll 24 = .ok (.iconst 0, 1) := by decide +kernel
theorem dX11_forgetAll_25 : decode cX11_forgetAll 25 = .ok (.putfield 57, 3) := by decide +kernel
theorem dX11_forgetAll_28 : decode cX11_forgetAll 28 = .ok (.aload_n 0, 1) := by decide +kernel
theorem dX11_forgetAll_29 : decode cX11_forgetAll 29 = .ok (.getfield 42, 3) := by decide +kernel
theorem dX11_forgetAll_32 : decode cX11_forgetAll 32 = .ok (.invokevirtual 288, 3) := by decide +kernel
theorem dX11_forgetAll_35 : decode cX11_forgetAll 35 = .ok (.aload_n 0, 1) := by decide +kernel
theorem dX11_forgetAll_36 : decode cX11_forgetAll 36 = .ok (.getfield 35, 3) := by decide +kernel
theorem dX11_forgetAll_39 : decode cX11_forgetAll 39 = .ok (.iconst 0, 1) := by decide +kernel
theorem dX11_forgetAll_40 : decode cX11_forgetAll 40 = .ok (.putfield 289, 3) := by decide +kernel
theorem dX11_forgetAll_43 : decode cX11_forgetAll 43 = .ok (.return_, 1) := by decide +kernel
theorem dX11_formAt_0 : decode cX11_formAt 0 = .ok (.aload_n 0, 1) := by decide +kernel
theorem dX11_formAt_1 : decode cX11_formAt 1 = .ok (.iload_n 1, 1) := by decide +kernel
theorem dX11_formAt_2 : decode cX11_formAt 2 = .ok (.iload_n 2, 1) := by decide +kernel
theorem dX11_formAt_3 : decode cX11_formAt 3 = .ok (.iload_n 3, 1) := by decide +kernel
theorem dX11_formAt_4 : decode cX11_formAt 4 = .ok (.invokevirtual 141, 3) := by decide +kernel
theorem dX11_formAt_7 : decode cX11_formAt 7 = .ok (.ifCond .ne 5, 3) := by decide +kernel
theorem dX11_formAt_10 : decode cX11_formAt 10 = .ok (.aconst_null, 1) := by decide +kernel
theorem dX11_formAt_11 : decode cX11_formAt 11 = .ok (.areturn, 1) := by decide +kernel
theorem dX11_formAt_12 : decode cX11_formAt 12 = .ok (.aload_n 0, 1) := by decide +kernel
theorem dX11_formAt_13 : decode cX11_formAt 13 = .ok (.getfield 28, 3) := by decide +kernel
theorem dX11_formAt_16 : decode cX11_formAt 16 = .ok (.aload_n 0, 1) := by decide +kernel
theorem dX11_formAt_17 : decode cX11_formAt 17 = .ok (.getfield 64, 3) := by decide +kernel
theorem dX11_formAt_20 : decode cX11_formAt 20 = .ok (.iload_n 1, 1) := by decide +kernel
theorem dX11_formAt_21 : decode cX11_formAt 21 = .ok (.iload_n 2, 1) := by decide +kernel
theorem dX11_formAt_22 : decode cX11_formAt 22 = .ok (.iload_n 3, 1) := by decide +kernel
theorem dX11_formAt_23 : decode cX11_formAt 23 = .ok (.invokevirtual 145, 3) := by decide +kernel
theorem dX11_formAt_26 : decode cX11_formAt 26 = .ok (.aload_n 0, 1) := by decide +kernel
theorem dX11_formAt_27 : decode cX11_formAt 27 = .ok (.getfield 28, 3) := by decide +kernel
theorem dX11_formAt_30 : decode cX11_formAt 30 = .ok (.getfield 149, 3) := by decide +kernel
theorem dX11_formAt_33 : decode cX11_formAt 33 = .ok (.iload 4, 2) := by decide +kernel
theorem dX11_formAt_35 : decode cX11_formAt 35 = .ok (.invokevirtual 230, 3) := by decide +kernel
theorem dX11_formAt_38 : decode cX11_formAt 38 = .ok (.areturn, 1) := by decide +kernel
theorem dX12_init_0 : decode cX12_init 0 = .ok (.aload_n 0, 1) := by decide +kernel
theorem dX12_init_1 : decode cX12_init 1 = .ok (.aconst_null, 1) := by decide +kernel
theorem dX12_init_2 : decode cX12_init 2 = .ok (.aconst_null, 1) := by decide +kernel
theorem dX12_init_3 : decode cX12_init 3 = .ok (.iconst 0, 1) := by decide +kernel
theorem dX12_init_4 : decode cX12_init 4 = .ok (.iconst 0, 1) := by decide +kernel
theorem dX12_init_5 : decode cX12_init 5 = .ok (.invokespecial 1, 3) := by decide +kernel
theorem dX12_init_8 : decode cX12_init 8 = .ok (.return_, 1) := by decide +kernel
theorem dX13_init_0 : decode cX13_init 0 = .ok (.aload_n 0, 1) := by decide +kernel
theorem dX13_init_1 : decode cX13_init 1 = .ok (.invokespecial 205, 3) := by decide +kernel
theorem dX13_init_4 : decode cX13_init 4 = .ok (.aload_n 0, 1) := by decide +kernel
theorem dX13_init_5 : decode cX13_init 5 = .ok (.iconst 2, 1) := by decide +kernel
theorem dX13_init_6 : decode cX13_init 6 = .ok (.newarray .int, 2) := by decide +kernel
theorem dX13_init_8 : decode cX13_init 8 = .ok (.putfield 1, 3) := by decide +kernel
theorem dX13_init_11 : decode cX13_init 11 = .ok (.aload_n 0, 1) := by decide +kernel
theorem dX13_init_12 : decode cX13_init 12 = .ok (.iconst 2, 1) := by decide +kernel
theorem dX13_init_13 : decode cX13_init 13 = .ok (.newarray .int, 2) := by decide +kernel
theorem dX13_init_15 : decode cX13_init 15 = .ok (.putfield 7, 3) := by decide +kernel
theorem dX13_init_18 : decode cX13_init 18 = .ok (.aload_n 0, 1) := by decide +kernel
theorem dX13_init_19 : decode cX13_init 19 = .ok (.iconst 2, 1) := by decide +kernel
theorem dX13_init_20 : decode cX13_init 20 = .ok (.newarray .int, 2) := by decide +kernel
theorem dX13_init_22 : decode cX13_init 22 = .ok (.putfield 10, 3) := by decide +kernel
theorem dX13_init_25 : decode cX13_init 25 = .ok (.aload_n 0, 1) := by decide +kernel
theorem dX13_init_26 : decode cX13_init 26 = .ok (.sipush 144, 3) := by decide +kernel
theorem dX13_init_29 : decode cX13_init 29 = .ok (.newarray .byte, 2) := by decide +kernel
theorem dX13_init_31 : decode cX13_init 31 = .ok (.putfield 150, 3) := by decide +kernel
theorem dX13_init_34 : decode cX13_init 34 = .ok (.aload_n 0, 1) := by decide +kernel
theorem dX13_init_35 : decode cX13_init 35 = .ok (.sipush 720, 3) := by decide +kernel
theorem dX13_init_38 : decode cX13_init 38 = .ok (.newarray .byte, 2) := by decide +kernel
theorem dX13_init_40 : decode cX13_init 40 = .ok (.putfield 19, 3) := by decide +kernel
theorem dX13_init_43 : decode cX13_init 43 = .ok (.aload_n 0, 1) := by decide +kernel
theorem dX13_init_44 : decode cX13_init 44 = .ok (.sipush 960, 3) := by decide +kernel
theorem dX13_init_47 : decode cX13_init 47 = .ok (.newarray .byte, 2) := by decide +kernel
theorem dX13_init_49 : decode cX13_init 49 = .ok (.putfield 23, 3) := by decide +kernel
theorem dX13_init_52 : decode cX13_init 52 = .ok (.aload_n 0, 1) := by decide +kernel
theorem dX13_init_53 : decode cX13_init 53 = .ok (.sipush 960, 3) := by decide +kernel
theorem dX13_init_56 : decode cX13_init 56 = .ok (.newarray .byte, 2) := by decide +kernel
theorem dX13_init_58 : decode cX13_init 58 = .ok (.putfield 26, 3) := by decide +kernel
theorem dX13_init_61 : decode cX13_init 61 = .ok (.aload_n 0, 1) := by decide +kernel
theorem dX13_init_62 : decode cX13_init 62 = .ok (.bipush 12, 2) := by decide +kernel
theorem dX13_init_64 : decode cX13_init 64 = .ok (.newarray .int, 2) := by decide +kernel
theorem dX13_init_66 : decode cX13_init 66 = .ok (.putfield 153, 3) := by decide +kernel
theorem dX13_init_69 : decode cX13_init 69 = .ok (.aload_n 0, 1) := by decide +kernel
theorem dX13_init_70 : decode cX13_init 70 = .ok (.bipush 60, 2) := by decide +kernel
theorem dX13_init_72 : decode cX13_init 72 = .ok (.newarray .int, 2) := by decide +kernel
theorem dX13_init_74 : decode cX13_init 74 = .ok (.putfield 13, 3) := by decide +kernel
theorem dX13_init_77 : decode cX13_init 77 = .ok (.aload_n 0, 1) := by decide +kernel
theorem dX13_init_78 : decode cX13_init 78 = .ok (.bipush 60, 2) := by decide +kernel
theorem dX13_init_80 : decode cX13_init 80 = .ok (.newarray .int, 2) := by decide +kernel
theorem dX13_init_82 : decode cX13_init 82 = .ok (.putfield 16, 3) := by decide +kernel
theorem dX13_init_85 : decode cX13_init 85 = .ok (.aload_n 0, 1) := by decide +kernel
theorem dX13_init_86 : decode cX13_init 86 = .ok (.bipush 120, 2) := by decide +kernel
theorem dX13_init_88 : decode cX13_init 88 = .ok (.newarray .int, 2) := by decide +kernel
theorem dX13_init_90 : decode cX13_init 90 = .ok (.putfield 29, 3) := by decide +kernel
theorem dX13_init_93 : decode cX13_init 93 = .ok (.aload_n 0, 1) := by decide +kernel
theorem dX13_init_94 : decode cX13_init 94 = .ok (.bipush 120, 2) := by decide +kernel
theorem dX13_init_96 : decode cX13_init 96 = .ok (.newarray .int, 2) := by decide +kernel
theorem dX13_init_98 : decode cX13_init 98 = .ok (.putfield 32, 3) := by decide +kernel
theorem dX13_init_101 : decode cX13_init 101 = .ok (.aload_n 0, 1) := by decide +kernel
theorem dX13_init_102 : decode cX13_init 102 = .ok (.bipush 120, 2) := by decide +kernel
theorem dX13_init_104 : decode cX13_init 104 = .ok (.newarray .int, 2) := by decide +kernel
theorem dX13_init_106 : decode cX13_init 106 = .ok (.putfield 35, 3) := by decide +kernel
theorem dX13_init_109 : decode cX13_init 109 = .ok (.aload_n 0, 1) := by decide +kernel
theorem dX13_init_110 : decode cX13_init 110 = .ok (.bipush 120, 2) := by decide +kernel
theorem dX13_init_112 : decode cX13_init 112 = .ok (.newarray .int, 2) := by decide +kernel
theorem dX13_init_114 : decode cX13_init 114 = .ok (.putfield 38, 3) := by decide +kernel
theorem dX13_init_117 : decode cX13_init 117 = .ok (.aload_n 0, 1) := by decide +kernel
theorem dX13_init_118 : decode cX13_init 118 = .ok (.bipush 120, 2) := by decide +kernel
theorem dX13_init_120 : decode cX13_init 120 = .ok (.newarray .int, 2) := by decide +kernel
theorem dX13_init_122 : decode cX13_init 122 = .ok (.putfield 41, 3) := by decide +kernel
theorem dX13_init_125 : decode cX13_init 125 = .ok (.aload_n 0, 1) := by decide +kernel
theorem dX13_init_126 : decode cX13_init 126 = .ok (.bipush 120, 2) := by decide +kernel
theorem dX13_init_128 : decode cX13_init 128 = .ok (.newarray .int, 2) := by decide +kernel
theorem dX13_init_130 : decode cX13_init 130 = .ok (.putfield 44, 3) := by decide +kernel
theorem dX13_init_133 : decode cX13_init 133 = .ok (.aload_n 0, 1) := by decide +kernel
theorem dX13_init_134 : decode cX13_init 134 = .ok (.bipush 120, 2) := by decide +kernel
theorem dX13_init_136 : decode cX13_init 136 = .ok (.newarray .int, 2) := by decide +kernel
theorem dX13_init_138 : decode cX13_init 138 = .ok (.putfield 47, 3) := by decide +kernel
theorem dX13_init_141 : decode cX13_init 141 = .ok (.aload_n 0, 1) := by decide +kernel
theorem dX13_init_142 : decode cX13_init 142 = .ok (.bipush 120, 2) := by decide +kernel
theorem dX13_init_144 : decode cX13_init 144 = .ok (.newarray .int, 2) := by decide +kernel
theorem dX13_init_146 : decode cX13_init 146 = .ok (.putfield 50, 3) := by decide +kernel
theorem dX13_init_149 : decode cX13_init 149 = .ok (.aload_n 0, 1) := by decide +kernel
theorem dX13_init_150 : decode cX13_init 150 = .ok (.bipush 120, 2) := by decide +kernel
theorem dX13_init_152 : decode cX13_init 152 = .ok (.newarray .int, 2) := by decide +kernel
theorem dX13_init_154 : decode cX13_init 154 = .ok (.putfield 53, 3) := by decide +kernel
theorem dX13_init_157 : decode cX13_init 157 = .ok (.aload_n 0, 1) := by decide +kernel
theorem dX13_init_158 : decode cX13_init 158 = .ok (.new 210, 3) := by decide +kernel
theorem dX13_init_161 : decode cX13_init 161 = .ok (.dup, 1) := by decide +kernel
theorem dX13_init_162 : decode cX13_init 162 = .ok (.invokespecial 212, 3) := by decide +kernel
theorem dX13_init_165 : decode cX13_init 165 = .ok (.putfield 66, 3) := by decide +kernel
theorem dX13_init_168 : decode cX13_init 168 = .ok (.aload_n 0, 1) := by decide +kernel
theorem dX13_init_169 : decode cX13_init 169 = .ok (.sipush 4000, 3) := by decide +kernel
theorem dX13_init_172 : decode cX13_init 172 = .ok (.newarray .byte, 2) := by decide +kernel
theorem dX13_init_174 : decode cX13_init 174 = .ok (.putfield 73, 3) := by decide +kernel
theorem dX13_init_177 : decode cX13_init 177 = .ok (.aload_n 0, 1) := by decide +kernel
theorem dX13_init_178 : decode cX13_init 178 = .ok (.iconst (-1), 1) := by decide +kernel
theorem dX13_init_179 : decode cX13_init 179 = .ok (.putfield 63, 3) := by decide +kernel
theorem dX13_init_182 : decode cX13_init 182 = .ok (.aload_n 0, 1) := by decide +kernel
theorem dX13_init_183 : decode cX13_init 183 = .ok (.sipush 276, 3) := by decide +kernel
theorem dX13_init_186 : decode cX13_init 186 = .ok (.newarray .byte, 2) := by decide +kernel
theorem dX13_init_188 : decode cX13_init 188 = .ok (.putfield 213, 3) := by decide +kernel
theorem dX13_init_191 : decode cX13_init 191 = .ok (.aload_n 0, 1) := by decide +kernel
theorem dX13_init_192 : decode cX13_init 192 = .ok (.sipush 276, 3) := by decide +kernel
theorem dX13_init_195 : decode cX13_init 195 = .ok (.newarray .byte, 2) := by decide +kernel
theorem dX13_init_197 : decode cX13_init 197 = .ok (.putfield 216, 3) := by decide +kernel
theorem dX13_init_200 : decode cX13_init 200 = .ok (.aload_n 0, 1) := by decide +kernel
theorem dX13_init_201 : decode cX13_init 201 = .ok (.bipush 60, 2) := by decide +kernel
theorem dX13_init_203 : decode cX13_init 203 = .ok (.newarray .boolean, 2) := by decide +kernel
theorem dX13_init_205 : decode cX13_init 205 = .ok (.putfield 219, 3) := by decide +kernel
theorem dX13_init_208 : decode cX13_init 208 = .ok (.aload_n 0, 1) := by decide +kernel
theorem dX13_init_209 : decode cX13_init 209 = .ok (.bipush 30, 2) := by decide +kernel
theorem dX13_init_211 : decode cX13_init 211 = .ok (.newarray .byte, 2) := by decide +kernel
theorem dX13_init_213 : decode cX13_init 213 = .ok (.putfield 223, 3) := by decide +kernel
theorem dX13_init_216 : decode cX13_init 216 = .ok (.aload_n 0, 1) := by decide +kernel
theorem dX13_init_217 : decode cX13_init 217 = .ok (.sipush 244, 3) := by decide +kernel
theorem dX13_init_220 : decode cX13_init 220 = .ok (.newarray .byte, 2) := by decide +kernel
theorem dX13_init_222 : decode cX13_init 222 = .ok (.putfield 226, 3) := by decide +kernel
theorem dX13_init_225 : decode cX13_init 225 = .ok (.aload_n 0, 1) := by decide +kernel
theorem dX13_init_226 : decode cX13_init 226 = .ok (.bipush 122, 2) := by decide +kernel
theorem dX13_init_228 : decode cX13_init 228 = .ok (.newarray .byte, 2) := by decide +kernel
theorem dX13_init_230 : decode cX13_init 230 = .ok (.putfield 229, 3) := by decide +kernel
theorem dX13_init_233 : decode cX13_init 233 = .ok (.aload_n 0, 1) := by decide +kernel
theorem dX13_init_234 : decode cX13_init 234 = .ok (.bipush 122, 2) := by decide +kernel
theorem dX13_init_236 : decode cX13_init 236 = .ok (.newarray .byte, 2) := by decide +kernel
theorem dX13_init_238 : decode cX13_init 238 = .ok (.putfield 232, 3) := by decide +kernel
theorem dX13_init_241 : decode cX13_init 241 = .ok (.aload_n 0, 1) := by decide +kernel
theorem dX13_init_242 : decode cX13_init 242 = .ok (.iconst 4, 1) := by decide +kernel
theorem dX13_init_243 : decode cX13_init 243 = .ok (.newarray .int, 2) := by decide +kernel
theorem dX13_init_245 : decode cX13_init 245 = .ok (.putfield 235, 3) := by decide +kernel
theorem dX13_init_248 : decode cX13_init 248 = .ok (.aload_n 0, 1) := by decide +kernel
theorem dX13_init_249 : decode cX13_init 249 = .ok (.sipush 560, 3) := by decide +kernel
theorem dX13_init_252 : decode cX13_init 252 = .ok (.newarray .int, 2) := by decide +kernel
theorem dX13_init_254 : decode cX13_init 254 = .ok (.putfield 238, 3) := by decide +kernel
theorem dX13_init_257 : decode cX13_init 257 = .ok (.aload_n 0, 1) := by decide +kernel
theorem dX13_init_258 : decode cX13_init 258 = .ok (.iconst 4, 1) := by decide +kernel
theorem dX13_init_259 : decode cX13_init 259 = .ok (.newarray .int, 2) := by decide +kernel
theorem dX13_init_261 : decode cX13_init 261 = .ok (.putfield 241, 3) := by decide +kernel
theorem dX13_init_264 : decode cX13_init 264 = .ok (.aload_n 0, 1) := by decide +kernel
theorem dX13_init_265 : decode cX13_init 265 = .ok (.iconst 2, 1) := by decide +kernel
theorem dX13_init_266 : decode cX13_init 266 = .ok (.newarray .int, 2) := by decide +kernel
theorem dX13_init_268 : decode cX13_init 268 = .ok (.putfield 244, 3) := by decide +kernel
theorem dX13_init_271 : decode cX13_init 271 = .ok (.aload_n 0, 1) := by decide +kernel
theorem dX13_init_272 : decode cX13_init 272 = .ok (.iconst 2, 1) := by decide +kernel
theorem dX13_init_273 : decode cX13_init 273 = .ok (.newarray .int, 2) := by decide +kernel
theorem dX13_init_275 : decode cX13_init 275 = .ok (.putfield 247, 3) := by decide +kernel
theorem dX13_init_278 : decode cX13_init 278 = .ok (.aload_n 0, 1) := by decide +kernel
theorem dX13_init_279 : decode cX13_init 279 = .ok (.sipush 280, 3) := by decide +kernel
theorem dX13_init_282 : decode cX13_init 282 = .ok (.newarray .int, 2) := by decide +kernel
theorem dX13_init_284 : decode cX13_init 284 = .ok (.putfield 250, 3) := by decide +kernel
theorem dX13_init_287 : decode cX13_init 287 = .ok (.aload_n 0, 1) := by decide +kernel
theorem dX13_init_288 : decode cX13_init 288 = .ok (.sipush 280, 3) := by decide +kernel
theorem dX13_init_291 : decode cX13_init 291 = .ok (.newarray .int, 2) := by decide +kernel
theorem dX13_init_293 : decode cX13_init 293 = .ok (.putfield 253, 3) := by decide +kernel
theorem dX13_init_296 : decode cX13_init 296 = .ok (.aload_n 0, 1) := by decide +kernel
theorem dX13_init_297 : decode cX13_init 297 = .ok (.iconst 2, 1) := by decide +kernel
theorem dX13_init_298 : decode cX13_init 298 = .ok (.newarray .int, 2) := by decide +kernel
theorem dX13_init_300 : decode cX13_init 300 = .ok (.putfield 256, 3) := by decide +kernel
theorem dX13_init_303 : decode cX13_init 303 = .ok (.aload_n 0, 1) := by decide +kernel
theorem dX13_init_304 : decode cX13_init 304 = .ok (.iconst 2, 1) := by decide +kernel
theorem dX13_init_305 : decode cX13_init 305 = .ok (.newarray .int, 2) := by decide +kernel
theorem dX13_init_307 : decode cX13_init 307 = .ok (.putfield 259, 3) := by decide +kernel
theorem dX13_init_310 : decode cX13_init 310 = .ok (.aload_n 0, 1) := by decide +kernel
theorem dX13_init_311 : decode cX13_init 311 = .ok (.sipush 4000, 3) := by decide +kernel
theorem dX13_init_314 : decode cX13_init 314 = .ok (.newarray .byte, 2) := by decide +kernel
theorem dX13_init_316 : decode cX13_init 316 = .ok (.putfield 262, 3) := by decide +kernel
theorem dX13_init_319 : decode cX13_init 319 = .ok (.aload_n 0, 1) := by decide +kernel
theorem dX13_init_320 : decode cX13_init 320 = .ok (.bipush 60, 2) := by decide +kernel
theorem dX13_init_322 : decode cX13_init 322 = .ok (.newarray .int, 2) := by decide +kernel
theorem dX13_init_324 : decode cX13_init 324 = .ok (.putfield 265, 3) := by decide +kernel
theorem dX13_init_327 : decode cX13_init 327 = .ok (.aload_n 0, 1) := by decide +kernel
theorem dX13_init_328 : decode cX13_init 328 = .ok (.bipush 60, 2) := by decide +kernel
theorem dX13_init_330 : decode cX13_init 330 = .ok (.newarray .int, 2) := by decide +kernel
theorem dX13_init_332 : decode cX13_init 332 = .ok (.putfield 268, 3) := by decide +kernel
theorem dX13_init_335 : decode cX13_init 335 = .ok (.aload_n 0, 1) := by decide +kernel
theorem dX13_init_336 : decode cX13_init 336 = .ok (.bipush 60, 2) := by decide +kernel
theorem dX13_init_338 : decode cX13_init 338 = .ok (.newarray .int, 2) := by decide +kernel
theorem dX13_init_340 : decode cX13_init 340 = .ok (.putfield 271, 3) := by decide +kernel
theorem dX13_init_343 : decode cX13_init 343 = .ok (.aload_n 0, 1) := by decide +kernel
theorem dX13_init_344 : decode cX13_init 344 = .ok (.bipush 60, 2) := by decide +kernel
theorem dX13_init_346 : decode cX13_init 346 = .ok (.newarray .int, 2) := by decide +kernel
theorem dX13_init_348 : decode cX13_init 348 = .ok (.putfield 274, 3) := by decide +kernel
theorem dX13_init_351 : decode cX13_init 351 = .ok (.aload_n 0, 1) := by decide +kernel
theorem dX13_init_352 : decode cX13_init 352 = .ok (.sipush 480, 3) := by decide +kernel
theorem dX13_init_355 : decode cX13_init 355 = .ok (.newarray .int, 2) := by decide +kernel
theorem dX13_init_357 : decode cX13_init 357 = .ok (.putfield 277, 3) := by decide +kernel
theorem dX13_init_360 : decode cX13_init 360 = .ok (.aload_n 0, 1) := by decide +kernel
theorem dX13_init_361 : decode cX13_init 361 = .ok (.bipush 24, 2) := by decide +kernel
theorem dX13_init_363 : decode cX13_init 363 = .ok (.newarray .int, 2) := by decide +kernel
theorem dX13_init_365 : decode cX13_init 365 = .ok (.putfield 280, 3) := by decide +kernel
theorem dX13_init_368 : decode cX13_init 368 = .ok (.aload_n 0, 1) := by decide +kernel
theorem dX13_init_369 : decode cX13_init 369 = .ok (.iconst 2, 1) := by decide +kernel
theorem dX13_init_370 : decode cX13_init 370 = .ok (.newarray .int, 2) := by decide +kernel
theorem dX13_init_372 : decode cX13_init 372 = .ok (.putfield 283, 3) := by decide +kernel
theorem dX13_init_375 : decode cX13_init 375 = .ok (.aload_n 0, 1) := by decide +kernel
theorem dX13_init_376 : decode cX13_init 376 = .ok (.iconst 2, 1) := by decide +kernel
theorem dX13_init_377 : decode cX13_init 377 = .ok (.newarray .int, 2) := by decide +kernel
theorem dX13_init_379 : decode cX13_init 379 = .ok (.putfield 286, 3) := by decide +kernel
theorem dX13_init_382 : decode cX13_init 382 = .ok (.aload_n 0, 1) := by decide +kernel
theorem dX13_init_383 : decode cX13_init 383 = .ok (.iconst 2, 1) := by decide +kernel
theorem dX13_init_384 : decode cX13_init 384 = .ok (.newarray .int, 2) := by decide +kernel
theorem dX13_init_386 : decode cX13_init 386 = .ok (.putfield 289, 3) := by decide +kernel
theorem dX13_init_389 : decode cX13_init 389 = .ok (.aload_n 0, 1) := by decide +kernel
theorem dX13_init_390 : decode cX13_init 390 = .ok (.invokevirtual 292, 3) := by decide +kernel
theorem dX13_init_393 : decode cX13_init 393 = .ok (.return_, 1) := by decide +kernel
theorem dX13_forget_0 : decode cX13_forget 0 = .ok (.iconst 0, 1) := by decide +kernel
theorem dX13_forget_1 : decode cX13_forget 1 = .ok (.istore_n 1, 1) := by decide +kernel
theorem dX13_forget_2 : decode cX13_forget 2 = .ok (.iload_n 1, 1) := by decide +kernel
theorem dX13_forget_3 : decode cX13_forget 3 = .ok (.sipush 480, 3) := by decide +kernel
theorem dX13_forget_6 : decode cX13_forget 6 = .ok (.if_icmp .ge 16, 3) := by decide +kernel
theorem dX13_forget_9 : decode cX13_forget 9 = .ok (.aload_n 0, 1) := by decide +kernel
theorem dX13_forget_10 : decode cX13_forget 10 = .ok (.getfield 277, 3) := by decide +kernel
theorem dX13_forget_13 : decode cX13_forget 13 = .ok (.iload_n 1, 1) := by decide +kernel
theorem dX13_forget_14 : decode cX13_forget 14 = .ok (.iconst 0, 1) := by decide +kernel
theorem dX13_forget_15 : decode cX13_forget 15 = .ok (.iastore, 1) := by decide +kernel
theorem dX13_forget_16 : decode cX13_forget 16 = .ok (.iinc 1 1, 3) := by decide +kernel
theorem dX13_forget_19 : decode cX13_forget 19 = .ok (.goto (-17), 3) := by decide +kernel
theorem dX13_forget_22 : decode cX13_forget 22 = .ok (.iconst 0, 1) := by decide +kernel
theorem dX13_forget_23 : decode cX13_forget 23 = .ok (.istore_n 1, 1) := by decide +kernel
theorem dX13_forget_24 : decode cX13_forget 24 = .ok (.iload_n 1, 1) := by decide +kernel
theorem dX13_forget_25 : decode cX13_forget 25 = .ok (.bipush 24, 2) := by decide +kernel
theorem dX13_forget_27 : decode cX13_forget 27 = .ok (.if_icmp .ge 16, 3) := by decide +kernel
theorem dX13_forget_30 : decode cX13_forget 30 = .ok (.aload_n 0, 1) := by decide +kernel
theorem dX13_forget_31 : decode cX13_forget 31 = .ok (.getfield 280, 3) := by decide +kernel
theorem dX13_forget_34 : decode cX13_forget 34 = .ok (.iload_n 1, 1) := by decide +kernel
theorem dX13_forget_35 : decode cX13_forget 35 = .ok (.iconst (-1), 1) := by decide +kernel
theorem dX13_forget_36 : decode cX13_forget 36 = .ok (.iastore, 1) := by decide +kernel
theorem dX13_forget_37 : decode cX13_forget 37 = .ok (.iinc 1 1, 3) := by decide +kernel
theorem dX13_forget_40 : decode cX13_forget 40 = .ok (.goto (-16), 3) := by decide +kernel
theorem dX13_forget_43 : decode cX13_forget 43 = .ok (.return_, 1) := by decide +kernel
theorem dX13_feed_0 : decode cX13_feed 0 = .ok (.aload_n 0, 1) := by decide +kernel
theorem dX13_feed_1 : decode cX13_feed 1 = .ok (.getfield 295, 3) := by decide +kernel
theorem dX13_feed_4 : decode cX13_feed 4 = .ok (.bipush 20, 2) := by decide +kernel
theorem dX13_feed_6 : decode cX13_feed 6 = .ok (.iadd, 1) := by decide +kernel
theorem dX13_feed_7 : decode cX13_feed 7 = .ok (.sipush 4000, 3) := by decide +kernel
theorem dX13_feed_10 : decode cX13_feed 10 = .ok (.if_icmp .le 6, 3) := by decide +kernel
theorem dX13_feed_13 : decode cX13_feed 13 = .ok (.bipush (-3), 2) := by decide +kernel
theorem dX13_feed_15 : decode cX13_feed 15 = .ok (.ireturn, 1) := by decide +kernel
theorem dX13_feed_16 : decode cX13_feed 16 = .ok (.aload_n 0, 1) := by decide +kernel
theorem dX13_feed_17 : decode cX13_feed 17 = .ok (.iload_n 1, 1) := by decide +kernel
theorem dX13_feed_18 : decode cX13_feed 18 = .ok (.invokevirtual 298, 3) := by decide +kernel
theorem dX13_feed_21 : decode cX13_feed 21 = .ok (.aload_n 0, 1) := by decide +kernel
theorem dX13_feed_22 : decode cX13_feed 22 = .ok (.iload_n 2, 1) := by decide +kernel
theorem dX13_feed_23 : decode cX13_feed 23 = .ok (.invokevirtual 298, 3) := by decide +kernel
theorem dX13_feed_26 : decode cX13_feed 26 = .ok (.aload_n 0, 1) := by decide +kernel
theorem dX13_feed_27 : decode cX13_feed 27 = .ok (.iload_n 3, 1) := by decide +kernel
theorem dX13_feed_28 : decode cX13_feed 28 = .ok (.invokevirtual 298, 3) := by decide +kernel
theorem dX13_feed_31 : decode cX13_feed 31 = .ok (.aload_n 0, 1) := by decide +kernel
theorem dX13_feed_32 : decode cX13_feed 32 = .ok (.iload 4, 2) := by decide +kernel
theorem dX13_feed_34 : decode cX13_feed 34 = .ok (.invokevirtual 298, 3) := by decide +kernel
theorem dX13_feed_37 : decode cX13_feed 37 = .ok (.aload_n 0, 1) := by decide +kernel
theorem dX13_feed_38 : decode cX13_feed 38 = .ok (.iload 5, 2) := by decide +kernel
theorem dX13_feed_40 : decode cX13_feed 40 = .ok (.invokevirtual 298, 3) := by decide +kernel
theorem dX13_feed_43 : decode cX13_feed 43 = .ok (.aload_n 0, 1) := by decide +kernel
theorem dX13_feed_44 : decode cX13_feed 44 = .ok (.getfield 295, 3) := by decide +kernel
theorem dX13_feed_47 : decode cX13_feed 47 = .ok (.ireturn, 1) := by decide +kernel
theorem dX13_lay_0 : decode cX13_lay 0 = .ok (.bipush 24, 2) := by decide +kernel
theorem dX13_lay_2 : decode cX13_lay 2 = .ok (.istore_n 2, 1) := by decide +kernel
theorem dX13_lay_3 : decode cX13_lay 3 = .ok (.iload_n 2, 1) := by decide +kernel
theorem dX13_lay_4 : decode cX13_lay 4 = .ok (.ifCond .lt 32, 3) := by decide +kernel
theorem dX13_lay_7 : decode cX13_lay 7 = .ok (.aload_n 0, 1) := by decide +kernel
theorem dX13_lay_8 : decode cX13_lay 8 = .ok (.getfield 73, 3) := by decide +kernel
theorem dX13_lay_11 : decode cX13_lay 11 = .ok (.aload_n 0, 1) := by decide +kernel
theorem dX13_lay_12 : decode cX13_lay 12 = .ok (.getfield 295, 3) := by decide +kernel
theorem dX13_lay_15 : decode cX13_lay 15 = .ok (.iload_n 1, 1) := by decide +kernel
theorem dX13_lay_16 : decode cX13_lay 16 = .ok (.iload_n 2, 1) := by decide +kernel
theorem dX13_lay_17 : decode cX13_lay 17 = .ok (.ishr, 1) := by decide +kernel
theorem dX13_lay_18 : decode cX13_lay 18 = .ok (.i2b, 1) := by decide +kernel
theorem dX13_lay_19 : decode cX13_lay 19 = .ok (.bastore, 1) := by decide +kernel
theorem dX13_lay_20 : decode cX13_lay 20 = .ok (.aload_n 0, 1) := by decide +kernel
theorem dX13_lay_21 : decode cX13_lay 21 = .ok (.dup, 1) := by decide +kernel
theorem dX13_lay_22 : decode cX13_lay 22 = .ok (.getfield 295, 3) := by decide +kernel
theorem dX13_lay_25 : decode cX13_lay 25 = .ok (.iconst 1, 1) := by decide +kernel
theorem dX13_lay_26 : decode cX13_lay 26 = .ok (.iadd, 1) := by decide +kernel
theorem dX13_lay_27 : decode cX13_lay 27 = .ok (.putfield 295, 3) := by decide +kernel
theorem dX13_lay_30 : decode cX13_lay 30 = .ok (.iinc 2 (-8), 3) := by decide +kernel
theorem dX13_lay_33 : decode cX13_lay 33 = .ok (.goto (-30), 3) := by decide +kernel
theorem dX13_lay_36 : decode cX13_lay 36 = .ok (.return_, 1) := by decide +kernel
theorem dX13_end_0 : decode cX13_end 0 = .ok (.iload_n 1, 1) := by decide +kernel
theorem dX13_end_1 : decode cX13_end 1 = .ok (.i2l, 1) := by decide +kernel
theorem dX13_end_2 : decode cX13_end 2 = .ok (.lconst 0, 1) := by decide +kernel
theorem dX13_end_3 : decode cX13_end 3 = .ok (.aload_n 0, 1) := by decide +kernel
theorem dX13_end_4 : decode cX13_end 4 = .ok (.getfield 295, 3) := by decide +kernel
theorem dX13_end_7 : decode cX13_end 7 = .ok (.i2l, 1) := by decide +kernel
theorem dX13_end_8 : decode cX13_end 8 = .ok (.invokestatic 301, 3) := by decide +kernel
theorem dX13_end_11 : decode cX13_end 11 = .ok (.ifCond .ne 5, 3) := by decide +kernel
theorem dX13_end_14 : decode cX13_end 14 = .ok (.iconst (-1), 1) := by decide +kernel
theorem dX13_end_15 : decode cX13_end 15 = .ok (.ireturn, 1) := by decide +kernel
theorem dX13_end_16 : decode cX13_end 16 = .ok (.aload_n 0, 1) := by decide +kernel
theorem dX13_end_17 : decode cX13_end 17 = .ok (.iload_n 1, 1) := by decide +kernel
theorem dX13_end_18 : decode cX13_end 18 = .ok (.putfield 295, 3) := by decide +kernel
theorem dX13_end_21 : decode cX13_end 21 = .ok (.iload_n 1, 1) := by decide +kernel
theorem dX13_end_22 : decode cX13_end 22 = .ok (.ireturn, 1) := by decide +kernel
theorem dX13_in_0 : decode cX13_in 0 = .ok (.lload_n 0, 1) := by decide +kernel
theorem dX13_in_1 : decode cX13_in 1 = .ok (.lload_n 2, 1) := by decide +kernel
theorem dX13_in_2 : decode cX13_in 2 = .ok (.lcmp, 1) := by decide +kernel
theorem dX13_in_3 : decode cX13_in 3 = .ok (.ifCond .lt 14, 3) := by decide +kernel
theorem dX13_in_6 : decode cX13_in 6 = .ok (.lload_n 0, 1) := by decide +kernel
theorem dX13_in_7 : decode cX13_in 7 = .ok (.lload 4, 2) := by decide +kernel
theorem dX13_in_9 : decode cX13_in 9 = .ok (.lcmp, 1) := by decide +kernel
theorem dX13_in_10 : decode cX13_in 10 = .ok (.ifCond .gt 7, 3) := by decide +kernel
theorem dX13_in_13 : decode cX13_in 13 = .ok (.iconst 1, 1) := by decide +kernel
theorem dX13_in_14 : decode cX13_in 14 = .ok (.goto 4, 3) := by decide +kernel
theorem dX13_in_17 : decode cX13_in 17 = .ok (.iconst 0, 1) := by decide +kernel
theorem dX13_in_18 : decode cX13_in 18 = .ok (.ireturn, 1) := by decide +kernel
theorem dX13_book_0 : decode cX13_book 0 = .ok (.aload_n 0, 1) := by decide +kernel
theorem dX13_book_1 : decode cX13_book 1 = .ok (.aload_n 0, 1) := by decide +kernel
theorem dX13_book_2 : decode cX13_book 2 = .ok (.getfield 295, 3) := by decide +kernel
theorem dX13_book_5 : decode cX13_book 5 = .ok (.putfield 70, 3) := by decide +kernel
theorem dX13_book_8 : decode cX13_book 8 = .ok (.aload_n 0, 1) := by decide +kernel
theorem dX13_book_9 : decode cX13_book 9 = .ok (.iconst 0, 1) := by decide +kernel
theorem dX13_book_10 : decode cX13_book 10 = .ok (.putfield 295, 3) := by decide +kernel
theorem dX13_book_13 : decode cX13_book 13 = .ok (.aload_n 0, 1) := by decide +kernel
theorem dX13_book_14 : decode cX13_book 14 = .ok (.iconst 0, 1) := by decide +kernel
theorem dX13_book_15 : decode cX13_book 15 = .ok (.putfield 56, 3) := by decide +kernel
theorem dX13_book_18 : decode cX13_book 18 = .ok (.aload_n 0, 1) := by decide +kernel
theorem dX13_book_19 : decode cX13_book 19 = .ok (.iconst (-1), 1) := by decide +kernel
theorem dX13_book_20 : decode cX13_book 20 = .ok (.putfield 63, 3) := by decide +kernel
theorem dX13_book_23 : decode cX13_book 23 = .ok (.aload_n 0, 1) := by decide +kernel
theorem dX13_book_24 : decode cX13_book 24 = .ok (.invokevirtual 304, 3) := by decide +kernel
theorem dX13_book_27 : decode cX13_book 27 = .ok (.goto 6, 3) := by decide +kernel
theorem dX13_book_30 : decode cX13_book 30 = .ok (.astore_n 1, 1) := by decide +kernel
theorem dX13_book_31 : decode cX13_book 31 = .ok (.iconst (-1), 1) := by decide +kernel
theorem dX13_book_32 : decode cX13_book 32 = .ok (.ireturn, 1) := by decide +kernel
theorem dX13_book_33 : decode cX13_book 33 = .ok (.aload_n 0, 1) := by decide +kernel
theorem dX13_book_34 : decode cX13_book 34 = .ok (.invokevirtual 307, 3) := by decide +kernel
theorem dX13_book_37 : decode cX13_book 37 = .ok (.aload_n 0, 1) := by decide +kernel
theorem dX13_book_38 : decode cX13_book 38 = .ok (.invokevirtual 292, 3) := by decide +kernel
theorem dX13_book_41 : decode cX13_book 41 = .ok (.aload_n 0, 1) := by decide +kernel
theorem dX13_book_42 : decode cX13_book 42 = .ok (.iconst 0, 1) := by decide +kernel
theorem dX13_book_43 : decode cX13_book 43 = .ok (.putfield 310, 3) := by decide +kernel
theorem dX13_book_46 : decode cX13_book 46 = .ok (.aload_n 0, 1) := by decide +kernel
theorem dX13_book_47 : decode cX13_book 47 = .ok (.iconst 0, 1) := by decide +kernel
theorem dX13_book_48 : decode cX13_book 48 = .ok (.putfield 313, 3) := by decide +kernel
theorem dX13_book_51 : decode cX13_book 51 = .ok (.aload_n 0, 1) := by decide +kernel
theorem dX13_book_52 : decode cX13_book 52 = .ok (.getfield 10, 3) := by decide +kernel
theorem dX13_book_55 : decode cX13_book 55 = .ok (.iconst 0, 1) := by decide +kernel
theorem dX13_book_56 : decode cX13_book 56 = .ok (.iaload, 1) := by decide +kernel
theorem dX13_book_57 : decode cX13_book 57 = .ok (.ireturn, 1) := by decide +kernel
theorem dX13_readBook_0 : decode cX13_readBook 0 = .ok (.aload_n 0, 1) := by decide +kernel
theorem dX13_readBook_1 : decode cX13_readBook 1 = .ok (.getfield 1, 3) := by decide +kernel
theorem dX13_readBook_4 : decode cX13_readBook 4 = .ok (.iconst 1, 1) := by decide +kernel
theorem dX13_readBook_5 : decode cX13_readBook 5 = .ok (.iconst 0, 1) := by decide +kernel
theorem dX13_readBook_6 : decode cX13_readBook 6 = .ok (.iastore, 1) := by decide +kernel
theorem dX13_readBook_7 : decode cX13_readBook 7 = .ok (.aload_n 0, 1) := by decide +kernel
theorem dX13_readBook_8 : decode cX13_readBook 8 = .ok (.getfield 7, 3) := by decide +kernel
theorem dX13_readBook_11 : decode cX13_readBook 11 = .ok (.iconst 1, 1) := by decide +kernel
theorem dX13_readBook_12 : decode cX13_readBook 12 = .ok (.iconst 0, 1) := by decide +kernel
theorem dX13_readBook_13 : decode cX13_readBook 13 = .ok (.iastore, 1) := by decide +kernel
theorem dX13_readBook_14 : decode cX13_readBook 14 = .ok (.aload_n 0, 1) := by decide +kernel
theorem dX13_readBook_15 : decode cX13_readBook 15 = .ok (.getfield 10, 3) := by decide +kernel
theorem dX13_readBook_18 : decode cX13_readBook 18 = .ok (.iconst 1, 1) := by decide +kernel
theorem dX13_readBook_19 : decode cX13_readBook 19 = .ok (.iconst 0, 1) := by decide +kernel
theorem dX13_readBook_20 : decode cX13_readBook 20 = .ok (.iastore, 1) := by decide +kernel
theorem dX13_readBook_21 : decode cX13_readBook 21 = .ok (.aload_n 0, 1) := by decide +kernel
theorem dX13_readBook_22 : decode cX13_readBook 22 = .ok (.iconst 0, 1) := by decide +kernel
theorem dX13_readBook_23 : decode cX13_readBook 23 = .ok (.putfield 76, 3) := by decide +kernel
theorem dX13_readBook_26 : decode cX13_readBook 26 = .ok (.aload_n 0, 1) := by decide +kernel
theorem dX13_readBook_27 : decode cX13_readBook 27 = .ok (.invokevirtual 111, 3) := by decide +kernel
theorem dX13_readBook_30 : decode cX13_readBook 30 = .ok (.aload_n 0, 1) := by decide +kernel
theorem dX13_readBook_31 : decode cX13_readBook 31 = .ok (.getfield 83, 3) := by decide +kernel
