theorem dM_areSo_0 : decode mM_areSo.2.1 0 = .ok (.iconst 1, 1) := by decide +kernel
theorem dM_areSo_1 : decode mM_areSo.2.1 1 = .ok (.istore_n 1, 1) := by decide +kernel
theorem dM_areSo_2 : decode mM_areSo.2.1 2 = .ok (.iconst 0, 1) := by decide +kernel
theorem dM_areSo_3 : decode mM_areSo.2.1 3 = .ok (.istore_n 2, 1) := by decide +kernel
theorem dM_areSo_4 : decode mM_areSo.2.1 4 = .ok (.iload_n 2, 1) := by decide +kernel
theorem dM_areSo_5 : decode mM_areSo.2.1 5 = .ok (.aload_n 0, 1) := by decide +kernel
theorem dM_areSo_6 : decode mM_areSo.2.1 6 = .ok (.getfield 145, 3) := by decide +kernel
theorem dM_areSo_9 : decode mM_areSo.2.1 9 = .ok (.if_icmp .ge 44, 3) := by decide +kernel
theorem dM_areSo_12 : decode mM_areSo.2.1 12 = .ok (.iload_n 1, 1) := by decide +kernel
theorem dM_areSo_13 : decode mM_areSo.2.1 13 = .ok (.ifCond .eq 32, 3) := by decide +kernel
theorem dM_areSo_16 : decode mM_areSo.2.1 16 = .ok (.aload_n 0, 1) := by decide +kernel
theorem dM_areSo_17 : decode mM_areSo.2.1 17 = .ok (.aload_n 0, 1) := by decide +kernel
theorem dM_areSo_18 : decode mM_areSo.2.1 18 = .ok (.getfield 43, 3) := by decide +kernel
theorem dM_areSo_21 : decode mM_areSo.2.1 21 = .ok (.iload_n 2, 1) := by decide +kernel
theorem dM_areSo_22 : decode mM_areSo.2.1 22 = .ok (.iaload, 1) := by decide +kernel
theorem dM_areSo_23 : decode mM_areSo.2.1 23 = .ok (.aload_n 0, 1) := by decide +kernel
theorem dM_areSo_24 : decode mM_areSo.2.1 24 = .ok (.getfield 46, 3) := by decide +kernel
theorem dM_areSo_27 : decode mM_areSo.2.1 27 = .ok (.iload_n 2, 1) := by decide +kernel
theorem dM_areSo_28 : decode mM_areSo.2.1 28 = .ok (.iaload, 1) := by decide +kernel
theorem dM_areSo_29 : decode mM_areSo.2.1 29 = .ok (.invokevirtual 151, 3) := by decide +kernel
theorem dM_areSo_32 : decode mM_areSo.2.1 32 = .ok (.aload_n 0, 1) := by decide +kernel
theorem dM_areSo_33 : decode mM_areSo.2.1 33 = .ok (.getfield 49, 3) := by decide +kernel
theorem dM_areSo_36 : decode mM_areSo.2.1 36 = .ok (.iload_n 2, 1) := by decide +kernel
theorem dM_areSo_37 : decode mM_areSo.2.1 37 = .ok (.baload, 1) := by decide +kernel
theorem dM_areSo_38 : decode mM_areSo.2.1 38 = .ok (.if_icmp .ne 7, 3) := by decide +kernel
theorem dM_areSo_41 : decode mM_areSo.2.1 41 = .ok (.iconst 1, 1) := by decide +kernel
theorem dM_areSo_42 : decode mM_areSo.2.1 42 = .ok (.goto 4, 3) := by decide +kernel
theorem dM_areSo_45 : decode mM_areSo.2.1 45 = .ok (.iconst 0, 1) := by decide +kernel
theorem dM_areSo_46 : decode mM_areSo.2.1 46 = .ok (.istore_n 1, 1) := by decide +kernel
theorem dM_areSo_47 : decode mM_areSo.2.1 47 = .ok (.iinc 2 1, 3) := by decide +kernel
theorem dM_areSo_50 : decode mM_areSo.2.1 50 = .ok (.goto (-46), 3) := by decide +kernel
theorem dM_areSo_53 : decode mM_areSo.2.1 53 = .ok (.iload_n 1, 1) := by decide +kernel
theorem dM_areSo_54 : decode mM_areSo.2.1 54 = .ok (.ireturn, 1) := by decide +kernel
theorem dM_as_0 : decode mM_as.2.1 0 = .ok (.aload_n 0, 1) := by decide +kernel
theorem dM_as_1 : decode mM_as.2.1 1 = .ok (.iload_n 1, 1) := by decide +kernel
theorem dM_as_2 : decode mM_as.2.1 2 = .ok (.invokevirtual 154, 3) := by decide +kernel
theorem dM_as_5 : decode mM_as.2.1 5 = .ok (.ifCond .eq 9, 3) := by decide +kernel
theorem dM_as_8 : decode mM_as.2.1 8 = .ok (.aload_n 0, 1) := by decide +kernel
theorem dM_as_9 : decode mM_as.2.1 9 = .ok (.iconst (-1), 1) := by decide +kernel
theorem dM_as_10 : decode mM_as.2.1 10 = .ok (.invokevirtual 127, 3) := by decide +kernel
theorem dM_as_13 : decode mM_as.2.1 13 = .ok (.ireturn, 1) := by decide +kernel
theorem dM_as_14 : decode mM_as.2.1 14 = .ok (.iload_n 2, 1) := by decide +kernel
theorem dM_as_15 : decode mM_as.2.1 15 = .ok (.i2l, 1) := by decide +kernel
theorem dM_as_16 : decode mM_as.2.1 16 = .ok (.lconst 0, 1) := by decide +kernel
theorem dM_as_17 : decode mM_as.2.1 17 = .ok (.ldc2_w 130, 3) := by decide +kernel
theorem dM_as_20 : decode mM_as.2.1 20 = .ok (.invokestatic 78, 3) := by decide +kernel
theorem dM_as_23 : decode mM_as.2.1 23 = .ok (.ifCond .ne 10, 3) := by decide +kernel
theorem dM_as_26 : decode mM_as.2.1 26 = .ok (.aload_n 0, 1) := by decide +kernel
theorem dM_as_27 : decode mM_as.2.1 27 = .ok (.bipush (-2), 2) := by decide +kernel
theorem dM_as_29 : decode mM_as.2.1 29 = .ok (.invokevirtual 127, 3) := by decide +kernel
theorem dM_as_32 : decode mM_as.2.1 32 = .ok (.ireturn, 1) := by decide +kernel
theorem dM_as_33 : decode mM_as.2.1 33 = .ok (.aload_n 0, 1) := by decide +kernel
theorem dM_as_34 : decode mM_as.2.1 34 = .ok (.getfield 16, 3) := by decide +kernel
theorem dM_as_37 : decode mM_as.2.1 37 = .ok (.iload_n 1, 1) := by decide +kernel
theorem dM_as_38 : decode mM_as.2.1 38 = .ok (.iaload, 1) := by decide +kernel
theorem dM_as_39 : decode mM_as.2.1 39 = .ok (.iload_n 2, 1) := by decide +kernel
theorem dM_as_40 : decode mM_as.2.1 40 = .ok (.if_icmp .lt 11, 3) := by decide +kernel
theorem dM_as_43 : decode mM_as.2.1 43 = .ok (.aload_n 0, 1) := by decide +kernel
theorem dM_as_44 : decode mM_as.2.1 44 = .ok (.iconst 1, 1) := by decide +kernel
theorem dM_as_45 : decode mM_as.2.1 45 = .ok (.invokevirtual 127, 3) := by decide +kernel
theorem dM_as_48 : decode mM_as.2.1 48 = .ok (.goto 8, 3) := by decide +kernel
theorem dM_as_51 : decode mM_as.2.1 51 = .ok (.aload_n 0, 1) := by decide +kernel
theorem dM_as_52 : decode mM_as.2.1 52 = .ok (.iconst 2, 1) := by decide +kernel
theorem dM_as_53 : decode mM_as.2.1 53 = .ok (.invokevirtual 115, 3) := by decide +kernel
theorem dM_as_56 : decode mM_as.2.1 56 = .ok (.ireturn, 1) := by decide +kernel
theorem dM_ask_0 : decode mM_ask.2.1 0 = .ok (.aload_n 0, 1) := by decide +kernel
theorem dM_ask_1 : decode mM_ask.2.1 1 = .ok (.getfield 75, 3) := by decide +kernel
theorem dM_ask_4 : decode mM_ask.2.1 4 = .ok (.ifCond .ne 6, 3) := by decide +kernel
theorem dM_ask_7 : decode mM_ask.2.1 7 = .ok (.bipush (-3), 2) := by decide +kernel
theorem dM_ask_9 : decode mM_ask.2.1 9 = .ok (.ireturn, 1) := by decide +kernel
theorem dM_ask_10 : decode mM_ask.2.1 10 = .ok (.iload_n 1, 1) := by decide +kernel
theorem dM_ask_11 : decode mM_ask.2.1 11 = .ok (.i2l, 1) := by decide +kernel
theorem dM_ask_12 : decode mM_ask.2.1 12 = .ok (.lconst 0, 1) := by decide +kernel
theorem dM_ask_13 : decode mM_ask.2.1 13 = .ok (.aload_n 0, 1) := by decide +kernel
theorem dM_ask_14 : decode mM_ask.2.1 14 = .ok (.invokevirtual 196, 3) := by decide +kernel
theorem dM_ask_17 : decode mM_ask.2.1 17 = .ok (.i2l, 1) := by decide +kernel
theorem dM_ask_18 : decode mM_ask.2.1 18 = .ok (.invokestatic 78, 3) := by decide +kernel
theorem dM_ask_21 : decode mM_ask.2.1 21 = .ok (.ifCond .ne 6, 3) := by decide +kernel
theorem dM_ask_24 : decode mM_ask.2.1 24 = .ok (.bipush (-2), 2) := by decide +kernel
theorem dM_ask_26 : decode mM_ask.2.1 26 = .ok (.ireturn, 1) := by decide +kernel
theorem dM_ask_27 : decode mM_ask.2.1 27 = .ok (.bipush (-9), 2) := by decide +kernel
theorem dM_ask_29 : decode mM_ask.2.1 29 = .ok (.istore_n 2, 1) := by decide +kernel
theorem dM_ask_30 : decode mM_ask.2.1 30 = .ok (.bipush 99, 2) := by decide +kernel
theorem dM_ask_32 : decode mM_ask.2.1 32 = .ok (.istore_n 3, 1) := by decide +kernel
theorem dM_ask_33 : decode mM_ask.2.1 33 = .ok (.iconst 0, 1) := by decide +kernel
theorem dM_ask_34 : decode mM_ask.2.1 34 = .ok (.istore 4, 2) := by decide +kernel
theorem dM_ask_36 : decode mM_ask.2.1 36 = .ok (.iload 4, 2) := by decide +kernel
theorem dM_ask_38 : decode mM_ask.2.1 38 = .ok (.aload_n 0, 1) := by decide +kernel
theorem dM_ask_39 : decode mM_ask.2.1 39 = .ok (.getfield 82, 3) := by decide +kernel
theorem dM_ask_42 : decode mM_ask.2.1 42 = .ok (.if_icmp .ge 100, 3) := by decide +kernel
theorem dM_ask_45 : decode mM_ask.2.1 45 = .ok (.iconst 0, 1) := by decide +kernel
theorem dM_ask_46 : decode mM_ask.2.1 46 = .ok (.istore 5, 2) := by decide +kernel
theorem dM_ask_48 : decode mM_ask.2.1 48 = .ok (.iload 5, 2) := by decide +kernel
theorem dM_ask_50 : decode mM_ask.2.1 50 = .ok (.aload_n 0, 1) := by decide +kernel
theorem dM_ask_51 : decode mM_ask.2.1 51 = .ok (.getfield 75, 3) := by decide +kernel
theorem dM_ask_54 : decode mM_ask.2.1 54 = .ok (.if_icmp .ge 82, 3) := by decide +kernel
theorem dM_ask_57 : decode mM_ask.2.1 57 = .ok (.iload_n 1, 1) := by decide +kernel
theorem dM_ask_58 : decode mM_ask.2.1 58 = .ok (.iload 5, 2) := by decide +kernel
theorem dM_ask_60 : decode mM_ask.2.1 60 = .ok (.invokestatic 200, 3) := by decide +kernel
theorem dM_ask_63 : decode mM_ask.2.1 63 = .ok (.ifCond .eq 29, 3) := by decide +kernel
theorem dM_ask_66 : decode mM_ask.2.1 66 = .ok (.aload_n 0, 1) := by decide +kernel
theorem dM_ask_67 : decode mM_ask.2.1 67 = .ok (.iload 5, 2) := by decide +kernel
theorem dM_ask_69 : decode mM_ask.2.1 69 = .ok (.iload 4, 2) := by decide +kernel
theorem dM_ask_71 : decode mM_ask.2.1 71 = .ok (.invokevirtual 151, 3) := by decide +kernel
theorem dM_ask_74 : decode mM_ask.2.1 74 = .ok (.ifCond .eq 18, 3) := by decide +kernel
theorem dM_ask_77 : decode mM_ask.2.1 77 = .ok (.aload_n 0, 1) := by decide +kernel
theorem dM_ask_78 : decode mM_ask.2.1 78 = .ok (.getfield 13, 3) := by decide +kernel
theorem dM_ask_81 : decode mM_ask.2.1 81 = .ok (.iload 4, 2) := by decide +kernel
theorem dM_ask_83 : decode mM_ask.2.1 83 = .ok (.iaload, 1) := by decide +kernel
theorem dM_ask_84 : decode mM_ask.2.1 84 = .ok (.iload_n 3, 1) := by decide +kernel
theorem dM_ask_85 : decode mM_ask.2.1 85 = .ok (.if_icmp .ge 7, 3) := by decide +kernel
theorem dM_ask_88 : decode mM_ask.2.1 88 = .ok (.iconst 1, 1) := by decide +kernel
theorem dM_ask_89 : decode mM_ask.2.1 89 = .ok (.goto 4, 3) := by decide +kernel
theorem dM_ask_92 : decode mM_ask.2.1 92 = .ok (.iconst 0, 1) := by decide +kernel
theorem dM_ask_93 : decode mM_ask.2.1 93 = .ok (.istore 6, 2) := by decide +kernel
theorem dM_ask_95 : decode mM_ask.2.1 95 = .ok (.iload 6, 2) := by decide +kernel
theorem dM_ask_97 : decode mM_ask.2.1 97 = .ok (.ifCond .eq 14, 3) := by decide +kernel
theorem dM_ask_100 : decode mM_ask.2.1 100 = .ok (.bipush 10, 2) := by decide +kernel
theorem dM_ask_102 : decode mM_ask.2.1 102 = .ok (.iload 5, 2) := by decide +kernel
theorem dM_ask_104 : decode mM_ask.2.1 104 = .ok (.imul, 1) := by decide +kernel
theorem dM_ask_105 : decode mM_ask.2.1 105 = .ok (.iload 4, 2) := by decide +kernel
theorem dM_ask_107 : decode mM_ask.2.1 107 = .ok (.iadd, 1) := by decide +kernel
theorem dM_ask_108 : decode mM_ask.2.1 108 = .ok (.goto 4, 3) := by decide +kernel
theorem dM_ask_111 : decode mM_ask.2.1 111 = .ok (.iload_n 2, 1) := by decide +kernel
theorem dM_ask_112 : decode mM_ask.2.1 112 = .ok (.istore_n 2, 1) := by decide +kernel
theorem dM_ask_113 : decode mM_ask.2.1 113 = .ok (.iload 6, 2) := by decide +kernel
theorem dM_ask_115 : decode mM_ask.2.1 115 = .ok (.ifCond .eq 13, 3) := by decide +kernel
theorem dM_ask_118 : decode mM_ask.2.1 118 = .ok (.aload_n 0, 1) := by decide +kernel
theorem dM_ask_119 : decode mM_ask.2.1 119 = .ok (.getfield 13, 3) := by decide +kernel
theorem dM_ask_122 : decode mM_ask.2.1 122 = .ok (.iload 4, 2) := by decide +kernel
theorem dM_ask_124 : decode mM_ask.2.1 124 = .ok (.iaload, 1) := by decide +kernel
theorem dM_ask_125 : decode mM_ask.2.1 125 = .ok (.goto 4, 3) := by decide +kernel
theorem dM_ask_128 : decode mM_ask.2.1 128 = .ok (.iload_n 3, 1) := by decide +kernel
theorem dM_ask_129 : decode mM_ask.2.1 129 = .ok (.istore_n 3, 1) := by decide +kernel
theorem dM_ask_130 : decode mM_ask.2.1 130 = .ok (.iinc 5 1, 3) := by decide +kernel
theorem dM_ask_133 : decode mM_ask.2.1 133 = .ok (.goto (-85), 3) := by decide +kernel
theorem dM_ask_136 : decode mM_ask.2.1 136 = .ok (.iinc 4 1, 3) := by decide +kernel
theorem dM_ask_139 : decode mM_ask.2.1 139 = .ok (.goto (-103), 3) := by decide +kernel
theorem dM_ask_142 : decode mM_ask.2.1 142 = .ok (.iload_n 2, 1) := by decide +kernel
theorem dM_ask_143 : decode mM_ask.2.1 143 = .ok (.ireturn, 1) := by decide +kernel
theorem dM_back_0 : decode mM_back.2.1 0 = .ok (.iload_n 1, 1) := by decide +kernel
theorem dM_back_1 : decode mM_back.2.1 1 = .ok (.i2l, 1) := by decide +kernel
theorem dM_back_2 : decode mM_back.2.1 2 = .ok (.lconst 0, 1) := by decide +kernel
theorem dM_back_3 : decode mM_back.2.1 3 = .ok (.aload_n 0, 1) := by decide +kernel
theorem dM_back_4 : decode mM_back.2.1 4 = .ok (.getfield 145, 3) := by decide +kernel
theorem dM_back_7 : decode mM_back.2.1 7 = .ok (.i2l, 1) := by decide +kernel
theorem dM_back_8 : decode mM_back.2.1 8 = .ok (.invokestatic 78, 3) := by decide +kernel
theorem dM_back_11 : decode mM_back.2.1 11 = .ok (.ifCond .ne 6, 3) := by decide +kernel
theorem dM_back_14 : decode mM_back.2.1 14 = .ok (.bipush (-2), 2) := by decide +kernel
theorem dM_back_16 : decode mM_back.2.1 16 = .ok (.ireturn, 1) := by decide +kernel
theorem dM_back_17 : decode mM_back.2.1 17 = .ok (.aload_n 0, 1) := by decide +kernel
theorem dM_back_18 : decode mM_back.2.1 18 = .ok (.dup, 1) := by decide +kernel
theorem dM_back_19 : decode mM_back.2.1 19 = .ok (.getfield 145, 3) := by decide +kernel
theorem dM_back_22 : decode mM_back.2.1 22 = .ok (.iload_n 1, 1) := by decide +kernel
theorem dM_back_23 : decode mM_back.2.1 23 = .ok (.isub, 1) := by decide +kernel
theorem dM_back_24 : decode mM_back.2.1 24 = .ok (.putfield 145, 3) := by decide +kernel
theorem dM_back_27 : decode mM_back.2.1 27 = .ok (.aload_n 0, 1) := by decide +kernel
theorem dM_back_28 : decode mM_back.2.1 28 = .ok (.getfield 145, 3) := by decide +kernel
theorem dM_back_31 : decode mM_back.2.1 31 = .ok (.ireturn, 1) := by decide +kernel
theorem dM_cell_0 : decode mM_cell.2.1 0 = .ok (.aload_n 0, 1) := by decide +kernel
theorem dM_cell_1 : decode mM_cell.2.1 1 = .ok (.iconst 0, 1) := by decide +kernel
theorem dM_cell_2 : decode mM_cell.2.1 2 = .ok (.putfield 67, 3) := by decide +kernel
theorem dM_cell_5 : decode mM_cell.2.1 5 = .ok (.iload_n 1, 1) := by decide +kernel
theorem dM_cell_6 : decode mM_cell.2.1 6 = .ok (.invokestatic 123, 3) := by decide +kernel
theorem dM_cell_9 : decode mM_cell.2.1 9 = .ok (.ifCond .ne 15, 3) := by decide +kernel
theorem dM_cell_12 : decode mM_cell.2.1 12 = .ok (.iload_n 3, 1) := by decide +kernel
theorem dM_cell_13 : decode mM_cell.2.1 13 = .ok (.i2l, 1) := by decide +kernel
theorem dM_cell_14 : decode mM_cell.2.1 14 = .ok (.lconst 0, 1) := by decide +kernel
theorem dM_cell_15 : decode mM_cell.2.1 15 = .ok (.ldc2_w 130, 3) := by decide +kernel
theorem dM_cell_18 : decode mM_cell.2.1 18 = .ok (.invokestatic 78, 3) := by decide +kernel
theorem dM_cell_21 : decode mM_cell.2.1 21 = .ok (.ifCond .ne 7, 3) := by decide +kernel
theorem dM_cell_24 : decode mM_cell.2.1 24 = .ok (.invokestatic 71, 3) := by decide +kernel
theorem dM_cell_27 : decode mM_cell.2.1 27 = .ok (.lreturn, 1) := by decide +kernel
theorem dM_cell_28 : decode mM_cell.2.1 28 = .ok (.aload_n 0, 1) := by decide +kernel
theorem dM_cell_29 : decode mM_cell.2.1 29 = .ok (.getfield 53, 3) := by decide +kernel
theorem dM_cell_32 : decode mM_cell.2.1 32 = .ok (.iload_n 1, 1) := by decide +kernel
theorem dM_cell_33 : decode mM_cell.2.1 33 = .ok (.iaload, 1) := by decide +kernel
theorem dM_cell_34 : decode mM_cell.2.1 34 = .ok (.ifCond .lt 19, 3) := by decide +kernel
theorem dM_cell_37 : decode mM_cell.2.1 37 = .ok (.aload_n 0, 1) := by decide +kernel
theorem dM_cell_38 : decode mM_cell.2.1 38 = .ok (.getfield 56, 3) := by decide +kernel
theorem dM_cell_41 : decode mM_cell.2.1 41 = .ok (.iload_n 1, 1) := by decide +kernel
theorem dM_cell_42 : decode mM_cell.2.1 42 = .ok (.iaload, 1) := by decide +kernel
theorem dM_cell_43 : decode mM_cell.2.1 43 = .ok (.iload_n 3, 1) := by decide +kernel
theorem dM_cell_44 : decode mM_cell.2.1 44 = .ok (.if_icmp .eq 9, 3) := by decide +kernel
theorem dM_cell_47 : decode mM_cell.2.1 47 = .ok (.aload_n 0, 1) := by decide +kernel
theorem dM_cell_48 : decode mM_cell.2.1 48 = .ok (.iconst 2, 1) := by decide +kernel
theorem dM_cell_49 : decode mM_cell.2.1 49 = .ok (.invokevirtual 232, 3) := by decide +kernel
theorem dM_cell_52 : decode mM_cell.2.1 52 = .ok (.lreturn, 1) := by decide +kernel
theorem dM_cell_53 : decode mM_cell.2.1 53 = .ok (.aload_n 0, 1) := by decide +kernel
theorem dM_cell_54 : decode mM_cell.2.1 54 = .ok (.iload_n 1, 1) := by decide +kernel
theorem dM_cell_55 : decode mM_cell.2.1 55 = .ok (.iload_n 2, 1) := by decide +kernel
theorem dM_cell_56 : decode mM_cell.2.1 56 = .ok (.invokevirtual 229, 3) := by decide +kernel
theorem dM_cell_59 : decode mM_cell.2.1 59 = .ok (.ifCond .le 16, 3) := by decide +kernel
theorem dM_cell_62 : decode mM_cell.2.1 62 = .ok (.aload_n 0, 1) := by decide +kernel
theorem dM_cell_63 : decode mM_cell.2.1 63 = .ok (.aload_n 0, 1) := by decide +kernel
theorem dM_cell_64 : decode mM_cell.2.1 64 = .ok (.iload_n 1, 1) := by decide +kernel
theorem dM_cell_65 : decode mM_cell.2.1 65 = .ok (.iload_n 2, 1) := by decide +kernel
theorem dM_cell_66 : decode mM_cell.2.1 66 = .ok (.invokevirtual 229, 3) := by decide +kernel
theorem dM_cell_69 : decode mM_cell.2.1 69 = .ok (.invokevirtual 232, 3) := by decide +kernel
theorem dM_cell_72 : decode mM_cell.2.1 72 = .ok (.goto 15, 3) := by decide +kernel
theorem dM_cell_75 : decode mM_cell.2.1 75 = .ok (.aload_n 0, 1) := by decide +kernel
theorem dM_cell_76 : decode mM_cell.2.1 76 = .ok (.getfield 59, 3) := by decide +kernel
theorem dM_cell_79 : decode mM_cell.2.1 79 = .ok (.bipush 60, 2) := by decide +kernel
theorem dM_cell_81 : decode mM_cell.2.1 81 = .ok (.iload_n 1, 1) := by decide +kernel
theorem dM_cell_82 : decode mM_cell.2.1 82 = .ok (.imul, 1) := by decide +kernel
theorem dM_cell_83 : decode mM_cell.2.1 83 = .ok (.iload_n 2, 1) := by decide +kernel
theorem dM_cell_84 : decode mM_cell.2.1 84 = .ok (.iadd, 1) := by decide +kernel
theorem dM_cell_85 : decode mM_cell.2.1 85 = .ok (.iaload, 1) := by decide +kernel
theorem dM_cell_86 : decode mM_cell.2.1 86 = .ok (.i2l, 1) := by decide +kernel
theorem dM_cell_87 : decode mM_cell.2.1 87 = .ok (.lreturn, 1) := by decide +kernel
theorem dM_cellsBarred_0 : decode mM_cellsBarred.2.1 0 = .ok (.aload_n 0, 1) := by decide +kernel
theorem dM_cellsBarred_1 : decode mM_cellsBarred.2.1 1 = .ok (.getfield 53, 3) := by decide +kernel
theorem dM_cellsBarred_4 : decode mM_cellsBarred.2.1 4 = .ok (.iload_n 1, 1) := by decide +kernel
theorem dM_cellsBarred_5 : decode mM_cellsBarred.2.1 5 = .ok (.iaload, 1) := by decide +kernel
theorem dM_cellsBarred_6 : decode mM_cellsBarred.2.1 6 = .ok (.ifCond .lt 19, 3) := by decide +kernel
theorem dM_cellsBarred_9 : decode mM_cellsBarred.2.1 9 = .ok (.aload_n 0, 1) := by decide +kernel
theorem dM_cellsBarred_10 : decode mM_cellsBarred.2.1 10 = .ok (.getfield 56, 3) := by decide +kernel
theorem dM_cellsBarred_13 : decode mM_cellsBarred.2.1 13 = .ok (.iload_n 1, 1) := by decide +kernel
theorem dM_cellsBarred_14 : decode mM_cellsBarred.2.1 14 = .ok (.iaload, 1) := by decide +kernel
theorem dM_cellsBarred_15 : decode mM_cellsBarred.2.1 15 = .ok (.iload_n 2, 1) := by decide +kernel
theorem dM_cellsBarred_16 : decode mM_cellsBarred.2.1 16 = .ok (.if_icmp .eq 9, 3) := by decide +kernel
theorem dM_cellsBarred_19 : decode mM_cellsBarred.2.1 19 = .ok (.aload_n 0, 1) := by decide +kernel
theorem dM_cellsBarred_20 : decode mM_cellsBarred.2.1 20 = .ok (.iconst 2, 1) := by decide +kernel
theorem dM_cellsBarred_21 : decode mM_cellsBarred.2.1 21 = .ok (.invokevirtual 115, 3) := by decide +kernel
theorem dM_cellsBarred_24 : decode mM_cellsBarred.2.1 24 = .ok (.ireturn, 1) := by decide +kernel
theorem dM_cellsBarred_25 : decode mM_cellsBarred.2.1 25 = .ok (.aload_n 0, 1) := by decide +kernel
theorem dM_cellsBarred_26 : decode mM_cellsBarred.2.1 26 = .ok (.getfield 53, 3) := by decide +kernel
theorem dM_cellsBarred_29 : decode mM_cellsBarred.2.1 29 = .ok (.iload_n 1, 1) := by decide +kernel
theorem dM_cellsBarred_30 : decode mM_cellsBarred.2.1 30 = .ok (.iaload, 1) := by decide +kernel
theorem dM_cellsBarred_31 : decode mM_cellsBarred.2.1 31 = .ok (.ifCond .ge 9, 3) := by decide +kernel
theorem dM_cellsBarred_34 : decode mM_cellsBarred.2.1 34 = .ok (.aload_n 0, 1) := by decide +kernel
theorem dM_cellsBarred_35 : decode mM_cellsBarred.2.1 35 = .ok (.iconst 1, 1) := by decide +kernel
theorem dM_cellsBarred_36 : decode mM_cellsBarred.2.1 36 = .ok (.invokevirtual 115, 3) := by decide +kernel
theorem dM_cellsBarred_39 : decode mM_cellsBarred.2.1 39 = .ok (.ireturn, 1) := by decide +kernel
theorem dM_cellsBarred_40 : decode mM_cellsBarred.2.1 40 = .ok (.lload 4, 2) := by decide +kernel
theorem dM_cellsBarred_42 : decode mM_cellsBarred.2.1 42 = .ok (.lconst 0, 1) := by decide +kernel
theorem dM_cellsBarred_43 : decode mM_cellsBarred.2.1 43 = .ok (.lcmp, 1) := by decide +kernel
theorem dM_cellsBarred_44 : decode mM_cellsBarred.2.1 44 = .ok (.ifCond .ge 9, 3) := by decide +kernel
theorem dM_cellsBarred_47 : decode mM_cellsBarred.2.1 47 = .ok (.aload_n 0, 1) := by decide +kernel
theorem dM_cellsBarred_48 : decode mM_cellsBarred.2.1 48 = .ok (.iconst 4, 1) := by decide +kernel
theorem dM_cellsBarred_49 : decode mM_cellsBarred.2.1 49 = .ok (.invokevirtual 115, 3) := by decide +kernel
theorem dM_cellsBarred_52 : decode mM_cellsBarred.2.1 52 = .ok (.ireturn, 1) := by decide +kernel
theorem dM_cellsBarred_53 : decode mM_cellsBarred.2.1 53 = .ok (.iload_n 3, 1) := by decide +kernel
theorem dM_cellsBarred_54 : decode mM_cellsBarred.2.1 54 = .ok (.lload 4, 2) := by decide +kernel
theorem dM_cellsBarred_56 : decode mM_cellsBarred.2.1 56 = .ok (.aload_n 0, 1) := by decide +kernel
theorem dM_cellsBarred_57 : decode mM_cellsBarred.2.1 57 = .ok (.getfield 53, 3) := by decide +kernel
theorem dM_cellsBarred_60 : decode mM_cellsBarred.2.1 60 = .ok (.iload_n 1, 1) := by decide +kernel
theorem dM_cellsBarred_61 : decode mM_cellsBarred.2.1 61 = .ok (.iaload, 1) := by decide +kernel
theorem dM_cellsBarred_62 : decode mM_cellsBarred.2.1 62 = .ok (.invokestatic 119, 3) := by decide +kernel
theorem dM_cellsBarred_65 : decode mM_cellsBarred.2.1 65 = .ok (.ifCond .eq 11, 3) := by decide +kernel
theorem dM_cellsBarred_68 : decode mM_cellsBarred.2.1 68 = .ok (.aload_n 0, 1) := by decide +kernel
theorem dM_cellsBarred_69 : decode mM_cellsBarred.2.1 69 = .ok (.iconst 3, 1) := by decide +kernel
theorem dM_cellsBarred_70 : decode mM_cellsBarred.2.1 70 = .ok (.invokevirtual 115, 3) := by decide +kernel
theorem dM_cellsBarred_73 : decode mM_cellsBarred.2.1 73 = .ok (.goto 4, 3) := by decide +kernel
theorem dM_cellsBarred_76 : decode mM_cellsBarred.2.1 76 = .ok (.iconst 0, 1) := by decide +kernel
theorem dM_cellsBarred_77 : decode mM_cellsBarred.2.1 77 = .ok (.ireturn, 1) := by decide +kernel
theorem dM_charms_0 : decode mM_charms.2.1 0 = .ok (.aload_n 0, 1) := by decide +kernel
theorem dM_charms_1 : decode mM_charms.2.1 1 = .ok (.iload_n 1, 1) := by decide +kernel
theorem dM_charms_2 : decode mM_charms.2.1 2 = .ok (.invokevirtual 157, 3) := by decide +kernel
theorem dM_charms_5 : decode mM_charms.2.1 5 = .ok (.ifCond .eq 5, 3) := by decide +kernel
theorem dM_charms_8 : decode mM_charms.2.1 8 = .ok (.iconst (-1), 1) := by decide +kernel
theorem dM_charms_9 : decode mM_charms.2.1 9 = .ok (.ireturn, 1) := by decide +kernel
theorem dM_charms_10 : decode mM_charms.2.1 10 = .ok (.aload_n 0, 1) := by decide +kernel
theorem dM_charms_11 : decode mM_charms.2.1 11 = .ok (.getfield 7, 3) := by decide +kernel
theorem dM_charms_14 : decode mM_charms.2.1 14 = .ok (.iload_n 1, 1) := by decide +kernel
theorem dM_charms_15 : decode mM_charms.2.1 15 = .ok (.iaload, 1) := by decide +kernel
theorem dM_charms_16 : decode mM_charms.2.1 16 = .ok (.istore_n 2, 1) := by decide +kernel
theorem dM_charms_17 : decode mM_charms.2.1 17 = .ok (.iconst 0, 1) := by decide +kernel
theorem dM_charms_18 : decode mM_charms.2.1 18 = .ok (.istore_n 3, 1) := by decide +kernel
theorem dM_charms_19 : decode mM_charms.2.1 19 = .ok (.iconst 0, 1) := by decide +kernel
theorem dM_charms_20 : decode mM_charms.2.1 20 = .ok (.istore 4, 2) := by decide +kernel
theorem dM_charms_22 : decode mM_charms.2.1 22 = .ok (.iload 4, 2) := by decide +kernel
theorem dM_charms_24 : decode mM_charms.2.1 24 = .ok (.bipush 10, 2) := by decide +kernel
theorem dM_charms_26 : decode mM_charms.2.1 26 = .ok (.if_icmp .ge 35, 3) := by decide +kernel
theorem dM_charms_29 : decode mM_charms.2.1 29 = .ok (.aload_n 0, 1) := by decide +kernel
theorem dM_charms_30 : decode mM_charms.2.1 30 = .ok (.getfield 7, 3) := by decide +kernel
theorem dM_charms_33 : decode mM_charms.2.1 33 = .ok (.iload_n 1, 1) := by decide +kernel
theorem dM_charms_34 : decode mM_charms.2.1 34 = .ok (.iload 4, 2) := by decide +kernel
theorem dM_charms_36 : decode mM_charms.2.1 36 = .ok (.iastore, 1) := by decide +kernel
theorem dM_charms_37 : decode mM_charms.2.1 37 = .ok (.iload_n 3, 1) := by decide +kernel
theorem dM_charms_38 : decode mM_charms.2.1 38 = .ok (.aload_n 0, 1) := by decide +kernel
theorem dM_charms_39 : decode mM_charms.2.1 39 = .ok (.invokevirtual 216, 3) := by decide +kernel
theorem dM_charms_42 : decode mM_charms.2.1 42 = .ok (.ifCond .eq 10, 3) := by decide +kernel
theorem dM_charms_45 : decode mM_charms.2.1 45 = .ok (.iconst 1, 1) := by decide +kernel
theorem dM_charms_46 : decode mM_charms.2.1 46 = .ok (.iload 4, 2) := by decide +kernel
theorem dM_charms_48 : decode mM_charms.2.1 48 = .ok (.ishl, 1) := by decide +kernel
theorem dM_charms_49 : decode mM_charms.2.1 49 = .ok (.goto 4, 3) := by decide +kernel
theorem dM_charms_52 : decode mM_charms.2.1 52 = .ok (.iconst 0, 1) := by decide +kernel
theorem dM_charms_53 : decode mM_charms.2.1 53 = .ok (.ior, 1) := by decide +kernel
theorem dM_charms_54 : decode mM_charms.2.1 54 = .ok (.istore_n 3, 1) := by decide +kernel
theorem dM_charms_55 : decode mM_charms.2.1 55 = .ok (.iinc 4 1, 3) := by decide +kernel
theorem dM_charms_58 : decode mM_charms.2.1 58 = .ok (.goto (-36), 3) := by decide +kernel
theorem dM_charms_61 : decode mM_charms.2.1 61 = .ok (.aload_n 0, 1) := by decide +kernel
theorem dM_charms_62 : decode mM_charms.2.1 62 = .ok (.getfield 7, 3) := by decide +kernel
theorem dM_charms_65 : decode mM_charms.2.1 65 = .ok (.iload_n 1, 1) := by decide +kernel
theorem dM_charms_66 : decode mM_charms.2.1 66 = .ok (.iload_n 2, 1) := by decide +kernel
theorem dM_charms_67 : decode mM_charms.2.1 67 = .ok (.iastore, 1) := by decide +kernel
theorem dM_charms_68 : decode mM_charms.2.1 68 = .ok (.iload_n 3, 1) := by decide +kernel
theorem dM_charms_69 : decode mM_charms.2.1 69 = .ok (.ireturn, 1) := by decide +kernel
theorem dM_codeAt_0 : decode mM_codeAt.2.1 0 = .ok (.aload_n 0, 1) := by decide +kernel
theorem dM_codeAt_1 : decode mM_codeAt.2.1 1 = .ok (.getfield 85, 3) := by decide +kernel
theorem dM_codeAt_4 : decode mM_codeAt.2.1 4 = .ok (.iload_n 2, 1) := by decide +kernel
theorem dM_codeAt_5 : decode mM_codeAt.2.1 5 = .ok (.if_icmp .ge 17, 3) := by decide +kernel
theorem dM_codeAt_8 : decode mM_codeAt.2.1 8 = .ok (.aload_n 0, 1) := by decide +kernel
theorem dM_codeAt_9 : decode mM_codeAt.2.1 9 = .ok (.getfield 59, 3) := by decide +kernel
theorem dM_codeAt_12 : decode mM_codeAt.2.1 12 = .ok (.iload_n 1, 1) := by decide +kernel
theorem dM_codeAt_13 : decode mM_codeAt.2.1 13 = .ok (.aload_n 0, 1) := by decide +kernel
theorem dM_codeAt_14 : decode mM_codeAt.2.1 14 = .ok (.getfield 85, 3) := by decide +kernel
theorem dM_codeAt_17 : decode mM_codeAt.2.1 17 = .ok (.iadd, 1) := by decide +kernel
theorem dM_codeAt_18 : decode mM_codeAt.2.1 18 = .ok (.iaload, 1) := by decide +kernel
theorem dM_codeAt_19 : decode mM_codeAt.2.1 19 = .ok (.goto 5, 3) := by decide +kernel
theorem dM_codeAt_22 : decode mM_codeAt.2.1 22 = .ok (.bipush (-9), 2) := by decide +kernel
theorem dM_codeAt_24 : decode mM_codeAt.2.1 24 = .ok (.ireturn, 1) := by decide +kernel
theorem dM_copy_0 : decode mM_copy.2.1 0 = .ok (.iload_n 1, 1) := by decide +kernel
theorem dM_copy_1 : decode mM_copy.2.1 1 = .ok (.invokestatic 123, 3) := by decide +kernel
theorem dM_copy_4 : decode mM_copy.2.1 4 = .ok (.ifCond .ne 10, 3) := by decide +kernel
theorem dM_copy_7 : decode mM_copy.2.1 7 = .ok (.iload_n 3, 1) := by decide +kernel
theorem dM_copy_8 : decode mM_copy.2.1 8 = .ok (.invokestatic 123, 3) := by decide +kernel
theorem dM_copy_11 : decode mM_copy.2.1 11 = .ok (.ifCond .eq 9, 3) := by decide +kernel
theorem dM_copy_14 : decode mM_copy.2.1 14 = .ok (.aload_n 0, 1) := by decide +kernel
theorem dM_copy_15 : decode mM_copy.2.1 15 = .ok (.iconst (-1), 1) := by decide +kernel
theorem dM_copy_16 : decode mM_copy.2.1 16 = .ok (.invokevirtual 127, 3) := by decide +kernel
theorem dM_copy_19 : decode mM_copy.2.1 19 = .ok (.ireturn, 1) := by decide +kernel
theorem dM_copy_20 : decode mM_copy.2.1 20 = .ok (.aload_n 0, 1) := by decide +kernel
theorem dM_copy_21 : decode mM_copy.2.1 21 = .ok (.getfield 53, 3) := by decide +kernel
theorem dM_copy_24 : decode mM_copy.2.1 24 = .ok (.iload_n 1, 1) := by decide +kernel
theorem dM_copy_25 : decode mM_copy.2.1 25 = .ok (.iaload, 1) := by decide +kernel
theorem dM_copy_26 : decode mM_copy.2.1 26 = .ok (.ifCond .lt 12, 3) := by decide +kernel
theorem dM_copy_29 : decode mM_copy.2.1 29 = .ok (.aload_n 0, 1) := by decide +kernel
theorem dM_copy_30 : decode mM_copy.2.1 30 = .ok (.getfield 53, 3) := by decide +kernel
theorem dM_copy_33 : decode mM_copy.2.1 33 = .ok (.iload_n 3, 1) := by decide +kernel
theorem dM_copy_34 : decode mM_copy.2.1 34 = .ok (.iaload, 1) := by decide +kernel
theorem dM_copy_35 : decode mM_copy.2.1 35 = .ok (.ifCond .ge 9, 3) := by decide +kernel
theorem dM_copy_38 : decode mM_copy.2.1 38 = .ok (.aload_n 0, 1) := by decide +kernel
theorem dM_copy_39 : decode mM_copy.2.1 39 = .ok (.iconst 1, 1) := by decide +kernel
theorem dM_copy_40 : decode mM_copy.2.1 40 = .ok (.invokevirtual 115, 3) := by decide +kernel
theorem dM_copy_43 : decode mM_copy.2.1 43 = .ok (.ireturn, 1) := by decide +kernel
theorem dM_copy_44 : decode mM_copy.2.1 44 = .ok (.aload_n 0, 1) := by decide +kernel
theorem dM_copy_45 : decode mM_copy.2.1 45 = .ok (.getfield 56, 3) := by decide +kernel
theorem dM_copy_48 : decode mM_copy.2.1 48 = .ok (.iload_n 1, 1) := by decide +kernel
theorem dM_copy_49 : decode mM_copy.2.1 49 = .ok (.iaload, 1) := by decide +kernel
theorem dM_copy_50 : decode mM_copy.2.1 50 = .ok (.aload_n 0, 1) := by decide +kernel
theorem dM_copy_51 : decode mM_copy.2.1 51 = .ok (.getfield 56, 3) := by decide +kernel
theorem dM_copy_54 : decode mM_copy.2.1 54 = .ok (.iload_n 3, 1) := by decide +kernel
theorem dM_copy_55 : decode mM_copy.2.1 55 = .ok (.iaload, 1) := by decide +kernel
theorem dM_copy_56 : decode mM_copy.2.1 56 = .ok (.if_icmp .eq 9, 3) := by decide +kernel
theorem dM_copy_59 : decode mM_copy.2.1 59 = .ok (.aload_n 0, 1) := by decide +kernel
theorem dM_copy_60 : decode mM_copy.2.1 60 = .ok (.iconst 2, 1) := by decide +kernel
theorem dM_copy_61 : decode mM_copy.2.1 61 = .ok (.invokevirtual 115, 3) := by decide +kernel
theorem dM_copy_64 : decode mM_copy.2.1 64 = .ok (.ireturn, 1) := by decide +kernel
theorem dM_copy_65 : decode mM_copy.2.1 65 = .ok (.iload_n 2, 1) := by decide +kernel
theorem dM_copy_66 : decode mM_copy.2.1 66 = .ok (.iload 5, 2) := by decide +kernel
theorem dM_copy_68 : decode mM_copy.2.1 68 = .ok (.i2l, 1) := by decide +kernel
theorem dM_copy_69 : decode mM_copy.2.1 69 = .ok (.aload_n 0, 1) := by decide +kernel
theorem dM_copy_70 : decode mM_copy.2.1 70 = .ok (.getfield 53, 3) := by decide +kernel
theorem dM_copy_73 : decode mM_copy.2.1 73 = .ok (.iload_n 1, 1) := by decide +kernel
theorem dM_copy_74 : decode mM_copy.2.1 74 = .ok (.iaload, 1) := by decide +kernel
theorem dM_copy_75 : decode mM_copy.2.1 75 = .ok (.invokestatic 119, 3) := by decide +kernel
theorem dM_copy_78 : decode mM_copy.2.1 78 = .ok (.ifCond .ne 20, 3) := by decide +kernel
theorem dM_copy_81 : decode mM_copy.2.1 81 = .ok (.iload 4, 2) := by decide +kernel
theorem dM_copy_83 : decode mM_copy.2.1 83 = .ok (.iload 5, 2) := by decide +kernel
theorem dM_copy_85 : decode mM_copy.2.1 85 = .ok (.i2l, 1) := by decide +kernel
theorem dM_copy_86 : decode mM_copy.2.1 86 = .ok (.aload_n 0, 1) := by decide +kernel
theorem dM_copy_87 : decode mM_copy.2.1 87 = .ok (.getfield 53, 3) := by decide +kernel
theorem dM_copy_90 : decode mM_copy.2.1 90 = .ok (.iload_n 3, 1) := by decide +kernel
theorem dM_copy_91 : decode mM_copy.2.1 91 = .ok (.iaload, 1) := by decide +kernel
theorem dM_copy_92 : decode mM_copy.2.1 92 = .ok (.invokestatic 119, 3) := by decide +kernel
theorem dM_copy_95 : decode mM_copy.2.1 95 = .ok (.ifCond .eq 9, 3) := by decide +kernel
theorem dM_copy_98 : decode mM_copy.2.1 98 = .ok (.aload_n 0, 1) := by decide +kernel
theorem dM_copy_99 : decode mM_copy.2.1 99 = .ok (.iconst 3, 1) := by decide +kernel
theorem dM_copy_100 : decode mM_copy.2.1 100 = .ok (.invokevirtual 115, 3) := by decide +kernel
theorem dM_copy_103 : decode mM_copy.2.1 103 = .ok (.ireturn, 1) := by decide +kernel
theorem dM_copy_104 : decode mM_copy.2.1 104 = .ok (.iconst 0, 1) := by decide +kernel
theorem dM_copy_105 : decode mM_copy.2.1 105 = .ok (.istore 6, 2) := by decide +kernel
theorem dM_copy_107 : decode mM_copy.2.1 107 = .ok (.iload 6, 2) := by decide +kernel
theorem dM_copy_109 : decode mM_copy.2.1 109 = .ok (.iload 5, 2) := by decide +kernel
theorem dM_copy_111 : decode mM_copy.2.1 111 = .ok (.if_icmp .ge 30, 3) := by decide +kernel
theorem dM_copy_114 : decode mM_copy.2.1 114 = .ok (.aload_n 0, 1) := by decide +kernel
theorem dM_copy_115 : decode mM_copy.2.1 115 = .ok (.getfield 62, 3) := by decide +kernel
theorem dM_copy_118 : decode mM_copy.2.1 118 = .ok (.iload 6, 2) := by decide +kernel
theorem dM_copy_120 : decode mM_copy.2.1 120 = .ok (.aload_n 0, 1) := by decide +kernel
theorem dM_copy_121 : decode mM_copy.2.1 121 = .ok (.getfield 59, 3) := by decide +kernel
theorem dM_copy_124 : decode mM_copy.2.1 124 = .ok (.bipush 60, 2) := by decide +kernel
theorem dM_copy_126 : decode mM_copy.2.1 126 = .ok (.iload_n 1, 1) := by decide +kernel
theorem dM_copy_127 : decode mM_copy.2.1 127 = .ok (.imul, 1) := by decide +kernel
theorem dM_copy_128 : decode mM_copy.2.1 128 = .ok (.iload_n 2, 1) := by decide +kernel
theorem dM_copy_129 : decode mM_copy.2.1 129 = .ok (.iadd, 1) := by decide +kernel
theorem dM_copy_130 : decode mM_copy.2.1 130 = .ok (.iload 6, 2) := by decide +kernel
theorem dM_copy_132 : decode mM_copy.2.1 132 = .ok (.iadd, 1) := by decide +kernel
theorem dM_copy_133 : decode mM_copy.2.1 133 = .ok (.iaload, 1) := by decide +kernel
theorem dM_copy_134 : decode mM_copy.2.1 134 = .ok (.iastore, 1) := by decide +kernel
theorem dM_copy_135 : decode mM_copy.2.1 135 = .ok (.iinc 6 1, 3) := by decide +kernel
theorem dM_copy_138 : decode mM_copy.2.1 138 = .ok (.goto (-31), 3) := by decide +kernel
theorem dM_copy_141 : decode mM_copy.2.1 141 = .ok (.iconst 0, 1) := by decide +kernel
theorem dM_copy_142 : decode mM_copy.2.1 142 = .ok (.istore 6, 2) := by decide +kernel
theorem dM_copy_144 : decode mM_copy.2.1 144 = .ok (.iload 6, 2) := by decide +kernel
theorem dM_copy_146 : decode mM_copy.2.1 146 = .ok (.iload 5, 2) := by decide +kernel
theorem dM_copy_148 : decode mM_copy.2.1 148 = .ok (.if_icmp .ge 31, 3) := by decide +kernel
theorem dM_copy_151 : decode mM_copy.2.1 151 = .ok (.aload_n 0, 1) := by decide +kernel
theorem dM_copy_152 : decode mM_copy.2.1 152 = .ok (.getfield 59, 3) := by decide +kernel
theorem dM_copy_155 : decode mM_copy.2.1 155 = .ok (.bipush 60, 2) := by decide +kernel
theorem dM_copy_157 : decode mM_copy.2.1 157 = .ok (.iload_n 3, 1) := by decide +kernel
theorem dM_copy_158 : decode mM_copy.2.1 158 = .ok (.imul, 1) := by decide +kernel
theorem dM_copy_159 : decode mM_copy.2.1 159 = .ok (.iload 4, 2) := by decide +kernel
theorem dM_copy_161 : decode mM_copy.2.1 161 = .ok (.iadd, 1) := by decide +kernel
theorem dM_copy_162 : decode mM_copy.2.1 162 = .ok (.iload 6, 2) := by decide +kernel
theorem dM_copy_164 : decode mM_copy.2.1 164 = .ok (.iadd, 1) := by decide +kernel
theorem dM_copy_165 : decode mM_copy.2.1 165 = .ok (.aload_n 0, 1) := by decide +kernel
theorem dM_copy_166 : decode mM_copy.2.1 166 = .ok (.getfield 62, 3) := by decide +kernel
theorem dM_copy_169 : decode mM_copy.2.1 169 = .ok (.iload 6, 2) := by decide +kernel
theorem dM_copy_171 : decode mM_copy.2.1 171 = .ok (.iaload, 1) := by decide +kernel
theorem dM_copy_172 : decode mM_copy.2.1 172 = .ok (.iastore, 1) := by decide +kernel
theorem dM_copy_173 : decode mM_copy.2.1 173 = .ok (.iinc 6 1, 3) := by decide +kernel
theorem dM_copy_176 : decode mM_copy.2.1 176 = .ok (.goto (-32), 3) := by decide +kernel
theorem dM_copy_179 : decode mM_copy.2.1 179 = .ok (.aload_n 0, 1) := by decide +kernel
theorem dM_copy_180 : decode mM_copy.2.1 180 = .ok (.iload 5, 2) := by decide +kernel
theorem dM_copy_182 : decode mM_copy.2.1 182 = .ok (.invokevirtual 127, 3) := by decide +kernel
theorem dM_copy_185 : decode mM_copy.2.1 185 = .ok (.ireturn, 1) := by decide +kernel
theorem dM_doesLose_0 : decode mM_doesLose.2.1 0 = .ok (.aload_n 0, 1) := by decide +kernel
theorem dM_doesLose_1 : decode mM_doesLose.2.1 1 = .ok (.iload_n 1, 1) := by decide +kernel
theorem dM_doesLose_2 : decode mM_doesLose.2.1 2 = .ok (.iload_n 2, 1) := by decide +kernel
theorem dM_doesLose_3 : decode mM_doesLose.2.1 3 = .ok (.invokevirtual 148, 3) := by decide +kernel
theorem dM_doesLose_6 : decode mM_doesLose.2.1 6 = .ok (.aload_n 0, 1) := by decide +kernel
theorem dM_doesLose_7 : decode mM_doesLose.2.1 7 = .ok (.getfield 142, 3) := by decide +kernel
theorem dM_doesLose_10 : decode mM_doesLose.2.1 10 = .ok (.if_icmp .lt 7, 3) := by decide +kernel
theorem dM_doesLose_13 : decode mM_doesLose.2.1 13 = .ok (.iconst 1, 1) := by decide +kernel
theorem dM_doesLose_14 : decode mM_doesLose.2.1 14 = .ok (.goto 4, 3) := by decide +kernel
theorem dM_doesLose_17 : decode mM_doesLose.2.1 17 = .ok (.iconst 0, 1) := by decide +kernel
theorem dM_doesLose_18 : decode mM_doesLose.2.1 18 = .ok (.ireturn, 1) := by decide +kernel
theorem dM_dull_0 : decode mM_dull.2.1 0 = .ok (.aload_n 0, 1) := by decide +kernel
theorem dM_dull_1 : decode mM_dull.2.1 1 = .ok (.iload_n 1, 1) := by decide +kernel
theorem dM_dull_2 : decode mM_dull.2.1 2 = .ok (.invokevirtual 154, 3) := by decide +kernel
theorem dM_dull_5 : decode mM_dull.2.1 5 = .ok (.ifCond .eq 5, 3) := by decide +kernel
theorem dM_dull_8 : decode mM_dull.2.1 8 = .ok (.iconst (-1), 1) := by decide +kernel
theorem dM_dull_9 : decode mM_dull.2.1 9 = .ok (.ireturn, 1) := by decide +kernel
theorem dM_dull_10 : decode mM_dull.2.1 10 = .ok (.bipush (-9), 2) := by decide +kernel
theorem dM_dull_12 : decode mM_dull.2.1 12 = .ok (.istore_n 2, 1) := by decide +kernel
theorem dM_dull_13 : decode mM_dull.2.1 13 = .ok (.iconst 0, 1) := by decide +kernel
theorem dM_dull_14 : decode mM_dull.2.1 14 = .ok (.istore_n 3, 1) := by decide +kernel
theorem dM_dull_15 : decode mM_dull.2.1 15 = .ok (.iload_n 3, 1) := by decide +kernel
theorem dM_dull_16 : decode mM_dull.2.1 16 = .ok (.aload_n 0, 1) := by decide +kernel
theorem dM_dull_17 : decode mM_dull.2.1 17 = .ok (.getfield 82, 3) := by decide +kernel
theorem dM_dull_20 : decode mM_dull.2.1 20 = .ok (.if_icmp .ge 55, 3) := by decide +kernel
theorem dM_dull_23 : decode mM_dull.2.1 23 = .ok (.aload_n 0, 1) := by decide +kernel
theorem dM_dull_24 : decode mM_dull.2.1 24 = .ok (.iload_n 1, 1) := by decide +kernel
theorem dM_dull_25 : decode mM_dull.2.1 25 = .ok (.iload_n 3, 1) := by decide +kernel
theorem dM_dull_26 : decode mM_dull.2.1 26 = .ok (.invokevirtual 151, 3) := by decide +kernel
theorem dM_dull_29 : decode mM_dull.2.1 29 = .ok (.ifCond .ne 26, 3) := by decide +kernel
theorem dM_dull_32 : decode mM_dull.2.1 32 = .ok (.iload_n 2, 1) := by decide +kernel
theorem dM_dull_33 : decode mM_dull.2.1 33 = .ok (.ifCond .lt 18, 3) := by decide +kernel
theorem dM_dull_36 : decode mM_dull.2.1 36 = .ok (.aload_n 0, 1) := by decide +kernel
theorem dM_dull_37 : decode mM_dull.2.1 37 = .ok (.iload_n 1, 1) := by decide +kernel
theorem dM_dull_38 : decode mM_dull.2.1 38 = .ok (.iload_n 3, 1) := by decide +kernel
theorem dM_dull_39 : decode mM_dull.2.1 39 = .ok (.invokevirtual 148, 3) := by decide +kernel
theorem dM_dull_42 : decode mM_dull.2.1 42 = .ok (.aload_n 0, 1) := by decide +kernel
theorem dM_dull_43 : decode mM_dull.2.1 43 = .ok (.iload_n 1, 1) := by decide +kernel
theorem dM_dull_44 : decode mM_dull.2.1 44 = .ok (.iload_n 2, 1) := by decide +kernel
theorem dM_dull_45 : decode mM_dull.2.1 45 = .ok (.invokevirtual 148, 3) := by decide +kernel
theorem dM_dull_48 : decode mM_dull.2.1 48 = .ok (.if_icmp .le 7, 3) := by decide +kernel
theorem dM_dull_51 : decode mM_dull.2.1 51 = .ok (.iconst 1, 1) := by decide +kernel
theorem dM_dull_52 : decode mM_dull.2.1 52 = .ok (.goto 4, 3) := by decide +kernel
theorem dM_dull_55 : decode mM_dull.2.1 55 = .ok (.iconst 0, 1) := by decide +kernel
theorem dM_dull_56 : decode mM_dull.2.1 56 = .ok (.istore 4, 2) := by decide +kernel
theorem dM_dull_58 : decode mM_dull.2.1 58 = .ok (.iload 4, 2) := by decide +kernel
theorem dM_dull_60 : decode mM_dull.2.1 60 = .ok (.ifCond .eq 7, 3) := by decide +kernel
theorem dM_dull_63 : decode mM_dull.2.1 63 = .ok (.iload_n 3, 1) := by decide +kernel
theorem dM_dull_64 : decode mM_dull.2.1 64 = .ok (.goto 4, 3) := by decide +kernel
theorem dM_dull_67 : decode mM_dull.2.1 67 = .ok (.iload_n 2, 1) := by decide +kernel
theorem dM_dull_68 : decode mM_dull.2.1 68 = .ok (.istore_n 2, 1) := by decide +kernel
theorem dM_dull_69 : decode mM_dull.2.1 69 = .ok (.iinc 3 1, 3) := by decide +kernel
theorem dM_dull_72 : decode mM_dull.2.1 72 = .ok (.goto (-57), 3) := by decide +kernel
theorem dM_dull_75 : decode mM_dull.2.1 75 = .ok (.iload_n 2, 1) := by decide +kernel
theorem dM_dull_76 : decode mM_dull.2.1 76 = .ok (.ireturn, 1) := by decide +kernel
theorem dM_endingWith_0 : decode mM_endingWith.2.1 0 = .ok (.iconst 0, 1) := by decide +kernel
theorem dM_endingWith_1 : decode mM_endingWith.2.1 1 = .ok (.istore 5, 2) := by decide +kernel
theorem dM_endingWith_3 : decode mM_endingWith.2.1 3 = .ok (.iconst 0, 1) := by decide +kernel
theorem dM_endingWith_4 : decode mM_endingWith.2.1 4 = .ok (.istore 6, 2) := by decide +kernel
theorem dM_endingWith_6 : decode mM_endingWith.2.1 6 = .ok (.iload 6, 2) := by decide +kernel
theorem dM_endingWith_8 : decode mM_endingWith.2.1 8 = .ok (.aload_n 0, 1) := by decide +kernel
theorem dM_endingWith_9 : decode mM_endingWith.2.1 9 = .ok (.getfield 75, 3) := by decide +kernel
theorem dM_endingWith_12 : decode mM_endingWith.2.1 12 = .ok (.if_icmp .ge 46, 3) := by decide +kernel
theorem dM_endingWith_15 : decode mM_endingWith.2.1 15 = .ok (.aload_n 0, 1) := by decide +kernel
theorem dM_endingWith_16 : decode mM_endingWith.2.1 16 = .ok (.iload 6, 2) := by decide +kernel
theorem dM_endingWith_18 : decode mM_endingWith.2.1 18 = .ok (.iload_n 1, 1) := by decide +kernel
theorem dM_endingWith_19 : decode mM_endingWith.2.1 19 = .ok (.iload_n 2, 1) := by decide +kernel
theorem dM_endingWith_20 : decode mM_endingWith.2.1 20 = .ok (.invokevirtual 189, 3) := by decide +kernel
theorem dM_endingWith_23 : decode mM_endingWith.2.1 23 = .ok (.iload 5, 2) := by decide +kernel
theorem dM_endingWith_25 : decode mM_endingWith.2.1 25 = .ok (.aload_n 0, 1) := by decide +kernel
theorem dM_endingWith_26 : decode mM_endingWith.2.1 26 = .ok (.getfield 173, 3) := by decide +kernel
theorem dM_endingWith_29 : decode mM_endingWith.2.1 29 = .ok (.i2l, 1) := by decide +kernel
theorem dM_endingWith_30 : decode mM_endingWith.2.1 30 = .ok (.iload_n 3, 1) := by decide +kernel
theorem dM_endingWith_31 : decode mM_endingWith.2.1 31 = .ok (.i2l, 1) := by decide +kernel
theorem dM_endingWith_32 : decode mM_endingWith.2.1 32 = .ok (.iload 4, 2) := by decide +kernel
theorem dM_endingWith_34 : decode mM_endingWith.2.1 34 = .ok (.i2l, 1) := by decide +kernel
theorem dM_endingWith_35 : decode mM_endingWith.2.1 35 = .ok (.invokestatic 78, 3) := by decide +kernel
theorem dM_endingWith_38 : decode mM_endingWith.2.1 38 = .ok (.ifCond .eq 10, 3) := by decide +kernel
theorem dM_endingWith_41 : decode mM_endingWith.2.1 41 = .ok (.iconst 1, 1) := by decide +kernel
theorem dM_endingWith_42 : decode mM_endingWith.2.1 42 = .ok (.iload 6, 2) := by decide +kernel
theorem dM_endingWith_44 : decode mM_endingWith.2.1 44 = .ok (.ishl, 1) := by decide +kernel
theorem dM_endingWith_45 : decode mM_endingWith.2.1 45 = .ok (.goto 4, 3) := by decide +kernel
theorem dM_endingWith_48 : decode mM_endingWith.2.1 48 = .ok (.iconst 0, 1) := by decide +kernel
theorem dM_endingWith_49 : decode mM_endingWith.2.1 49 = .ok (.ior, 1) := by decide +kernel
theorem dM_endingWith_50 : decode mM_endingWith.2.1 50 = .ok (.istore 5, 2) := by decide +kernel
theorem dM_endingWith_52 : decode mM_endingWith.2.1 52 = .ok (.iinc 6 1, 3) := by decide +kernel
theorem dM_endingWith_55 : decode mM_endingWith.2.1 55 = .ok (.goto (-49), 3) := by decide +kernel
theorem dM_endingWith_58 : decode mM_endingWith.2.1 58 = .ok (.iload 5, 2) := by decide +kernel
theorem dM_endingWith_60 : decode mM_endingWith.2.1 60 = .ok (.ireturn, 1) := by decide +kernel
theorem dM_everybody_0 : decode mM_everybody.2.1 0 = .ok (.iconst 1, 1) := by decide +kernel
theorem dM_everybody_1 : decode mM_everybody.2.1 1 = .ok (.aload_n 0, 1) := by decide +kernel
theorem dM_everybody_2 : decode mM_everybody.2.1 2 = .ok (.getfield 75, 3) := by decide +kernel
theorem dM_everybody_5 : decode mM_everybody.2.1 5 = .ok (.ishl, 1) := by decide +kernel
theorem dM_everybody_6 : decode mM_everybody.2.1 6 = .ok (.iconst 1, 1) := by decide +kernel
theorem dM_everybody_7 : decode mM_everybody.2.1 7 = .ok (.isub, 1) := by decide +kernel
theorem dM_everybody_8 : decode mM_everybody.2.1 8 = .ok (.ireturn, 1) := by decide +kernel
theorem dM_failed_0 : decode mM_failed.2.1 0 = .ok (.aload_n 0, 1) := by decide +kernel
theorem dM_failed_1 : decode mM_failed.2.1 1 = .ok (.iload_n 1, 1) := by decide +kernel
theorem dM_failed_2 : decode mM_failed.2.1 2 = .ok (.putfield 67, 3) := by decide +kernel
theorem dM_failed_5 : decode mM_failed.2.1 5 = .ok (.bipush (-10), 2) := by decide +kernel
theorem dM_failed_7 : decode mM_failed.2.1 7 = .ok (.iload_n 1, 1) := by decide +kernel
theorem dM_failed_8 : decode mM_failed.2.1 8 = .ok (.isub, 1) := by decide +kernel
theorem dM_failed_9 : decode mM_failed.2.1 9 = .ok (.ireturn, 1) := by decide +kernel
theorem dM_failedLong_0 : decode mM_failedLong.2.1 0 = .ok (.aload_n 0, 1) := by decide +kernel
theorem dM_failedLong_1 : decode mM_failedLong.2.1 1 = .ok (.iload_n 1, 1) := by decide +kernel
theorem dM_failedLong_2 : decode mM_failedLong.2.1 2 = .ok (.putfield 67, 3) := by decide +kernel
theorem dM_failedLong_5 : decode mM_failedLong.2.1 5 = .ok (.invokestatic 71, 3) := by decide +kernel
theorem dM_failedLong_8 : decode mM_failedLong.2.1 8 = .ok (.lreturn, 1) := by decide +kernel
theorem dM_fault_0 : decode mM_fault.2.1 0 = .ok (.aload_n 0, 1) := by decide +kernel
theorem dM_fault_1 : decode mM_fault.2.1 1 = .ok (.getfield 67, 3) := by decide +kernel
theorem dM_fault_4 : decode mM_fault.2.1 4 = .ok (.ireturn, 1) := by decide +kernel
theorem dM_fewest_0 : decode mM_fewest.2.1 0 = .ok (.iload_n 1, 1) := by decide +kernel
theorem dM_fewest_1 : decode mM_fewest.2.1 1 = .ok (.iconst (-1), 1) := by decide +kernel
theorem dM_fewest_2 : decode mM_fewest.2.1 2 = .ok (.if_icmp .ge 5, 3) := by decide +kernel
theorem dM_fewest_5 : decode mM_fewest.2.1 5 = .ok (.iconst (-1), 1) := by decide +kernel
theorem dM_fewest_6 : decode mM_fewest.2.1 6 = .ok (.ireturn, 1) := by decide +kernel
theorem dM_fewest_7 : decode mM_fewest.2.1 7 = .ok (.aload_n 0, 1) := by decide +kernel
theorem dM_fewest_8 : decode mM_fewest.2.1 8 = .ok (.getfield 75, 3) := by decide +kernel
theorem dM_fewest_11 : decode mM_fewest.2.1 11 = .ok (.ifCond .ne 6, 3) := by decide +kernel
theorem dM_fewest_14 : decode mM_fewest.2.1 14 = .ok (.bipush (-3), 2) := by decide +kernel
theorem dM_fewest_16 : decode mM_fewest.2.1 16 = .ok (.ireturn, 1) := by decide +kernel
theorem dM_fewest_17 : decode mM_fewest.2.1 17 = .ok (.iconst 1, 1) := by decide +kernel
theorem dM_fewest_18 : decode mM_fewest.2.1 18 = .ok (.istore_n 2, 1) := by decide +kernel
theorem dM_fewest_19 : decode mM_fewest.2.1 19 = .ok (.iconst 0, 1) := by decide +kernel
theorem dM_fewest_20 : decode mM_fewest.2.1 20 = .ok (.istore_n 3, 1) := by decide +kernel
theorem dM_fewest_21 : decode mM_fewest.2.1 21 = .ok (.iload_n 3, 1) := by decide +kernel
theorem dM_fewest_22 : decode mM_fewest.2.1 22 = .ok (.aload_n 0, 1) := by decide +kernel
theorem dM_fewest_23 : decode mM_fewest.2.1 23 = .ok (.getfield 75, 3) := by decide +kernel
theorem dM_fewest_26 : decode mM_fewest.2.1 26 = .ok (.if_icmp .ge 16, 3) := by decide +kernel
theorem dM_fewest_29 : decode mM_fewest.2.1 29 = .ok (.iload_n 2, 1) := by decide +kernel
theorem dM_fewest_30 : decode mM_fewest.2.1 30 = .ok (.aload_n 0, 1) := by decide +kernel
theorem dM_fewest_31 : decode mM_fewest.2.1 31 = .ok (.getfield 82, 3) := by decide +kernel
theorem dM_fewest_34 : decode mM_fewest.2.1 34 = .ok (.imul, 1) := by decide +kernel
theorem dM_fewest_35 : decode mM_fewest.2.1 35 = .ok (.istore_n 2, 1) := by decide +kernel
theorem dM_fewest_36 : decode mM_fewest.2.1 36 = .ok (.iinc 3 1, 3) := by decide +kernel
theorem dM_fewest_39 : decode mM_fewest.2.1 39 = .ok (.goto (-18), 3) := by decide +kernel
theorem dM_fewest_42 : decode mM_fewest.2.1 42 = .ok (.bipush (-9), 2) := by decide +kernel
theorem dM_fewest_44 : decode mM_fewest.2.1 44 = .ok (.istore_n 3, 1) := by decide +kernel
theorem dM_fewest_45 : decode mM_fewest.2.1 45 = .ok (.iconst 0, 1) := by decide +kernel
theorem dM_fewest_46 : decode mM_fewest.2.1 46 = .ok (.istore 4, 2) := by decide +kernel
theorem dM_fewest_48 : decode mM_fewest.2.1 48 = .ok (.iconst 0, 1) := by decide +kernel
theorem dM_fewest_49 : decode mM_fewest.2.1 49 = .ok (.istore 5, 2) := by decide +kernel
theorem dM_fewest_51 : decode mM_fewest.2.1 51 = .ok (.iconst 0, 1) := by decide +kernel
theorem dM_fewest_52 : decode mM_fewest.2.1 52 = .ok (.istore 6, 2) := by decide +kernel
theorem dM_fewest_54 : decode mM_fewest.2.1 54 = .ok (.iload 6, 2) := by decide +kernel
theorem dM_fewest_56 : decode mM_fewest.2.1 56 = .ok (.iload_n 2, 1) := by decide +kernel
theorem dM_fewest_57 : decode mM_fewest.2.1 57 = .ok (.if_icmp .ge 82, 3) := by decide +kernel
theorem dM_fewest_60 : decode mM_fewest.2.1 60 = .ok (.aload_n 0, 1) := by decide +kernel
theorem dM_fewest_61 : decode mM_fewest.2.1 61 = .ok (.iload 6, 2) := by decide +kernel
theorem dM_fewest_63 : decode mM_fewest.2.1 63 = .ok (.invokevirtual 212, 3) := by decide +kernel
theorem dM_fewest_66 : decode mM_fewest.2.1 66 = .ok (.iload_n 3, 1) := by decide +kernel
theorem dM_fewest_67 : decode mM_fewest.2.1 67 = .ok (.ifCond .lt 30, 3) := by decide +kernel
theorem dM_fewest_70 : decode mM_fewest.2.1 70 = .ok (.aload_n 0, 1) := by decide +kernel
theorem dM_fewest_71 : decode mM_fewest.2.1 71 = .ok (.getfield 206, 3) := by decide +kernel
theorem dM_fewest_74 : decode mM_fewest.2.1 74 = .ok (.iload 4, 2) := by decide +kernel
theorem dM_fewest_76 : decode mM_fewest.2.1 76 = .ok (.if_icmp .lt 21, 3) := by decide +kernel
theorem dM_fewest_79 : decode mM_fewest.2.1 79 = .ok (.aload_n 0, 1) := by decide +kernel
theorem dM_fewest_80 : decode mM_fewest.2.1 80 = .ok (.getfield 206, 3) := by decide +kernel
theorem dM_fewest_83 : decode mM_fewest.2.1 83 = .ok (.iload 4, 2) := by decide +kernel
theorem dM_fewest_85 : decode mM_fewest.2.1 85 = .ok (.if_icmp .ne 16, 3) := by decide +kernel
theorem dM_fewest_88 : decode mM_fewest.2.1 88 = .ok (.aload_n 0, 1) := by decide +kernel
theorem dM_fewest_89 : decode mM_fewest.2.1 89 = .ok (.getfield 209, 3) := by decide +kernel
theorem dM_fewest_92 : decode mM_fewest.2.1 92 = .ok (.iload 5, 2) := by decide +kernel
theorem dM_fewest_94 : decode mM_fewest.2.1 94 = .ok (.if_icmp .le 7, 3) := by decide +kernel
theorem dM_fewest_97 : decode mM_fewest.2.1 97 = .ok (.iconst 1, 1) := by decide +kernel
theorem dM_fewest_98 : decode mM_fewest.2.1 98 = .ok (.goto 4, 3) := by decide +kernel
theorem dM_fewest_101 : decode mM_fewest.2.1 101 = .ok (.iconst 0, 1) := by decide +kernel
theorem dM_fewest_102 : decode mM_fewest.2.1 102 = .ok (.istore 7, 2) := by decide +kernel
theorem dM_fewest_104 : decode mM_fewest.2.1 104 = .ok (.aload_n 0, 1) := by decide +kernel
theorem dM_fewest_105 : decode mM_fewest.2.1 105 = .ok (.getfield 203, 3) := by decide +kernel
theorem dM_fewest_108 : decode mM_fewest.2.1 108 = .ok (.bipush 12, 2) := by decide +kernel
theorem dM_fewest_110 : decode mM_fewest.2.1 110 = .ok (.if_icmp .gt 23, 3) := by decide +kernel
theorem dM_fewest_113 : decode mM_fewest.2.1 113 = .ok (.iload 7, 2) := by decide +kernel
theorem dM_fewest_115 : decode mM_fewest.2.1 115 = .ok (.ifCond .eq 18, 3) := by decide +kernel
theorem dM_fewest_118 : decode mM_fewest.2.1 118 = .ok (.iload 6, 2) := by decide +kernel
theorem dM_fewest_120 : decode mM_fewest.2.1 120 = .ok (.istore_n 3, 1) := by decide +kernel
theorem dM_fewest_121 : decode mM_fewest.2.1 121 = .ok (.aload_n 0, 1) := by decide +kernel
theorem dM_fewest_122 : decode mM_fewest.2.1 122 = .ok (.getfield 206, 3) := by decide +kernel
theorem dM_fewest_125 : decode mM_fewest.2.1 125 = .ok (.istore 4, 2) := by decide +kernel
theorem dM_fewest_127 : decode mM_fewest.2.1 127 = .ok (.aload_n 0, 1) := by decide +kernel
theorem dM_fewest_128 : decode mM_fewest.2.1 128 = .ok (.getfield 209, 3) := by decide +kernel
theorem dM_fewest_131 : decode mM_fewest.2.1 131 = .ok (.istore 5, 2) := by decide +kernel
theorem dM_fewest_133 : decode mM_fewest.2.1 133 = .ok (.iinc 6 1, 3) := by decide +kernel
theorem dM_fewest_136 : decode mM_fewest.2.1 136 = .ok (.goto (-82), 3) := by decide +kernel
theorem dM_fewest_139 : decode mM_fewest.2.1 139 = .ok (.iload_n 3, 1) := by decide +kernel
theorem dM_fewest_140 : decode mM_fewest.2.1 140 = .ok (.ifCond .lt 11, 3) := by decide +kernel
theorem dM_fewest_143 : decode mM_fewest.2.1 143 = .ok (.iload_n 1, 1) := by decide +kernel
theorem dM_fewest_144 : decode mM_fewest.2.1 144 = .ok (.aload_n 0, 1) := by decide +kernel
theorem dM_fewest_145 : decode mM_fewest.2.1 145 = .ok (.getfield 75, 3) := by decide +kernel
theorem dM_fewest_148 : decode mM_fewest.2.1 148 = .ok (.if_icmp .lt 6, 3) := by decide +kernel
theorem dM_fewest_151 : decode mM_fewest.2.1 151 = .ok (.bipush (-9), 2) := by decide +kernel
theorem dM_fewest_153 : decode mM_fewest.2.1 153 = .ok (.ireturn, 1) := by decide +kernel
theorem dM_fewest_154 : decode mM_fewest.2.1 154 = .ok (.aload_n 0, 1) := by decide +kernel
theorem dM_fewest_155 : decode mM_fewest.2.1 155 = .ok (.iload_n 3, 1) := by decide +kernel
theorem dM_fewest_156 : decode mM_fewest.2.1 156 = .ok (.invokevirtual 212, 3) := by decide +kernel
theorem dM_fewest_159 : decode mM_fewest.2.1 159 = .ok (.iload_n 1, 1) := by decide +kernel
theorem dM_fewest_160 : decode mM_fewest.2.1 160 = .ok (.ifCond .ge 10, 3) := by decide +kernel
theorem dM_fewest_163 : decode mM_fewest.2.1 163 = .ok (.aload_n 0, 1) := by decide +kernel
theorem dM_fewest_164 : decode mM_fewest.2.1 164 = .ok (.getfield 206, 3) := by decide +kernel
theorem dM_fewest_167 : decode mM_fewest.2.1 167 = .ok (.goto 9, 3) := by decide +kernel
theorem dM_fewest_170 : decode mM_fewest.2.1 170 = .ok (.aload_n 0, 1) := by decide +kernel
theorem dM_fewest_171 : decode mM_fewest.2.1 171 = .ok (.getfield 40, 3) := by decide +kernel
theorem dM_fewest_174 : decode mM_fewest.2.1 174 = .ok (.iload_n 1, 1) := by decide +kernel
theorem dM_fewest_175 : decode mM_fewest.2.1 175 = .ok (.iaload, 1) := by decide +kernel
theorem dM_fewest_176 : decode mM_fewest.2.1 176 = .ok (.ireturn, 1) := by decide +kernel
theorem dM_figure_0 : decode mM_figure.2.1 0 = .ok (.aload_n 0, 1) := by decide +kernel
theorem dM_figure_1 : decode mM_figure.2.1 1 = .ok (.iload_n 1, 1) := by decide +kernel
theorem dM_figure_2 : decode mM_figure.2.1 2 = .ok (.iload_n 2, 1) := by decide +kernel
theorem dM_figure_3 : decode mM_figure.2.1 3 = .ok (.invokevirtual 88, 3) := by decide +kernel
theorem dM_figure_6 : decode mM_figure.2.1 6 = .ok (.bipush 48, 2) := by decide +kernel
theorem dM_figure_8 : decode mM_figure.2.1 8 = .ok (.isub, 1) := by decide +kernel
theorem dM_figure_9 : decode mM_figure.2.1 9 = .ok (.istore 5, 2) := by decide +kernel
theorem dM_figure_11 : decode mM_figure.2.1 11 = .ok (.iload 5, 2) := by decide +kernel
theorem dM_figure_13 : decode mM_figure.2.1 13 = .ok (.i2l, 1) := by decide +kernel
theorem dM_figure_14 : decode mM_figure.2.1 14 = .ok (.iload_n 3, 1) := by decide +kernel
theorem dM_figure_15 : decode mM_figure.2.1 15 = .ok (.i2l, 1) := by decide +kernel
theorem dM_figure_16 : decode mM_figure.2.1 16 = .ok (.iload 4, 2) := by decide +kernel
theorem dM_figure_18 : decode mM_figure.2.1 18 = .ok (.i2l, 1) := by decide +kernel
theorem dM_figure_19 : decode mM_figure.2.1 19 = .ok (.invokestatic 78, 3) := by decide +kernel
theorem dM_figure_22 : decode mM_figure.2.1 22 = .ok (.istore 6, 2) := by decide +kernel
theorem dM_figure_24 : decode mM_figure.2.1 24 = .ok (.aload_n 0, 1) := by decide +kernel
theorem dM_figure_25 : decode mM_figure.2.1 25 = .ok (.dup, 1) := by decide +kernel
theorem dM_figure_26 : decode mM_figure.2.1 26 = .ok (.getfield 85, 3) := by decide +kernel
theorem dM_figure_29 : decode mM_figure.2.1 29 = .ok (.iload 6, 2) := by decide +kernel
theorem dM_figure_31 : decode mM_figure.2.1 31 = .ok (.ifCond .eq 7, 3) := by decide +kernel
theorem dM_figure_34 : decode mM_figure.2.1 34 = .ok (.iconst 1, 1) := by decide +kernel
theorem dM_figure_35 : decode mM_figure.2.1 35 = .ok (.goto 4, 3) := by decide +kernel
theorem dM_figure_38 : decode mM_figure.2.1 38 = .ok (.iconst 0, 1) := by decide +kernel
theorem dM_figure_39 : decode mM_figure.2.1 39 = .ok (.iadd, 1) := by decide +kernel
theorem dM_figure_40 : decode mM_figure.2.1 40 = .ok (.putfield 85, 3) := by decide +kernel
theorem dM_figure_43 : decode mM_figure.2.1 43 = .ok (.iload 6, 2) := by decide +kernel
theorem dM_figure_45 : decode mM_figure.2.1 45 = .ok (.ifCond .eq 8, 3) := by decide +kernel
theorem dM_figure_48 : decode mM_figure.2.1 48 = .ok (.iload 5, 2) := by decide +kernel
theorem dM_figure_50 : decode mM_figure.2.1 50 = .ok (.goto 5, 3) := by decide +kernel
theorem dM_figure_53 : decode mM_figure.2.1 53 = .ok (.bipush (-9), 2) := by decide +kernel
theorem dM_figure_55 : decode mM_figure.2.1 55 = .ok (.ireturn, 1) := by decide +kernel
theorem dM_goSeason_0 : decode mM_goSeason.2.1 0 = .ok (.aload_n 0, 1) := by decide +kernel
theorem dM_goSeason_1 : decode mM_goSeason.2.1 1 = .ok (.bipush (-9), 2) := by decide +kernel
theorem dM_goSeason_3 : decode mM_goSeason.2.1 3 = .ok (.putfield 167, 3) := by decide +kernel
theorem dM_goSeason_6 : decode mM_goSeason.2.1 6 = .ok (.aload_n 0, 1) := by decide +kernel
theorem dM_goSeason_7 : decode mM_goSeason.2.1 7 = .ok (.bipush 12, 2) := by decide +kernel
theorem dM_goSeason_9 : decode mM_goSeason.2.1 9 = .ok (.putfield 170, 3) := by decide +kernel
theorem dM_goSeason_12 : decode mM_goSeason.2.1 12 = .ok (.aload_n 0, 1) := by decide +kernel
theorem dM_goSeason_13 : decode mM_goSeason.2.1 13 = .ok (.aload_n 0, 1) := by decide +kernel
theorem dM_goSeason_14 : decode mM_goSeason.2.1 14 = .ok (.getfield 139, 3) := by decide +kernel
theorem dM_goSeason_17 : decode mM_goSeason.2.1 17 = .ok (.putfield 173, 3) := by decide +kernel
theorem dM_goSeason_20 : decode mM_goSeason.2.1 20 = .ok (.aload_n 0, 1) := by decide +kernel
theorem dM_goSeason_21 : decode mM_goSeason.2.1 21 = .ok (.bipush (-9), 2) := by decide +kernel
theorem dM_goSeason_23 : decode mM_goSeason.2.1 23 = .ok (.putfield 176, 3) := by decide +kernel
theorem dM_goSeason_26 : decode mM_goSeason.2.1 26 = .ok (.aload_n 0, 1) := by decide +kernel
theorem dM_goSeason_27 : decode mM_goSeason.2.1 27 = .ok (.iconst 0, 1) := by decide +kernel
theorem dM_goSeason_28 : decode mM_goSeason.2.1 28 = .ok (.putfield 179, 3) := by decide +kernel
theorem dM_goSeason_31 : decode mM_goSeason.2.1 31 = .ok (.iconst 0, 1) := by decide +kernel
theorem dM_goSeason_32 : decode mM_goSeason.2.1 32 = .ok (.istore 4, 2) := by decide +kernel
theorem dM_goSeason_34 : decode mM_goSeason.2.1 34 = .ok (.iload 4, 2) := by decide +kernel
theorem dM_goSeason_36 : decode mM_goSeason.2.1 36 = .ok (.iload_n 3, 1) := by decide +kernel
theorem dM_goSeason_37 : decode mM_goSeason.2.1 37 = .ok (.if_icmp .ge 175, 3) := by decide +kernel
theorem dM_goSeason_40 : decode mM_goSeason.2.1 40 = .ok (.aload_n 0, 1) := by decide +kernel
theorem dM_goSeason_41 : decode mM_goSeason.2.1 41 = .ok (.getfield 167, 3) := by decide +kernel
theorem dM_goSeason_44 : decode mM_goSeason.2.1 44 = .ok (.ifCond .ge 168, 3) := by decide +kernel
theorem dM_goSeason_47 : decode mM_goSeason.2.1 47 = .ok (.aload_n 0, 1) := by decide +kernel
theorem dM_goSeason_48 : decode mM_goSeason.2.1 48 = .ok (.getfield 59, 3) := by decide +kernel
theorem dM_goSeason_51 : decode mM_goSeason.2.1 51 = .ok (.iload_n 2, 1) := by decide +kernel
theorem dM_goSeason_52 : decode mM_goSeason.2.1 52 = .ok (.iconst 2, 1) := by decide +kernel
theorem dM_goSeason_53 : decode mM_goSeason.2.1 53 = .ok (.iload 4, 2) := by decide +kernel
theorem dM_goSeason_55 : decode mM_goSeason.2.1 55 = .ok (.imul, 1) := by decide +kernel
theorem dM_goSeason_56 : decode mM_goSeason.2.1 56 = .ok (.iadd, 1) := by decide +kernel
theorem dM_goSeason_57 : decode mM_goSeason.2.1 57 = .ok (.iaload, 1) := by decide +kernel
theorem dM_goSeason_58 : decode mM_goSeason.2.1 58 = .ok (.istore 5, 2) := by decide +kernel
theorem dM_goSeason_60 : decode mM_goSeason.2.1 60 = .ok (.aload_n 0, 1) := by decide +kernel
theorem dM_goSeason_61 : decode mM_goSeason.2.1 61 = .ok (.getfield 59, 3) := by decide +kernel
theorem dM_goSeason_64 : decode mM_goSeason.2.1 64 = .ok (.iload_n 2, 1) := by decide +kernel
theorem dM_goSeason_65 : decode mM_goSeason.2.1 65 = .ok (.iconst 2, 1) := by decide +kernel
theorem dM_goSeason_66 : decode mM_goSeason.2.1 66 = .ok (.iload 4, 2) := by decide +kernel
theorem dM_goSeason_68 : decode mM_goSeason.2.1 68 = .ok (.imul, 1) := by decide +kernel
theorem dM_goSeason_69 : decode mM_goSeason.2.1 69 = .ok (.iadd, 1) := by decide +kernel
theorem dM_goSeason_70 : decode mM_goSeason.2.1 70 = .ok (.iconst 1, 1) := by decide +kernel
theorem dM_goSeason_71 : decode mM_goSeason.2.1 71 = .ok (.iadd, 1) := by decide +kernel
theorem dM_goSeason_72 : decode mM_goSeason.2.1 72 = .ok (.iaload, 1) := by decide +kernel
theorem dM_goSeason_73 : decode mM_goSeason.2.1 73 = .ok (.istore 6, 2) := by decide +kernel
theorem dM_goSeason_75 : decode mM_goSeason.2.1 75 = .ok (.aload_n 0, 1) := by decide +kernel
theorem dM_goSeason_76 : decode mM_goSeason.2.1 76 = .ok (.getfield 13, 3) := by decide +kernel
theorem dM_goSeason_79 : decode mM_goSeason.2.1 79 = .ok (.iload 6, 2) := by decide +kernel
theorem dM_goSeason_81 : decode mM_goSeason.2.1 81 = .ok (.iaload, 1) := by decide +kernel
theorem dM_goSeason_82 : decode mM_goSeason.2.1 82 = .ok (.aload_n 0, 1) := by decide +kernel
theorem dM_goSeason_83 : decode mM_goSeason.2.1 83 = .ok (.getfield 170, 3) := by decide +kernel
theorem dM_goSeason_86 : decode mM_goSeason.2.1 86 = .ok (.if_icmp .le 12, 3) := by decide +kernel
theorem dM_goSeason_89 : decode mM_goSeason.2.1 89 = .ok (.aload_n 0, 1) := by decide +kernel
theorem dM_goSeason_90 : decode mM_goSeason.2.1 90 = .ok (.iload 4, 2) := by decide +kernel
theorem dM_goSeason_92 : decode mM_goSeason.2.1 92 = .ok (.putfield 167, 3) := by decide +kernel
theorem dM_goSeason_95 : decode mM_goSeason.2.1 95 = .ok (.goto 111, 3) := by decide +kernel
theorem dM_goSeason_98 : decode mM_goSeason.2.1 98 = .ok (.aload_n 0, 1) := by decide +kernel
theorem dM_goSeason_99 : decode mM_goSeason.2.1 99 = .ok (.dup, 1) := by decide +kernel
theorem dM_goSeason_100 : decode mM_goSeason.2.1 100 = .ok (.getfield 170, 3) := by decide +kernel
theorem dM_goSeason_103 : decode mM_goSeason.2.1 103 = .ok (.aload_n 0, 1) := by decide +kernel
theorem dM_goSeason_104 : decode mM_goSeason.2.1 104 = .ok (.getfield 13, 3) := by decide +kernel
theorem dM_goSeason_107 : decode mM_goSeason.2.1 107 = .ok (.iload 6, 2) := by decide +kernel
theorem dM_goSeason_109 : decode mM_goSeason.2.1 109 = .ok (.iaload, 1) := by decide +kernel
theorem dM_goSeason_110 : decode mM_goSeason.2.1 110 = .ok (.isub, 1) := by decide +kernel
theorem dM_goSeason_111 : decode mM_goSeason.2.1 111 = .ok (.putfield 170, 3) := by decide +kernel
theorem dM_goSeason_114 : decode mM_goSeason.2.1 114 = .ok (.aload_n 0, 1) := by decide +kernel
theorem dM_goSeason_115 : decode mM_goSeason.2.1 115 = .ok (.dup, 1) := by decide +kernel
theorem dM_goSeason_116 : decode mM_goSeason.2.1 116 = .ok (.getfield 179, 3) := by decide +kernel
theorem dM_goSeason_119 : decode mM_goSeason.2.1 119 = .ok (.aload_n 0, 1) := by decide +kernel
theorem dM_goSeason_120 : decode mM_goSeason.2.1 120 = .ok (.iload 5, 2) := by decide +kernel
theorem dM_goSeason_122 : decode mM_goSeason.2.1 122 = .ok (.iload 6, 2) := by decide +kernel
theorem dM_goSeason_124 : decode mM_goSeason.2.1 124 = .ok (.invokevirtual 148, 3) := by decide +kernel
theorem dM_goSeason_127 : decode mM_goSeason.2.1 127 = .ok (.iadd, 1) := by decide +kernel
theorem dM_goSeason_128 : decode mM_goSeason.2.1 128 = .ok (.putfield 179, 3) := by decide +kernel
theorem dM_goSeason_131 : decode mM_goSeason.2.1 131 = .ok (.iload 5, 2) := by decide +kernel
theorem dM_goSeason_133 : decode mM_goSeason.2.1 133 = .ok (.iload_n 1, 1) := by decide +kernel
theorem dM_goSeason_134 : decode mM_goSeason.2.1 134 = .ok (.if_icmp .ne 25, 3) := by decide +kernel
theorem dM_goSeason_137 : decode mM_goSeason.2.1 137 = .ok (.aload_n 0, 1) := by decide +kernel
theorem dM_goSeason_138 : decode mM_goSeason.2.1 138 = .ok (.iload 5, 2) := by decide +kernel
theorem dM_goSeason_140 : decode mM_goSeason.2.1 140 = .ok (.iload 6, 2) := by decide +kernel
theorem dM_goSeason_142 : decode mM_goSeason.2.1 142 = .ok (.invokevirtual 151, 3) := by decide +kernel
theorem dM_goSeason_145 : decode mM_goSeason.2.1 145 = .ok (.ifCond .eq 14, 3) := by decide +kernel
theorem dM_goSeason_148 : decode mM_goSeason.2.1 148 = .ok (.aload_n 0, 1) := by decide +kernel
theorem dM_goSeason_149 : decode mM_goSeason.2.1 149 = .ok (.getfield 173, 3) := by decide +kernel
theorem dM_goSeason_152 : decode mM_goSeason.2.1 152 = .ok (.ifCond .le 7, 3) := by decide +kernel
theorem dM_goSeason_155 : decode mM_goSeason.2.1 155 = .ok (.iconst 1, 1) := by decide +kernel
theorem dM_goSeason_156 : decode mM_goSeason.2.1 156 = .ok (.goto 4, 3) := by decide +kernel
theorem dM_goSeason_159 : decode mM_goSeason.2.1 159 = .ok (.iconst 0, 1) := by decide +kernel
theorem dM_goSeason_160 : decode mM_goSeason.2.1 160 = .ok (.istore 7, 2) := by decide +kernel
theorem dM_goSeason_162 : decode mM_goSeason.2.1 162 = .ok (.aload_n 0, 1) := by decide +kernel
theorem dM_goSeason_163 : decode mM_goSeason.2.1 163 = .ok (.dup, 1) := by decide +kernel
theorem dM_goSeason_164 : decode mM_goSeason.2.1 164 = .ok (.getfield 173, 3) := by decide +kernel
theorem dM_goSeason_167 : decode mM_goSeason.2.1 167 = .ok (.iload 7, 2) := by decide +kernel
theorem dM_goSeason_169 : decode mM_goSeason.2.1 169 = .ok (.ifCond .eq 7, 3) := by decide +kernel
theorem dM_goSeason_172 : decode mM_goSeason.2.1 172 = .ok (.iconst 1, 1) := by decide +kernel
theorem dM_goSeason_173 : decode mM_goSeason.2.1 173 = .ok (.goto 4, 3) := by decide +kernel
theorem dM_goSeason_176 : decode mM_goSeason.2.1 176 = .ok (.iconst 0, 1) := by decide +kernel
theorem dM_goSeason_177 : decode mM_goSeason.2.1 177 = .ok (.isub, 1) := by decide +kernel
theorem dM_goSeason_178 : decode mM_goSeason.2.1 178 = .ok (.putfield 173, 3) := by decide +kernel
theorem dM_goSeason_181 : decode mM_goSeason.2.1 181 = .ok (.aload_n 0, 1) := by decide +kernel
theorem dM_goSeason_182 : decode mM_goSeason.2.1 182 = .ok (.iload 7, 2) := by decide +kernel
theorem dM_goSeason_184 : decode mM_goSeason.2.1 184 = .ok (.ifCond .eq 15, 3) := by decide +kernel
theorem dM_goSeason_187 : decode mM_goSeason.2.1 187 = .ok (.aload_n 0, 1) := by decide +kernel
theorem dM_goSeason_188 : decode mM_goSeason.2.1 188 = .ok (.getfield 173, 3) := by decide +kernel
theorem dM_goSeason_191 : decode mM_goSeason.2.1 191 = .ok (.ifCond .ne 8, 3) := by decide +kernel
theorem dM_goSeason_194 : decode mM_goSeason.2.1 194 = .ok (.iload 4, 2) := by decide +kernel
theorem dM_goSeason_196 : decode mM_goSeason.2.1 196 = .ok (.goto 7, 3) := by decide +kernel
theorem dM_goSeason_199 : decode mM_goSeason.2.1 199 = .ok (.aload_n 0, 1) := by decide +kernel
theorem dM_goSeason_200 : decode mM_goSeason.2.1 200 = .ok (.getfield 176, 3) := by decide +kernel
theorem dM_goSeason_203 : decode mM_goSeason.2.1 203 = .ok (.putfield 176, 3) := by decide +kernel
theorem dM_goSeason_206 : decode mM_goSeason.2.1 206 = .ok (.iinc 4 1, 3) := by decide +kernel
theorem dM_goSeason_209 : decode mM_goSeason.2.1 209 = .ok (.goto (-175), 3) := by decide +kernel
theorem dM_goSeason_212 : decode mM_goSeason.2.1 212 = .ok (.return_, 1) := by decide +kernel
theorem dM_greet_0 : decode mM_greet.2.1 0 = .ok (.aload_n 0, 1) := by decide +kernel
theorem dM_greet_1 : decode mM_greet.2.1 1 = .ok (.iload_n 1, 1) := by decide +kernel
theorem dM_greet_2 : decode mM_greet.2.1 2 = .ok (.invokevirtual 154, 3) := by decide +kernel
theorem dM_greet_5 : decode mM_greet.2.1 5 = .ok (.ifCond .eq 5, 3) := by decide +kernel
theorem dM_greet_8 : decode mM_greet.2.1 8 = .ok (.iconst (-1), 1) := by decide +kernel
theorem dM_greet_9 : decode mM_greet.2.1 9 = .ok (.ireturn, 1) := by decide +kernel
theorem dM_greet_10 : decode mM_greet.2.1 10 = .ok (.aload_n 0, 1) := by decide +kernel
theorem dM_greet_11 : decode mM_greet.2.1 11 = .ok (.aload_n 0, 1) := by decide +kernel
theorem dM_greet_12 : decode mM_greet.2.1 12 = .ok (.getfield 16, 3) := by decide +kernel
theorem dM_greet_15 : decode mM_greet.2.1 15 = .ok (.iload_n 1, 1) := by decide +kernel
theorem dM_greet_16 : decode mM_greet.2.1 16 = .ok (.iaload, 1) := by decide +kernel
theorem dM_greet_17 : decode mM_greet.2.1 17 = .ok (.iconst 2, 1) := by decide +kernel
theorem dM_greet_18 : decode mM_greet.2.1 18 = .ok (.if_icmp .ne 7, 3) := by decide +kernel
theorem dM_greet_21 : decode mM_greet.2.1 21 = .ok (.iconst 5, 1) := by decide +kernel
theorem dM_greet_22 : decode mM_greet.2.1 22 = .ok (.goto 4, 3) := by decide +kernel
theorem dM_greet_25 : decode mM_greet.2.1 25 = .ok (.iconst 4, 1) := by decide +kernel
theorem dM_greet_26 : decode mM_greet.2.1 26 = .ok (.invokevirtual 239, 3) := by decide +kernel
theorem dM_greet_29 : decode mM_greet.2.1 29 = .ok (.aload_n 0, 1) := by decide +kernel
theorem dM_greet_30 : decode mM_greet.2.1 30 = .ok (.getfield 16, 3) := by decide +kernel
theorem dM_greet_33 : decode mM_greet.2.1 33 = .ok (.iload_n 1, 1) := by decide +kernel
theorem dM_greet_34 : decode mM_greet.2.1 34 = .ok (.iaload, 1) := by decide +kernel
theorem dM_greet_35 : decode mM_greet.2.1 35 = .ok (.iconst 2, 1) := by decide +kernel
theorem dM_greet_36 : decode mM_greet.2.1 36 = .ok (.if_icmp .ne 8, 3) := by decide +kernel
theorem dM_greet_39 : decode mM_greet.2.1 39 = .ok (.bipush 50, 2) := by decide +kernel
theorem dM_greet_41 : decode mM_greet.2.1 41 = .ok (.goto 4, 3) := by decide +kernel
theorem dM_greet_44 : decode mM_greet.2.1 44 = .ok (.iload_n 1, 1) := by decide +kernel
theorem dM_greet_45 : decode mM_greet.2.1 45 = .ok (.ireturn, 1) := by decide +kernel
theorem dM_hotel_0 : decode mM_hotel.2.1 0 = .ok (.iload_n 1, 1) := by decide +kernel
theorem dM_hotel_1 : decode mM_hotel.2.1 1 = .ok (.invokestatic 123, 3) := by decide +kernel
theorem dM_hotel_4 : decode mM_hotel.2.1 4 = .ok (.ifCond .eq 9, 3) := by decide +kernel
theorem dM_hotel_7 : decode mM_hotel.2.1 7 = .ok (.aload_n 0, 1) := by decide +kernel
theorem dM_hotel_8 : decode mM_hotel.2.1 8 = .ok (.iconst (-1), 1) := by decide +kernel
theorem dM_hotel_9 : decode mM_hotel.2.1 9 = .ok (.invokevirtual 127, 3) := by decide +kernel
theorem dM_hotel_12 : decode mM_hotel.2.1 12 = .ok (.ireturn, 1) := by decide +kernel
theorem dM_hotel_13 : decode mM_hotel.2.1 13 = .ok (.iload_n 2, 1) := by decide +kernel
theorem dM_hotel_14 : decode mM_hotel.2.1 14 = .ok (.i2l, 1) := by decide +kernel
theorem dM_hotel_15 : decode mM_hotel.2.1 15 = .ok (.lconst 0, 1) := by decide +kernel
theorem dM_hotel_16 : decode mM_hotel.2.1 16 = .ok (.ldc2_w 130, 3) := by decide +kernel
theorem dM_hotel_19 : decode mM_hotel.2.1 19 = .ok (.invokestatic 78, 3) := by decide +kernel
theorem dM_hotel_22 : decode mM_hotel.2.1 22 = .ok (.ifCond .ne 10, 3) := by decide +kernel
theorem dM_hotel_25 : decode mM_hotel.2.1 25 = .ok (.aload_n 0, 1) := by decide +kernel
theorem dM_hotel_26 : decode mM_hotel.2.1 26 = .ok (.bipush (-2), 2) := by decide +kernel
theorem dM_hotel_28 : decode mM_hotel.2.1 28 = .ok (.invokevirtual 127, 3) := by decide +kernel
theorem dM_hotel_31 : decode mM_hotel.2.1 31 = .ok (.ireturn, 1) := by decide +kernel
theorem dM_hotel_32 : decode mM_hotel.2.1 32 = .ok (.aload_n 0, 1) := by decide +kernel
theorem dM_hotel_33 : decode mM_hotel.2.1 33 = .ok (.iload_n 1, 1) := by decide +kernel
theorem dM_hotel_34 : decode mM_hotel.2.1 34 = .ok (.iload_n 2, 1) := by decide +kernel
theorem dM_hotel_35 : decode mM_hotel.2.1 35 = .ok (.iload_n 3, 1) := by decide +kernel
theorem dM_hotel_36 : decode mM_hotel.2.1 36 = .ok (.iload 4, 2) := by decide +kernel
theorem dM_hotel_38 : decode mM_hotel.2.1 38 = .ok (.i2l, 1) := by decide +kernel
theorem dM_hotel_39 : decode mM_hotel.2.1 39 = .ok (.invokevirtual 132, 3) := by decide +kernel
theorem dM_hotel_42 : decode mM_hotel.2.1 42 = .ok (.istore 5, 2) := by decide +kernel
theorem dM_hotel_44 : decode mM_hotel.2.1 44 = .ok (.iload 5, 2) := by decide +kernel
theorem dM_hotel_46 : decode mM_hotel.2.1 46 = .ok (.ifCond .ge 6, 3) := by decide +kernel
theorem dM_hotel_49 : decode mM_hotel.2.1 49 = .ok (.iload 5, 2) := by decide +kernel
theorem dM_hotel_51 : decode mM_hotel.2.1 51 = .ok (.ireturn, 1) := by decide +kernel
theorem dM_hotel_52 : decode mM_hotel.2.1 52 = .ok (.aload_n 0, 1) := by decide +kernel
theorem dM_hotel_53 : decode mM_hotel.2.1 53 = .ok (.bipush 60, 2) := by decide +kernel
theorem dM_hotel_55 : decode mM_hotel.2.1 55 = .ok (.iload_n 1, 1) := by decide +kernel
theorem dM_hotel_56 : decode mM_hotel.2.1 56 = .ok (.imul, 1) := by decide +kernel
theorem dM_hotel_57 : decode mM_hotel.2.1 57 = .ok (.iload_n 3, 1) := by decide +kernel
theorem dM_hotel_58 : decode mM_hotel.2.1 58 = .ok (.iadd, 1) := by decide +kernel
theorem dM_hotel_59 : decode mM_hotel.2.1 59 = .ok (.iload 4, 2) := by decide +kernel
theorem dM_hotel_61 : decode mM_hotel.2.1 61 = .ok (.invokevirtual 136, 3) := by decide +kernel
theorem dM_hotel_64 : decode mM_hotel.2.1 64 = .ok (.ifCond .ne 15, 3) := by decide +kernel
theorem dM_hotel_67 : decode mM_hotel.2.1 67 = .ok (.aload_n 0, 1) := by decide +kernel
theorem dM_hotel_68 : decode mM_hotel.2.1 68 = .ok (.bipush (-100), 2) := by decide +kernel
theorem dM_hotel_70 : decode mM_hotel.2.1 70 = .ok (.aload_n 0, 1) := by decide +kernel
theorem dM_hotel_71 : decode mM_hotel.2.1 71 = .ok (.getfield 85, 3) := by decide +kernel
theorem dM_hotel_74 : decode mM_hotel.2.1 74 = .ok (.isub, 1) := by decide +kernel
theorem dM_hotel_75 : decode mM_hotel.2.1 75 = .ok (.invokevirtual 127, 3) := by decide +kernel
theorem dM_hotel_78 : decode mM_hotel.2.1 78 = .ok (.ireturn, 1) := by decide +kernel
theorem dM_hotel_79 : decode mM_hotel.2.1 79 = .ok (.aload_n 0, 1) := by decide +kernel
theorem dM_hotel_80 : decode mM_hotel.2.1 80 = .ok (.aload_n 0, 1) := by decide +kernel
theorem dM_hotel_81 : decode mM_hotel.2.1 81 = .ok (.getfield 102, 3) := by decide +kernel
theorem dM_hotel_84 : decode mM_hotel.2.1 84 = .ok (.putfield 139, 3) := by decide +kernel
theorem dM_hotel_87 : decode mM_hotel.2.1 87 = .ok (.aload_n 0, 1) := by decide +kernel
theorem dM_hotel_88 : decode mM_hotel.2.1 88 = .ok (.aload_n 0, 1) := by decide +kernel
theorem dM_hotel_89 : decode mM_hotel.2.1 89 = .ok (.getfield 105, 3) := by decide +kernel
theorem dM_hotel_92 : decode mM_hotel.2.1 92 = .ok (.putfield 142, 3) := by decide +kernel
theorem dM_hotel_95 : decode mM_hotel.2.1 95 = .ok (.aload_n 0, 1) := by decide +kernel
theorem dM_hotel_96 : decode mM_hotel.2.1 96 = .ok (.aload_n 0, 1) := by decide +kernel
theorem dM_hotel_97 : decode mM_hotel.2.1 97 = .ok (.getfield 92, 3) := by decide +kernel
theorem dM_hotel_100 : decode mM_hotel.2.1 100 = .ok (.putfield 82, 3) := by decide +kernel
theorem dM_hotel_103 : decode mM_hotel.2.1 103 = .ok (.aload_n 0, 1) := by decide +kernel
theorem dM_hotel_104 : decode mM_hotel.2.1 104 = .ok (.aload_n 0, 1) := by decide +kernel
theorem dM_hotel_105 : decode mM_hotel.2.1 105 = .ok (.getfield 99, 3) := by decide +kernel
theorem dM_hotel_108 : decode mM_hotel.2.1 108 = .ok (.putfield 75, 3) := by decide +kernel
theorem dM_hotel_111 : decode mM_hotel.2.1 111 = .ok (.iconst 0, 1) := by decide +kernel
theorem dM_hotel_112 : decode mM_hotel.2.1 112 = .ok (.istore 6, 2) := by decide +kernel
theorem dM_hotel_114 : decode mM_hotel.2.1 114 = .ok (.iload 6, 2) := by decide +kernel
theorem dM_hotel_116 : decode mM_hotel.2.1 116 = .ok (.aload_n 0, 1) := by decide +kernel
theorem dM_hotel_117 : decode mM_hotel.2.1 117 = .ok (.getfield 82, 3) := by decide +kernel
theorem dM_hotel_120 : decode mM_hotel.2.1 120 = .ok (.if_icmp .ge 37, 3) := by decide +kernel
theorem dM_hotel_123 : decode mM_hotel.2.1 123 = .ok (.aload_n 0, 1) := by decide +kernel
theorem dM_hotel_124 : decode mM_hotel.2.1 124 = .ok (.getfield 7, 3) := by decide +kernel
theorem dM_hotel_127 : decode mM_hotel.2.1 127 = .ok (.iload 6, 2) := by decide +kernel
theorem dM_hotel_129 : decode mM_hotel.2.1 129 = .ok (.aload_n 0, 1) := by decide +kernel
theorem dM_hotel_130 : decode mM_hotel.2.1 130 = .ok (.getfield 25, 3) := by decide +kernel
theorem dM_hotel_133 : decode mM_hotel.2.1 133 = .ok (.iload 6, 2) := by decide +kernel
theorem dM_hotel_135 : decode mM_hotel.2.1 135 = .ok (.iaload, 1) := by decide +kernel
theorem dM_hotel_136 : decode mM_hotel.2.1 136 = .ok (.iastore, 1) := by decide +kernel
theorem dM_hotel_137 : decode mM_hotel.2.1 137 = .ok (.aload_n 0, 1) := by decide +kernel
theorem dM_hotel_138 : decode mM_hotel.2.1 138 = .ok (.getfield 13, 3) := by decide +kernel
theorem dM_hotel_141 : decode mM_hotel.2.1 141 = .ok (.iload 6, 2) := by decide +kernel
theorem dM_hotel_143 : decode mM_hotel.2.1 143 = .ok (.aload_n 0, 1) := by decide +kernel
theorem dM_hotel_144 : decode mM_hotel.2.1 144 = .ok (.getfield 28, 3) := by decide +kernel
theorem dM_hotel_147 : decode mM_hotel.2.1 147 = .ok (.iload 6, 2) := by decide +kernel
theorem dM_hotel_149 : decode mM_hotel.2.1 149 = .ok (.iaload, 1) := by decide +kernel
theorem dM_hotel_150 : decode mM_hotel.2.1 150 = .ok (.iastore, 1) := by decide +kernel
theorem dM_hotel_151 : decode mM_hotel.2.1 151 = .ok (.iinc 6 1, 3) := by decide +kernel
theorem dM_hotel_154 : decode mM_hotel.2.1 154 = .ok (.goto (-40), 3) := by decide +kernel
theorem dM_hotel_157 : decode mM_hotel.2.1 157 = .ok (.iconst 0, 1) := by decide +kernel
theorem dM_hotel_158 : decode mM_hotel.2.1 158 = .ok (.istore 6, 2) := by decide +kernel
theorem dM_hotel_160 : decode mM_hotel.2.1 160 = .ok (.iload 6, 2) := by decide +kernel
theorem dM_hotel_162 : decode mM_hotel.2.1 162 = .ok (.aload_n 0, 1) := by decide +kernel
theorem dM_hotel_163 : decode mM_hotel.2.1 163 = .ok (.getfield 75, 3) := by decide +kernel
theorem dM_hotel_166 : decode mM_hotel.2.1 166 = .ok (.if_icmp .ge 51, 3) := by decide +kernel
theorem dM_hotel_169 : decode mM_hotel.2.1 169 = .ok (.aload_n 0, 1) := by decide +kernel
theorem dM_hotel_170 : decode mM_hotel.2.1 170 = .ok (.getfield 16, 3) := by decide +kernel
theorem dM_hotel_173 : decode mM_hotel.2.1 173 = .ok (.iload 6, 2) := by decide +kernel
theorem dM_hotel_175 : decode mM_hotel.2.1 175 = .ok (.aload_n 0, 1) := by decide +kernel
theorem dM_hotel_176 : decode mM_hotel.2.1 176 = .ok (.getfield 31, 3) := by decide +kernel
theorem dM_hotel_179 : decode mM_hotel.2.1 179 = .ok (.iload 6, 2) := by decide +kernel
theorem dM_hotel_181 : decode mM_hotel.2.1 181 = .ok (.iaload, 1) := by decide +kernel
theorem dM_hotel_182 : decode mM_hotel.2.1 182 = .ok (.iastore, 1) := by decide +kernel
theorem dM_hotel_183 : decode mM_hotel.2.1 183 = .ok (.aload_n 0, 1) := by decide +kernel
theorem dM_hotel_184 : decode mM_hotel.2.1 184 = .ok (.getfield 19, 3) := by decide +kernel
theorem dM_hotel_187 : decode mM_hotel.2.1 187 = .ok (.iload 6, 2) := by decide +kernel
theorem dM_hotel_189 : decode mM_hotel.2.1 189 = .ok (.aload_n 0, 1) := by decide +kernel
theorem dM_hotel_190 : decode mM_hotel.2.1 190 = .ok (.getfield 34, 3) := by decide +kernel
theorem dM_hotel_193 : decode mM_hotel.2.1 193 = .ok (.iload 6, 2) := by decide +kernel
theorem dM_hotel_195 : decode mM_hotel.2.1 195 = .ok (.iaload, 1) := by decide +kernel
theorem dM_hotel_196 : decode mM_hotel.2.1 196 = .ok (.iastore, 1) := by decide +kernel
theorem dM_hotel_197 : decode mM_hotel.2.1 197 = .ok (.aload_n 0, 1) := by decide +kernel
theorem dM_hotel_198 : decode mM_hotel.2.1 198 = .ok (.getfield 22, 3) := by decide +kernel
theorem dM_hotel_201 : decode mM_hotel.2.1 201 = .ok (.iload 6, 2) := by decide +kernel
theorem dM_hotel_203 : decode mM_hotel.2.1 203 = .ok (.aload_n 0, 1) := by decide +kernel
theorem dM_hotel_204 : decode mM_hotel.2.1 204 = .ok (.getfield 37, 3) := by decide +kernel
theorem dM_hotel_207 : decode mM_hotel.2.1 207 = .ok (.iload 6, 2) := by decide +kernel
theorem dM_hotel_209 : decode mM_hotel.2.1 209 = .ok (.iaload, 1) := by decide +kernel
theorem dM_hotel_210 : decode mM_hotel.2.1 210 = .ok (.iastore, 1) := by decide +kernel
theorem dM_hotel_211 : decode mM_hotel.2.1 211 = .ok (.iinc 6 1, 3) := by decide +kernel
theorem dM_hotel_214 : decode mM_hotel.2.1 214 = .ok (.goto (-54), 3) := by decide +kernel
theorem dM_hotel_217 : decode mM_hotel.2.1 217 = .ok (.aload_n 0, 1) := by decide +kernel
theorem dM_hotel_218 : decode mM_hotel.2.1 218 = .ok (.iconst 0, 1) := by decide +kernel
theorem dM_hotel_219 : decode mM_hotel.2.1 219 = .ok (.putfield 145, 3) := by decide +kernel
theorem dM_hotel_222 : decode mM_hotel.2.1 222 = .ok (.aload_n 0, 1) := by decide +kernel
theorem dM_hotel_223 : decode mM_hotel.2.1 223 = .ok (.aload_n 0, 1) := by decide +kernel
theorem dM_hotel_224 : decode mM_hotel.2.1 224 = .ok (.getfield 75, 3) := by decide +kernel
theorem dM_hotel_227 : decode mM_hotel.2.1 227 = .ok (.invokevirtual 127, 3) := by decide +kernel
theorem dM_hotel_230 : decode mM_hotel.2.1 230 = .ok (.ireturn, 1) := by decide +kernel
theorem dM_in_0 : decode mM_in.2.1 0 = .ok (.lload_n 0, 1) := by decide +kernel
theorem dM_in_1 : decode mM_in.2.1 1 = .ok (.lload_n 2, 1) := by decide +kernel
theorem dM_in_2 : decode mM_in.2.1 2 = .ok (.lcmp, 1) := by decide +kernel
theorem dM_in_3 : decode mM_in.2.1 3 = .ok (.ifCond .lt 14, 3) := by decide +kernel
theorem dM_in_6 : decode mM_in.2.1 6 = .ok (.lload_n 0, 1) := by decide +kernel
theorem dM_in_7 : decode mM_in.2.1 7 = .ok (.lload 4, 2) := by decide +kernel
theorem dM_in_9 : decode mM_in.2.1 9 = .ok (.lcmp, 1) := by decide +kernel
theorem dM_in_10 : decode mM_in.2.1 10 = .ok (.ifCond .gt 7, 3) := by decide +kernel
theorem dM_in_13 : decode mM_in.2.1 13 = .ok (.iconst 1, 1) := by decide +kernel
theorem dM_in_14 : decode mM_in.2.1 14 = .ok (.goto 4, 3) := by decide +kernel
theorem dM_in_17 : decode mM_in.2.1 17 = .ok (.iconst 0, 1) := by decide +kernel
theorem dM_in_18 : decode mM_in.2.1 18 = .ok (.ireturn, 1) := by decide +kernel
theorem dM_init_0 : decode mM_init.2.1 0 = .ok (.aload_n 0, 1) := by decide +kernel
theorem dM_init_1 : decode mM_init.2.1 1 = .ok (.invokespecial 1, 3) := by decide +kernel
theorem dM_init_4 : decode mM_init.2.1 4 = .ok (.aload_n 0, 1) := by decide +kernel
theorem dM_init_5 : decode mM_init.2.1 5 = .ok (.iconst 4, 1) := by decide +kernel
theorem dM_init_6 : decode mM_init.2.1 6 = .ok (.newarray .int, 2) := by decide +kernel
theorem dM_init_8 : decode mM_init.2.1 8 = .ok (.putfield 7, 3) := by decide +kernel
theorem dM_init_11 : decode mM_init.2.1 11 = .ok (.aload_n 0, 1) := by decide +kernel
theorem dM_init_12 : decode mM_init.2.1 12 = .ok (.iconst 4, 1) := by decide +kernel
theorem dM_init_13 : decode mM_init.2.1 13 = .ok (.newarray .int, 2) := by decide +kernel
theorem dM_init_15 : decode mM_init.2.1 15 = .ok (.putfield 13, 3) := by decide +kernel
theorem dM_init_18 : decode mM_init.2.1 18 = .ok (.aload_n 0, 1) := by decide +kernel
theorem dM_init_19 : decode mM_init.2.1 19 = .ok (.bipush 6, 2) := by decide +kernel
theorem dM_init_21 : decode mM_init.2.1 21 = .ok (.newarray .int, 2) := by decide +kernel
theorem dM_init_23 : decode mM_init.2.1 23 = .ok (.putfield 16, 3) := by decide +kernel
theorem dM_init_26 : decode mM_init.2.1 26 = .ok (.aload_n 0, 1) := by decide +kernel
theorem dM_init_27 : decode mM_init.2.1 27 = .ok (.bipush 6, 2) := by decide +kernel
theorem dM_init_29 : decode mM_init.2.1 29 = .ok (.newarray .int, 2) := by decide +kernel
theorem dM_init_31 : decode mM_init.2.1 31 = .ok (.putfield 19, 3) := by decide +kernel
theorem dM_init_34 : decode mM_init.2.1 34 = .ok (.aload_n 0, 1) := by decide +kernel
theorem dM_init_35 : decode mM_init.2.1 35 = .ok (.bipush 6, 2) := by decide +kernel
theorem dM_init_37 : decode mM_init.2.1 37 = .ok (.newarray .int, 2) := by decide +kernel
theorem dM_init_39 : decode mM_init.2.1 39 = .ok (.putfield 22, 3) := by decide +kernel
theorem dM_init_42 : decode mM_init.2.1 42 = .ok (.aload_n 0, 1) := by decide +kernel
theorem dM_init_43 : decode mM_init.2.1 43 = .ok (.iconst 4, 1) := by decide +kernel
theorem dM_init_44 : decode mM_init.2.1 44 = .ok (.newarray .int, 2) := by decide +kernel
theorem dM_init_46 : decode mM_init.2.1 46 = .ok (.putfield 25, 3) := by decide +kernel
theorem dM_init_49 : decode mM_init.2.1 49 = .ok (.aload_n 0, 1) := by decide +kernel
theorem dM_init_50 : decode mM_init.2.1 50 = .ok (.iconst 4, 1) := by decide +kernel
theorem dM_init_51 : decode mM_init.2.1 51 = .ok (.newarray .int, 2) := by decide +kernel
theorem dM_init_53 : decode mM_init.2.1 53 = .ok (.putfield 28, 3) := by decide +kernel
theorem dM_init_56 : decode mM_init.2.1 56 = .ok (.aload_n 0, 1) := by decide +kernel
theorem dM_init_57 : decode mM_init.2.1 57 = .ok (.bipush 6, 2) := by decide +kernel
theorem dM_init_59 : decode mM_init.2.1 59 = .ok (.newarray .int, 2) := by decide +kernel
theorem dM_init_61 : decode mM_init.2.1 61 = .ok (.putfield 31, 3) := by decide +kernel
theorem dM_init_64 : decode mM_init.2.1 64 = .ok (.aload_n 0, 1) := by decide +kernel
theorem dM_init_65 : decode mM_init.2.1 65 = .ok (.bipush 6, 2) := by decide +kernel
theorem dM_init_67 : decode mM_init.2.1 67 = .ok (.newarray .int, 2) := by decide +kernel
theorem dM_init_69 : decode mM_init.2.1 69 = .ok (.putfield 34, 3) := by decide +kernel
theorem dM_init_72 : decode mM_init.2.1 72 = .ok (.aload_n 0, 1) := by decide +kernel
theorem dM_init_73 : decode mM_init.2.1 73 = .ok (.bipush 6, 2) := by decide +kernel
theorem dM_init_75 : decode mM_init.2.1 75 = .ok (.newarray .int, 2) := by decide +kernel
theorem dM_init_77 : decode mM_init.2.1 77 = .ok (.putfield 37, 3) := by decide +kernel
theorem dM_init_80 : decode mM_init.2.1 80 = .ok (.aload_n 0, 1) := by decide +kernel
theorem dM_init_81 : decode mM_init.2.1 81 = .ok (.bipush 6, 2) := by decide +kernel
theorem dM_init_83 : decode mM_init.2.1 83 = .ok (.newarray .int, 2) := by decide +kernel
theorem dM_init_85 : decode mM_init.2.1 85 = .ok (.putfield 40, 3) := by decide +kernel
theorem dM_init_88 : decode mM_init.2.1 88 = .ok (.aload_n 0, 1) := by decide +kernel
theorem dM_init_89 : decode mM_init.2.1 89 = .ok (.bipush 8, 2) := by decide +kernel
theorem dM_init_91 : decode mM_init.2.1 91 = .ok (.newarray .int, 2) := by decide +kernel
theorem dM_init_93 : decode mM_init.2.1 93 = .ok (.putfield 43, 3) := by decide +kernel
theorem dM_init_96 : decode mM_init.2.1 96 = .ok (.aload_n 0, 1) := by decide +kernel
theorem dM_init_97 : decode mM_init.2.1 97 = .ok (.bipush 8, 2) := by decide +kernel
theorem dM_init_99 : decode mM_init.2.1 99 = .ok (.newarray .int, 2) := by decide +kernel
theorem dM_init_101 : decode mM_init.2.1 101 = .ok (.putfield 46, 3) := by decide +kernel
theorem dM_init_104 : decode mM_init.2.1 104 = .ok (.aload_n 0, 1) := by decide +kernel
theorem dM_init_105 : decode mM_init.2.1 105 = .ok (.bipush 8, 2) := by decide +kernel
theorem dM_init_107 : decode mM_init.2.1 107 = .ok (.newarray .boolean, 2) := by decide +kernel
theorem dM_init_109 : decode mM_init.2.1 109 = .ok (.putfield 49, 3) := by decide +kernel
theorem dM_init_112 : decode mM_init.2.1 112 = .ok (.aload_n 0, 1) := by decide +kernel
theorem dM_init_113 : decode mM_init.2.1 113 = .ok (.iconst 4, 1) := by decide +kernel
theorem dM_init_114 : decode mM_init.2.1 114 = .ok (.newarray .int, 2) := by decide +kernel
theorem dM_init_116 : decode mM_init.2.1 116 = .ok (.putfield 53, 3) := by decide +kernel
theorem dM_init_119 : decode mM_init.2.1 119 = .ok (.aload_n 0, 1) := by decide +kernel
theorem dM_init_120 : decode mM_init.2.1 120 = .ok (.iconst 4, 1) := by decide +kernel
theorem dM_init_121 : decode mM_init.2.1 121 = .ok (.newarray .int, 2) := by decide +kernel
theorem dM_init_123 : decode mM_init.2.1 123 = .ok (.putfield 56, 3) := by decide +kernel
theorem dM_init_126 : decode mM_init.2.1 126 = .ok (.aload_n 0, 1) := by decide +kernel
theorem dM_init_127 : decode mM_init.2.1 127 = .ok (.sipush 240, 3) := by decide +kernel
theorem dM_init_130 : decode mM_init.2.1 130 = .ok (.newarray .int, 2) := by decide +kernel
theorem dM_init_132 : decode mM_init.2.1 132 = .ok (.putfield 59, 3) := by decide +kernel
theorem dM_init_135 : decode mM_init.2.1 135 = .ok (.aload_n 0, 1) := by decide +kernel
theorem dM_init_136 : decode mM_init.2.1 136 = .ok (.bipush 60, 2) := by decide +kernel
theorem dM_init_138 : decode mM_init.2.1 138 = .ok (.newarray .int, 2) := by decide +kernel
theorem dM_init_140 : decode mM_init.2.1 140 = .ok (.putfield 62, 3) := by decide +kernel
theorem dM_init_143 : decode mM_init.2.1 143 = .ok (.iconst 0, 1) := by decide +kernel
theorem dM_init_144 : decode mM_init.2.1 144 = .ok (.istore_n 1, 1) := by decide +kernel
theorem dM_init_145 : decode mM_init.2.1 145 = .ok (.iload_n 1, 1) := by decide +kernel
theorem dM_init_146 : decode mM_init.2.1 146 = .ok (.iconst 4, 1) := by decide +kernel
theorem dM_init_147 : decode mM_init.2.1 147 = .ok (.if_icmp .ge 16, 3) := by decide +kernel
theorem dM_init_150 : decode mM_init.2.1 150 = .ok (.aload_n 0, 1) := by decide +kernel
theorem dM_init_151 : decode mM_init.2.1 151 = .ok (.getfield 53, 3) := by decide +kernel
theorem dM_init_154 : decode mM_init.2.1 154 = .ok (.iload_n 1, 1) := by decide +kernel
theorem dM_init_155 : decode mM_init.2.1 155 = .ok (.iconst (-1), 1) := by decide +kernel
theorem dM_init_156 : decode mM_init.2.1 156 = .ok (.iastore, 1) := by decide +kernel
theorem dM_init_157 : decode mM_init.2.1 157 = .ok (.iinc 1 1, 3) := by decide +kernel
theorem dM_init_160 : decode mM_init.2.1 160 = .ok (.goto (-15), 3) := by decide +kernel
theorem dM_init_163 : decode mM_init.2.1 163 = .ok (.return_, 1) := by decide +kernel
theorem dM_isBeyond_0 : decode mM_isBeyond.2.1 0 = .ok (.iload_n 0, 1) := by decide +kernel
theorem dM_isBeyond_1 : decode mM_isBeyond.2.1 1 = .ok (.ifCond .lt 19, 3) := by decide +kernel
theorem dM_isBeyond_4 : decode mM_isBeyond.2.1 4 = .ok (.lload_n 1, 1) := by decide +kernel
theorem dM_isBeyond_5 : decode mM_isBeyond.2.1 5 = .ok (.lconst 0, 1) := by decide +kernel
theorem dM_isBeyond_6 : decode mM_isBeyond.2.1 6 = .ok (.lcmp, 1) := by decide +kernel
theorem dM_isBeyond_7 : decode mM_isBeyond.2.1 7 = .ok (.ifCond .lt 13, 3) := by decide +kernel
theorem dM_isBeyond_10 : decode mM_isBeyond.2.1 10 = .ok (.iload_n 0, 1) := by decide +kernel
theorem dM_isBeyond_11 : decode mM_isBeyond.2.1 11 = .ok (.i2l, 1) := by decide +kernel
theorem dM_isBeyond_12 : decode mM_isBeyond.2.1 12 = .ok (.lload_n 1, 1) := by decide +kernel
theorem dM_isBeyond_13 : decode mM_isBeyond.2.1 13 = .ok (.ladd, 1) := by decide +kernel
theorem dM_isBeyond_14 : decode mM_isBeyond.2.1 14 = .ok (.iload_n 3, 1) := by decide +kernel
theorem dM_isBeyond_15 : decode mM_isBeyond.2.1 15 = .ok (.i2l, 1) := by decide +kernel
theorem dM_isBeyond_16 : decode mM_isBeyond.2.1 16 = .ok (.lcmp, 1) := by decide +kernel
theorem dM_isBeyond_17 : decode mM_isBeyond.2.1 17 = .ok (.ifCond .le 7, 3) := by decide +kernel
theorem dM_isBeyond_20 : decode mM_isBeyond.2.1 20 = .ok (.iconst 1, 1) := by decide +kernel
theorem dM_isBeyond_21 : decode mM_isBeyond.2.1 21 = .ok (.goto 4, 3) := by decide +kernel
theorem dM_isBeyond_24 : decode mM_isBeyond.2.1 24 = .ok (.iconst 0, 1) := by decide +kernel
theorem dM_isBeyond_25 : decode mM_isBeyond.2.1 25 = .ok (.ireturn, 1) := by decide +kernel
theorem dM_isIn_0 : decode mM_isIn.2.1 0 = .ok (.iload_n 0, 1) := by decide +kernel
theorem dM_isIn_1 : decode mM_isIn.2.1 1 = .ok (.iload_n 1, 1) := by decide +kernel
theorem dM_isIn_2 : decode mM_isIn.2.1 2 = .ok (.ishr, 1) := by decide +kernel
theorem dM_isIn_3 : decode mM_isIn.2.1 3 = .ok (.iconst 1, 1) := by decide +kernel
theorem dM_isIn_4 : decode mM_isIn.2.1 4 = .ok (.iand, 1) := by decide +kernel
theorem dM_isIn_5 : decode mM_isIn.2.1 5 = .ok (.iconst 1, 1) := by decide +kernel
theorem dM_isIn_6 : decode mM_isIn.2.1 6 = .ok (.if_icmp .ne 7, 3) := by decide +kernel
theorem dM_isIn_9 : decode mM_isIn.2.1 9 = .ok (.iconst 1, 1) := by decide +kernel
theorem dM_isIn_10 : decode mM_isIn.2.1 10 = .ok (.goto 4, 3) := by decide +kernel
theorem dM_isIn_13 : decode mM_isIn.2.1 13 = .ok (.iconst 0, 1) := by decide +kernel
theorem dM_isIn_14 : decode mM_isIn.2.1 14 = .ok (.ireturn, 1) := by decide +kernel
theorem dM_kinds_0 : decode mM_kinds.2.1 0 = .ok (.aload_n 0, 1) := by decide +kernel
theorem dM_kinds_1 : decode mM_kinds.2.1 1 = .ok (.iload_n 1, 1) := by decide +kernel
theorem dM_kinds_2 : decode mM_kinds.2.1 2 = .ok (.invokevirtual 154, 3) := by decide +kernel
theorem dM_kinds_5 : decode mM_kinds.2.1 5 = .ok (.ifCond .eq 5, 3) := by decide +kernel
theorem dM_kinds_8 : decode mM_kinds.2.1 8 = .ok (.iconst (-1), 1) := by decide +kernel
theorem dM_kinds_9 : decode mM_kinds.2.1 9 = .ok (.ireturn, 1) := by decide +kernel
theorem dM_kinds_10 : decode mM_kinds.2.1 10 = .ok (.aload_n 0, 1) := by decide +kernel
theorem dM_kinds_11 : decode mM_kinds.2.1 11 = .ok (.getfield 16, 3) := by decide +kernel
theorem dM_kinds_14 : decode mM_kinds.2.1 14 = .ok (.iload_n 1, 1) := by decide +kernel
theorem dM_kinds_15 : decode mM_kinds.2.1 15 = .ok (.iaload, 1) := by decide +kernel
theorem dM_kinds_16 : decode mM_kinds.2.1 16 = .ok (.istore_n 2, 1) := by decide +kernel
theorem dM_kinds_17 : decode mM_kinds.2.1 17 = .ok (.iconst 0, 1) := by decide +kernel
theorem dM_kinds_18 : decode mM_kinds.2.1 18 = .ok (.istore_n 3, 1) := by decide +kernel
theorem dM_kinds_19 : decode mM_kinds.2.1 19 = .ok (.iconst 0, 1) := by decide +kernel
theorem dM_kinds_20 : decode mM_kinds.2.1 20 = .ok (.istore 4, 2) := by decide +kernel
theorem dM_kinds_22 : decode mM_kinds.2.1 22 = .ok (.iload 4, 2) := by decide +kernel
theorem dM_kinds_24 : decode mM_kinds.2.1 24 = .ok (.iconst 3, 1) := by decide +kernel
theorem dM_kinds_25 : decode mM_kinds.2.1 25 = .ok (.if_icmp .ge 35, 3) := by decide +kernel
theorem dM_kinds_28 : decode mM_kinds.2.1 28 = .ok (.aload_n 0, 1) := by decide +kernel
theorem dM_kinds_29 : decode mM_kinds.2.1 29 = .ok (.getfield 16, 3) := by decide +kernel
theorem dM_kinds_32 : decode mM_kinds.2.1 32 = .ok (.iload_n 1, 1) := by decide +kernel
theorem dM_kinds_33 : decode mM_kinds.2.1 33 = .ok (.iload 4, 2) := by decide +kernel
theorem dM_kinds_35 : decode mM_kinds.2.1 35 = .ok (.iastore, 1) := by decide +kernel
theorem dM_kinds_36 : decode mM_kinds.2.1 36 = .ok (.iload_n 3, 1) := by decide +kernel
theorem dM_kinds_37 : decode mM_kinds.2.1 37 = .ok (.aload_n 0, 1) := by decide +kernel
theorem dM_kinds_38 : decode mM_kinds.2.1 38 = .ok (.invokevirtual 216, 3) := by decide +kernel
theorem dM_kinds_41 : decode mM_kinds.2.1 41 = .ok (.ifCond .eq 10, 3) := by decide +kernel
theorem dM_kinds_44 : decode mM_kinds.2.1 44 = .ok (.iconst 1, 1) := by decide +kernel
theorem dM_kinds_45 : decode mM_kinds.2.1 45 = .ok (.iload 4, 2) := by decide +kernel
theorem dM_kinds_47 : decode mM_kinds.2.1 47 = .ok (.ishl, 1) := by decide +kernel
theorem dM_kinds_48 : decode mM_kinds.2.1 48 = .ok (.goto 4, 3) := by decide +kernel
theorem dM_kinds_51 : decode mM_kinds.2.1 51 = .ok (.iconst 0, 1) := by decide +kernel
theorem dM_kinds_52 : decode mM_kinds.2.1 52 = .ok (.ior, 1) := by decide +kernel
theorem dM_kinds_53 : decode mM_kinds.2.1 53 = .ok (.istore_n 3, 1) := by decide +kernel
theorem dM_kinds_54 : decode mM_kinds.2.1 54 = .ok (.iinc 4 1, 3) := by decide +kernel
theorem dM_kinds_57 : decode mM_kinds.2.1 57 = .ok (.goto (-35), 3) := by decide +kernel
theorem dM_kinds_60 : decode mM_kinds.2.1 60 = .ok (.aload_n 0, 1) := by decide +kernel
theorem dM_kinds_61 : decode mM_kinds.2.1 61 = .ok (.getfield 16, 3) := by decide +kernel
theorem dM_kinds_64 : decode mM_kinds.2.1 64 = .ok (.iload_n 1, 1) := by decide +kernel
theorem dM_kinds_65 : decode mM_kinds.2.1 65 = .ok (.iload_n 2, 1) := by decide +kernel
theorem dM_kinds_66 : decode mM_kinds.2.1 66 = .ok (.iastore, 1) := by decide +kernel
theorem dM_kinds_67 : decode mM_kinds.2.1 67 = .ok (.iload_n 3, 1) := by decide +kernel
theorem dM_kinds_68 : decode mM_kinds.2.1 68 = .ok (.ireturn, 1) := by decide +kernel
theorem dM_layRow_0 : decode mM_layRow.2.1 0 = .ok (.iload_n 1, 1) := by decide +kernel
theorem dM_layRow_1 : decode mM_layRow.2.1 1 = .ok (.istore_n 2, 1) := by decide +kernel
theorem dM_layRow_2 : decode mM_layRow.2.1 2 = .ok (.aload_n 0, 1) := by decide +kernel
theorem dM_layRow_3 : decode mM_layRow.2.1 3 = .ok (.iconst 0, 1) := by decide +kernel
theorem dM_layRow_4 : decode mM_layRow.2.1 4 = .ok (.putfield 203, 3) := by decide +kernel
theorem dM_layRow_7 : decode mM_layRow.2.1 7 = .ok (.aload_n 0, 1) := by decide +kernel
theorem dM_layRow_8 : decode mM_layRow.2.1 8 = .ok (.iconst 0, 1) := by decide +kernel
theorem dM_layRow_9 : decode mM_layRow.2.1 9 = .ok (.putfield 206, 3) := by decide +kernel
theorem dM_layRow_12 : decode mM_layRow.2.1 12 = .ok (.aload_n 0, 1) := by decide +kernel
theorem dM_layRow_13 : decode mM_layRow.2.1 13 = .ok (.iconst 0, 1) := by decide +kernel
theorem dM_layRow_14 : decode mM_layRow.2.1 14 = .ok (.putfield 209, 3) := by decide +kernel
theorem dM_layRow_17 : decode mM_layRow.2.1 17 = .ok (.aload_n 0, 1) := by decide +kernel
theorem dM_layRow_18 : decode mM_layRow.2.1 18 = .ok (.getfield 75, 3) := by decide +kernel
theorem dM_layRow_21 : decode mM_layRow.2.1 21 = .ok (.iconst 1, 1) := by decide +kernel
theorem dM_layRow_22 : decode mM_layRow.2.1 22 = .ok (.isub, 1) := by decide +kernel
theorem dM_layRow_23 : decode mM_layRow.2.1 23 = .ok (.istore_n 3, 1) := by decide +kernel
theorem dM_layRow_24 : decode mM_layRow.2.1 24 = .ok (.iload_n 3, 1) := by decide +kernel
theorem dM_layRow_25 : decode mM_layRow.2.1 25 = .ok (.ifCond .lt 88, 3) := by decide +kernel
theorem dM_layRow_28 : decode mM_layRow.2.1 28 = .ok (.iload_n 2, 1) := by decide +kernel
theorem dM_layRow_29 : decode mM_layRow.2.1 29 = .ok (.aload_n 0, 1) := by decide +kernel
theorem dM_layRow_30 : decode mM_layRow.2.1 30 = .ok (.getfield 82, 3) := by decide +kernel
theorem dM_layRow_33 : decode mM_layRow.2.1 33 = .ok (.irem, 1) := by decide +kernel
theorem dM_layRow_34 : decode mM_layRow.2.1 34 = .ok (.istore 4, 2) := by decide +kernel
theorem dM_layRow_36 : decode mM_layRow.2.1 36 = .ok (.iload_n 2, 1) := by decide +kernel
theorem dM_layRow_37 : decode mM_layRow.2.1 37 = .ok (.aload_n 0, 1) := by decide +kernel
theorem dM_layRow_38 : decode mM_layRow.2.1 38 = .ok (.getfield 82, 3) := by decide +kernel
theorem dM_layRow_41 : decode mM_layRow.2.1 41 = .ok (.idiv, 1) := by decide +kernel
theorem dM_layRow_42 : decode mM_layRow.2.1 42 = .ok (.istore_n 2, 1) := by decide +kernel
theorem dM_layRow_43 : decode mM_layRow.2.1 43 = .ok (.aload_n 0, 1) := by decide +kernel
theorem dM_layRow_44 : decode mM_layRow.2.1 44 = .ok (.getfield 40, 3) := by decide +kernel
theorem dM_layRow_47 : decode mM_layRow.2.1 47 = .ok (.iload_n 3, 1) := by decide +kernel
theorem dM_layRow_48 : decode mM_layRow.2.1 48 = .ok (.iload 4, 2) := by decide +kernel
theorem dM_layRow_50 : decode mM_layRow.2.1 50 = .ok (.iastore, 1) := by decide +kernel
theorem dM_layRow_51 : decode mM_layRow.2.1 51 = .ok (.aload_n 0, 1) := by decide +kernel
theorem dM_layRow_52 : decode mM_layRow.2.1 52 = .ok (.dup, 1) := by decide +kernel
theorem dM_layRow_53 : decode mM_layRow.2.1 53 = .ok (.getfield 203, 3) := by decide +kernel
theorem dM_layRow_56 : decode mM_layRow.2.1 56 = .ok (.aload_n 0, 1) := by decide +kernel
theorem dM_layRow_57 : decode mM_layRow.2.1 57 = .ok (.getfield 13, 3) := by decide +kernel
theorem dM_layRow_60 : decode mM_layRow.2.1 60 = .ok (.iload 4, 2) := by decide +kernel
theorem dM_layRow_62 : decode mM_layRow.2.1 62 = .ok (.iaload, 1) := by decide +kernel
theorem dM_layRow_63 : decode mM_layRow.2.1 63 = .ok (.iadd, 1) := by decide +kernel
theorem dM_layRow_64 : decode mM_layRow.2.1 64 = .ok (.putfield 203, 3) := by decide +kernel
theorem dM_layRow_67 : decode mM_layRow.2.1 67 = .ok (.aload_n 0, 1) := by decide +kernel
theorem dM_layRow_68 : decode mM_layRow.2.1 68 = .ok (.dup, 1) := by decide +kernel
theorem dM_layRow_69 : decode mM_layRow.2.1 69 = .ok (.getfield 206, 3) := by decide +kernel
theorem dM_layRow_72 : decode mM_layRow.2.1 72 = .ok (.aload_n 0, 1) := by decide +kernel
theorem dM_layRow_73 : decode mM_layRow.2.1 73 = .ok (.iload_n 3, 1) := by decide +kernel
theorem dM_layRow_74 : decode mM_layRow.2.1 74 = .ok (.iload 4, 2) := by decide +kernel
theorem dM_layRow_76 : decode mM_layRow.2.1 76 = .ok (.invokevirtual 151, 3) := by decide +kernel
theorem dM_layRow_79 : decode mM_layRow.2.1 79 = .ok (.ifCond .eq 7, 3) := by decide +kernel
theorem dM_layRow_82 : decode mM_layRow.2.1 82 = .ok (.iconst 1, 1) := by decide +kernel
theorem dM_layRow_83 : decode mM_layRow.2.1 83 = .ok (.goto 4, 3) := by decide +kernel
theorem dM_layRow_86 : decode mM_layRow.2.1 86 = .ok (.iconst 0, 1) := by decide +kernel
theorem dM_layRow_87 : decode mM_layRow.2.1 87 = .ok (.iadd, 1) := by decide +kernel
theorem dM_layRow_88 : decode mM_layRow.2.1 88 = .ok (.putfield 206, 3) := by decide +kernel
theorem dM_layRow_91 : decode mM_layRow.2.1 91 = .ok (.aload_n 0, 1) := by decide +kernel
theorem dM_layRow_92 : decode mM_layRow.2.1 92 = .ok (.dup, 1) := by decide +kernel
theorem dM_layRow_93 : decode mM_layRow.2.1 93 = .ok (.getfield 209, 3) := by decide +kernel
theorem dM_layRow_96 : decode mM_layRow.2.1 96 = .ok (.aload_n 0, 1) := by decide +kernel
theorem dM_layRow_97 : decode mM_layRow.2.1 97 = .ok (.iload_n 3, 1) := by decide +kernel
theorem dM_layRow_98 : decode mM_layRow.2.1 98 = .ok (.iload 4, 2) := by decide +kernel
theorem dM_layRow_100 : decode mM_layRow.2.1 100 = .ok (.invokevirtual 148, 3) := by decide +kernel
theorem dM_layRow_103 : decode mM_layRow.2.1 103 = .ok (.iadd, 1) := by decide +kernel
theorem dM_layRow_104 : decode mM_layRow.2.1 104 = .ok (.putfield 209, 3) := by decide +kernel
theorem dM_layRow_107 : decode mM_layRow.2.1 107 = .ok (.iinc 3 (-1), 3) := by decide +kernel
theorem dM_layRow_110 : decode mM_layRow.2.1 110 = .ok (.goto (-86), 3) := by decide +kernel
theorem dM_layRow_113 : decode mM_layRow.2.1 113 = .ok (.return_, 1) := by decide +kernel
theorem dM_limits_0 : decode mM_limits.2.1 0 = .ok (.aload_n 0, 1) := by decide +kernel
theorem dM_limits_1 : decode mM_limits.2.1 1 = .ok (.getfield 75, 3) := by decide +kernel
theorem dM_limits_4 : decode mM_limits.2.1 4 = .ok (.ifCond .ne 6, 3) := by decide +kernel
theorem dM_limits_7 : decode mM_limits.2.1 7 = .ok (.bipush (-3), 2) := by decide +kernel
theorem dM_limits_9 : decode mM_limits.2.1 9 = .ok (.ireturn, 1) := by decide +kernel
theorem dM_limits_10 : decode mM_limits.2.1 10 = .ok (.aload_n 0, 1) := by decide +kernel
theorem dM_limits_11 : decode mM_limits.2.1 11 = .ok (.getfield 142, 3) := by decide +kernel
theorem dM_limits_14 : decode mM_limits.2.1 14 = .ok (.istore_n 1, 1) := by decide +kernel
theorem dM_limits_15 : decode mM_limits.2.1 15 = .ok (.iconst 0, 1) := by decide +kernel
theorem dM_limits_16 : decode mM_limits.2.1 16 = .ok (.istore_n 2, 1) := by decide +kernel
theorem dM_limits_17 : decode mM_limits.2.1 17 = .ok (.iconst 1, 1) := by decide +kernel
theorem dM_limits_18 : decode mM_limits.2.1 18 = .ok (.istore_n 3, 1) := by decide +kernel
theorem dM_limits_19 : decode mM_limits.2.1 19 = .ok (.iload_n 3, 1) := by decide +kernel
theorem dM_limits_20 : decode mM_limits.2.1 20 = .ok (.bipush 10, 2) := by decide +kernel
theorem dM_limits_22 : decode mM_limits.2.1 22 = .ok (.if_icmp .ge 31, 3) := by decide +kernel
theorem dM_limits_25 : decode mM_limits.2.1 25 = .ok (.aload_n 0, 1) := by decide +kernel
theorem dM_limits_26 : decode mM_limits.2.1 26 = .ok (.iload_n 3, 1) := by decide +kernel
theorem dM_limits_27 : decode mM_limits.2.1 27 = .ok (.putfield 142, 3) := by decide +kernel
theorem dM_limits_30 : decode mM_limits.2.1 30 = .ok (.iload_n 2, 1) := by decide +kernel
theorem dM_limits_31 : decode mM_limits.2.1 31 = .ok (.aload_n 0, 1) := by decide +kernel
theorem dM_limits_32 : decode mM_limits.2.1 32 = .ok (.invokevirtual 216, 3) := by decide +kernel
theorem dM_limits_35 : decode mM_limits.2.1 35 = .ok (.ifCond .eq 9, 3) := by decide +kernel
theorem dM_limits_38 : decode mM_limits.2.1 38 = .ok (.iconst 1, 1) := by decide +kernel
theorem dM_limits_39 : decode mM_limits.2.1 39 = .ok (.iload_n 3, 1) := by decide +kernel
theorem dM_limits_40 : decode mM_limits.2.1 40 = .ok (.ishl, 1) := by decide +kernel
theorem dM_limits_41 : decode mM_limits.2.1 41 = .ok (.goto 4, 3) := by decide +kernel
theorem dM_limits_44 : decode mM_limits.2.1 44 = .ok (.iconst 0, 1) := by decide +kernel
theorem dM_limits_45 : decode mM_limits.2.1 45 = .ok (.ior, 1) := by decide +kernel
theorem dM_limits_46 : decode mM_limits.2.1 46 = .ok (.istore_n 2, 1) := by decide +kernel
theorem dM_limits_47 : decode mM_limits.2.1 47 = .ok (.iinc 3 1, 3) := by decide +kernel
theorem dM_limits_50 : decode mM_limits.2.1 50 = .ok (.goto (-31), 3) := by decide +kernel
theorem dM_limits_53 : decode mM_limits.2.1 53 = .ok (.aload_n 0, 1) := by decide +kernel
theorem dM_limits_54 : decode mM_limits.2.1 54 = .ok (.iload_n 1, 1) := by decide +kernel
theorem dM_limits_55 : decode mM_limits.2.1 55 = .ok (.putfield 142, 3) := by decide +kernel
theorem dM_limits_58 : decode mM_limits.2.1 58 = .ok (.iload_n 2, 1) := by decide +kernel
theorem dM_limits_59 : decode mM_limits.2.1 59 = .ok (.ireturn, 1) := by decide +kernel
theorem dM_lose_0 : decode mM_lose.2.1 0 = .ok (.iload_n 1, 1) := by decide +kernel
theorem dM_lose_1 : decode mM_lose.2.1 1 = .ok (.invokestatic 123, 3) := by decide +kernel
theorem dM_lose_4 : decode mM_lose.2.1 4 = .ok (.ifCond .eq 5, 3) := by decide +kernel
theorem dM_lose_7 : decode mM_lose.2.1 7 = .ok (.iconst (-1), 1) := by decide +kernel
theorem dM_lose_8 : decode mM_lose.2.1 8 = .ok (.ireturn, 1) := by decide +kernel
theorem dM_lose_9 : decode mM_lose.2.1 9 = .ok (.aload_n 0, 1) := by decide +kernel
theorem dM_lose_10 : decode mM_lose.2.1 10 = .ok (.getfield 53, 3) := by decide +kernel
theorem dM_lose_13 : decode mM_lose.2.1 13 = .ok (.iload_n 1, 1) := by decide +kernel
theorem dM_lose_14 : decode mM_lose.2.1 14 = .ok (.iaload, 1) := by decide +kernel
theorem dM_lose_15 : decode mM_lose.2.1 15 = .ok (.ifCond .ge 7, 3) := by decide +kernel
theorem dM_lose_18 : decode mM_lose.2.1 18 = .ok (.iconst 0, 1) := by decide +kernel
theorem dM_lose_19 : decode mM_lose.2.1 19 = .ok (.goto 4, 3) := by decide +kernel
theorem dM_lose_22 : decode mM_lose.2.1 22 = .ok (.iconst 1, 1) := by decide +kernel
theorem dM_lose_23 : decode mM_lose.2.1 23 = .ok (.istore_n 2, 1) := by decide +kernel
theorem dM_lose_24 : decode mM_lose.2.1 24 = .ok (.aload_n 0, 1) := by decide +kernel
theorem dM_lose_25 : decode mM_lose.2.1 25 = .ok (.getfield 53, 3) := by decide +kernel
theorem dM_lose_28 : decode mM_lose.2.1 28 = .ok (.iload_n 1, 1) := by decide +kernel
theorem dM_lose_29 : decode mM_lose.2.1 29 = .ok (.iconst (-1), 1) := by decide +kernel
theorem dM_lose_30 : decode mM_lose.2.1 30 = .ok (.iastore, 1) := by decide +kernel
theorem dM_lose_31 : decode mM_lose.2.1 31 = .ok (.iload_n 2, 1) := by decide +kernel
theorem dM_lose_32 : decode mM_lose.2.1 32 = .ok (.ireturn, 1) := by decide +kernel
theorem dM_losersOf_0 : decode mM_losersOf.2.1 0 = .ok (.iconst 0, 1) := by decide +kernel
theorem dM_losersOf_1 : decode mM_losersOf.2.1 1 = .ok (.istore_n 2, 1) := by decide +kernel
theorem dM_losersOf_2 : decode mM_losersOf.2.1 2 = .ok (.iconst 0, 1) := by decide +kernel
theorem dM_losersOf_3 : decode mM_losersOf.2.1 3 = .ok (.istore_n 3, 1) := by decide +kernel
theorem dM_losersOf_4 : decode mM_losersOf.2.1 4 = .ok (.iload_n 3, 1) := by decide +kernel
theorem dM_losersOf_5 : decode mM_losersOf.2.1 5 = .ok (.aload_n 0, 1) := by decide +kernel
theorem dM_losersOf_6 : decode mM_losersOf.2.1 6 = .ok (.getfield 75, 3) := by decide +kernel
theorem dM_losersOf_9 : decode mM_losersOf.2.1 9 = .ok (.if_icmp .ge 28, 3) := by decide +kernel
theorem dM_losersOf_12 : decode mM_losersOf.2.1 12 = .ok (.iload_n 2, 1) := by decide +kernel
theorem dM_losersOf_13 : decode mM_losersOf.2.1 13 = .ok (.aload_n 0, 1) := by decide +kernel
theorem dM_losersOf_14 : decode mM_losersOf.2.1 14 = .ok (.iload_n 3, 1) := by decide +kernel
theorem dM_losersOf_15 : decode mM_losersOf.2.1 15 = .ok (.iload_n 1, 1) := by decide +kernel
theorem dM_losersOf_16 : decode mM_losersOf.2.1 16 = .ok (.invokevirtual 151, 3) := by decide +kernel
theorem dM_losersOf_19 : decode mM_losersOf.2.1 19 = .ok (.ifCond .eq 9, 3) := by decide +kernel
theorem dM_losersOf_22 : decode mM_losersOf.2.1 22 = .ok (.iconst 1, 1) := by decide +kernel
theorem dM_losersOf_23 : decode mM_losersOf.2.1 23 = .ok (.iload_n 3, 1) := by decide +kernel
theorem dM_losersOf_24 : decode mM_losersOf.2.1 24 = .ok (.ishl, 1) := by decide +kernel
theorem dM_losersOf_25 : decode mM_losersOf.2.1 25 = .ok (.goto 4, 3) := by decide +kernel
theorem dM_losersOf_28 : decode mM_losersOf.2.1 28 = .ok (.iconst 0, 1) := by decide +kernel
theorem dM_losersOf_29 : decode mM_losersOf.2.1 29 = .ok (.ior, 1) := by decide +kernel
theorem dM_losersOf_30 : decode mM_losersOf.2.1 30 = .ok (.istore_n 2, 1) := by decide +kernel
theorem dM_losersOf_31 : decode mM_losersOf.2.1 31 = .ok (.iinc 3 1, 3) := by decide +kernel
theorem dM_losersOf_34 : decode mM_losersOf.2.1 34 = .ok (.goto (-30), 3) := by decide +kernel
theorem dM_losersOf_37 : decode mM_losersOf.2.1 37 = .ok (.iload_n 2, 1) := by decide +kernel
theorem dM_losersOf_38 : decode mM_losersOf.2.1 38 = .ok (.ireturn, 1) := by decide +kernel
theorem dM_lost_0 : decode mM_lost.2.1 0 = .ok (.ldc2_w 65, 3) := by decide +kernel
theorem dM_lost_3 : decode mM_lost.2.1 3 = .ok (.lreturn, 1) := by decide +kernel
theorem dM_many_0 : decode mM_many.2.1 0 = .ok (.iload_n 1, 1) := by decide +kernel
theorem dM_many_1 : decode mM_many.2.1 1 = .ok (.tableswitch 60 0 4 #[35, 40, 45, 50, 55], 35) := by decide +kernel
theorem dM_many_36 : decode mM_many.2.1 36 = .ok (.aload_n 0, 1) := by decide +kernel
theorem dM_many_37 : decode mM_many.2.1 37 = .ok (.getfield 75, 3) := by decide +kernel
theorem dM_many_40 : decode mM_many.2.1 40 = .ok (.ireturn, 1) := by decide +kernel
theorem dM_many_41 : decode mM_many.2.1 41 = .ok (.aload_n 0, 1) := by decide +kernel
theorem dM_many_42 : decode mM_many.2.1 42 = .ok (.getfield 82, 3) := by decide +kernel
theorem dM_many_45 : decode mM_many.2.1 45 = .ok (.ireturn, 1) := by decide +kernel
theorem dM_many_46 : decode mM_many.2.1 46 = .ok (.aload_n 0, 1) := by decide +kernel
theorem dM_many_47 : decode mM_many.2.1 47 = .ok (.getfield 139, 3) := by decide +kernel
theorem dM_many_50 : decode mM_many.2.1 50 = .ok (.ireturn, 1) := by decide +kernel
theorem dM_many_51 : decode mM_many.2.1 51 = .ok (.aload_n 0, 1) := by decide +kernel
theorem dM_many_52 : decode mM_many.2.1 52 = .ok (.getfield 142, 3) := by decide +kernel
theorem dM_many_55 : decode mM_many.2.1 55 = .ok (.ireturn, 1) := by decide +kernel
theorem dM_many_56 : decode mM_many.2.1 56 = .ok (.aload_n 0, 1) := by decide +kernel
theorem dM_many_57 : decode mM_many.2.1 57 = .ok (.getfield 145, 3) := by decide +kernel
theorem dM_many_60 : decode mM_many.2.1 60 = .ok (.ireturn, 1) := by decide +kernel
theorem dM_many_61 : decode mM_many.2.1 61 = .ok (.bipush (-2), 2) := by decide +kernel
theorem dM_many_63 : decode mM_many.2.1 63 = .ok (.ireturn, 1) := by decide +kernel
theorem dM_may_0 : decode mM_may.2.1 0 = .ok (.iload_n 1, 1) := by decide +kernel
theorem dM_may_1 : decode mM_may.2.1 1 = .ok (.invokestatic 123, 3) := by decide +kernel
theorem dM_may_4 : decode mM_may.2.1 4 = .ok (.ifCond .eq 9, 3) := by decide +kernel
theorem dM_may_7 : decode mM_may.2.1 7 = .ok (.aload_n 0, 1) := by decide +kernel
theorem dM_may_8 : decode mM_may.2.1 8 = .ok (.iconst (-1), 1) := by decide +kernel
theorem dM_may_9 : decode mM_may.2.1 9 = .ok (.invokevirtual 127, 3) := by decide +kernel
theorem dM_may_12 : decode mM_may.2.1 12 = .ok (.ireturn, 1) := by decide +kernel
theorem dM_may_13 : decode mM_may.2.1 13 = .ok (.iload_n 2, 1) := by decide +kernel
theorem dM_may_14 : decode mM_may.2.1 14 = .ok (.i2l, 1) := by decide +kernel
theorem dM_may_15 : decode mM_may.2.1 15 = .ok (.lconst 0, 1) := by decide +kernel
theorem dM_may_16 : decode mM_may.2.1 16 = .ok (.ldc2_w 130, 3) := by decide +kernel
theorem dM_may_19 : decode mM_may.2.1 19 = .ok (.invokestatic 78, 3) := by decide +kernel
theorem dM_may_22 : decode mM_may.2.1 22 = .ok (.ifCond .eq 29, 3) := by decide +kernel
theorem dM_may_25 : decode mM_may.2.1 25 = .ok (.iload 4, 2) := by decide +kernel
theorem dM_may_27 : decode mM_may.2.1 27 = .ok (.i2l, 1) := by decide +kernel
theorem dM_may_28 : decode mM_may.2.1 28 = .ok (.lconst 0, 1) := by decide +kernel
theorem dM_may_29 : decode mM_may.2.1 29 = .ok (.ldc2_w 182, 3) := by decide +kernel
theorem dM_may_32 : decode mM_may.2.1 32 = .ok (.invokestatic 78, 3) := by decide +kernel
theorem dM_may_35 : decode mM_may.2.1 35 = .ok (.ifCond .eq 16, 3) := by decide +kernel
theorem dM_may_38 : decode mM_may.2.1 38 = .ok (.iload 5, 2) := by decide +kernel
theorem dM_may_40 : decode mM_may.2.1 40 = .ok (.i2l, 1) := by decide +kernel
theorem dM_may_41 : decode mM_may.2.1 41 = .ok (.lconst 0, 1) := by decide +kernel
theorem dM_may_42 : decode mM_may.2.1 42 = .ok (.ldc2_w 165, 3) := by decide +kernel
theorem dM_may_45 : decode mM_may.2.1 45 = .ok (.invokestatic 78, 3) := by decide +kernel
theorem dM_may_48 : decode mM_may.2.1 48 = .ok (.ifCond .ne 10, 3) := by decide +kernel
theorem dM_may_51 : decode mM_may.2.1 51 = .ok (.aload_n 0, 1) := by decide +kernel
theorem dM_may_52 : decode mM_may.2.1 52 = .ok (.bipush (-2), 2) := by decide +kernel
theorem dM_may_54 : decode mM_may.2.1 54 = .ok (.invokevirtual 127, 3) := by decide +kernel
theorem dM_may_57 : decode mM_may.2.1 57 = .ok (.ireturn, 1) := by decide +kernel
theorem dM_may_58 : decode mM_may.2.1 58 = .ok (.aload_n 0, 1) := by decide +kernel
theorem dM_may_59 : decode mM_may.2.1 59 = .ok (.getfield 75, 3) := by decide +kernel
theorem dM_may_62 : decode mM_may.2.1 62 = .ok (.ifCond .ne 10, 3) := by decide +kernel
theorem dM_may_65 : decode mM_may.2.1 65 = .ok (.aload_n 0, 1) := by decide +kernel
theorem dM_may_66 : decode mM_may.2.1 66 = .ok (.bipush (-3), 2) := by decide +kernel
theorem dM_may_68 : decode mM_may.2.1 68 = .ok (.invokevirtual 127, 3) := by decide +kernel
theorem dM_may_71 : decode mM_may.2.1 71 = .ok (.ireturn, 1) := by decide +kernel
theorem dM_may_72 : decode mM_may.2.1 72 = .ok (.aload_n 0, 1) := by decide +kernel
theorem dM_may_73 : decode mM_may.2.1 73 = .ok (.iload_n 1, 1) := by decide +kernel
theorem dM_may_74 : decode mM_may.2.1 74 = .ok (.iload_n 2, 1) := by decide +kernel
theorem dM_may_75 : decode mM_may.2.1 75 = .ok (.iload_n 3, 1) := by decide +kernel
theorem dM_may_76 : decode mM_may.2.1 76 = .ok (.iload 4, 2) := by decide +kernel
theorem dM_may_78 : decode mM_may.2.1 78 = .ok (.invokevirtual 186, 3) := by decide +kernel
theorem dM_may_81 : decode mM_may.2.1 81 = .ok (.istore 6, 2) := by decide +kernel
theorem dM_may_83 : decode mM_may.2.1 83 = .ok (.iload 6, 2) := by decide +kernel
theorem dM_may_85 : decode mM_may.2.1 85 = .ok (.ifCond .ge 6, 3) := by decide +kernel
theorem dM_may_88 : decode mM_may.2.1 88 = .ok (.iload 6, 2) := by decide +kernel
theorem dM_may_90 : decode mM_may.2.1 90 = .ok (.ireturn, 1) := by decide +kernel
theorem dM_may_91 : decode mM_may.2.1 91 = .ok (.aload_n 0, 1) := by decide +kernel
theorem dM_may_92 : decode mM_may.2.1 92 = .ok (.bipush 60, 2) := by decide +kernel
theorem dM_may_94 : decode mM_may.2.1 94 = .ok (.iload_n 1, 1) := by decide +kernel
theorem dM_may_95 : decode mM_may.2.1 95 = .ok (.imul, 1) := by decide +kernel
theorem dM_may_96 : decode mM_may.2.1 96 = .ok (.iload_n 3, 1) := by decide +kernel
theorem dM_may_97 : decode mM_may.2.1 97 = .ok (.iadd, 1) := by decide +kernel
theorem dM_may_98 : decode mM_may.2.1 98 = .ok (.iload 4, 2) := by decide +kernel
theorem dM_may_100 : decode mM_may.2.1 100 = .ok (.iload 5, 2) := by decide +kernel
theorem dM_may_102 : decode mM_may.2.1 102 = .ok (.iload 5, 2) := by decide +kernel
theorem dM_may_104 : decode mM_may.2.1 104 = .ok (.invokevirtual 193, 3) := by decide +kernel
theorem dM_may_107 : decode mM_may.2.1 107 = .ok (.istore 7, 2) := by decide +kernel
theorem dM_may_109 : decode mM_may.2.1 109 = .ok (.aload_n 0, 1) := by decide +kernel
theorem dM_may_110 : decode mM_may.2.1 110 = .ok (.getfield 167, 3) := by decide +kernel
theorem dM_may_113 : decode mM_may.2.1 113 = .ok (.ifCond .ge 8, 3) := by decide +kernel
theorem dM_may_116 : decode mM_may.2.1 116 = .ok (.iload 7, 2) := by decide +kernel
theorem dM_may_118 : decode mM_may.2.1 118 = .ok (.goto 10, 3) := by decide +kernel
theorem dM_may_121 : decode mM_may.2.1 121 = .ok (.bipush (-100), 2) := by decide +kernel
theorem dM_may_123 : decode mM_may.2.1 123 = .ok (.aload_n 0, 1) := by decide +kernel
theorem dM_may_124 : decode mM_may.2.1 124 = .ok (.getfield 167, 3) := by decide +kernel
theorem dM_may_127 : decode mM_may.2.1 127 = .ok (.isub, 1) := by decide +kernel
theorem dM_may_128 : decode mM_may.2.1 128 = .ok (.ireturn, 1) := by decide +kernel
theorem dM_noCell_0 : decode mM_noCell.2.1 0 = .ok (.aload_n 0, 1) := by decide +kernel
theorem dM_noCell_1 : decode mM_noCell.2.1 1 = .ok (.getfield 53, 3) := by decide +kernel
theorem dM_noCell_4 : decode mM_noCell.2.1 4 = .ok (.iload_n 1, 1) := by decide +kernel
theorem dM_noCell_5 : decode mM_noCell.2.1 5 = .ok (.iaload, 1) := by decide +kernel
theorem dM_noCell_6 : decode mM_noCell.2.1 6 = .ok (.ifCond .ge 7, 3) := by decide +kernel
theorem dM_noCell_9 : decode mM_noCell.2.1 9 = .ok (.iconst 1, 1) := by decide +kernel
theorem dM_noCell_10 : decode mM_noCell.2.1 10 = .ok (.goto 26, 3) := by decide +kernel
theorem dM_noCell_13 : decode mM_noCell.2.1 13 = .ok (.iload_n 2, 1) := by decide +kernel
theorem dM_noCell_14 : decode mM_noCell.2.1 14 = .ok (.i2l, 1) := by decide +kernel
theorem dM_noCell_15 : decode mM_noCell.2.1 15 = .ok (.lconst 0, 1) := by decide +kernel
theorem dM_noCell_16 : decode mM_noCell.2.1 16 = .ok (.aload_n 0, 1) := by decide +kernel
theorem dM_noCell_17 : decode mM_noCell.2.1 17 = .ok (.getfield 53, 3) := by decide +kernel
theorem dM_noCell_20 : decode mM_noCell.2.1 20 = .ok (.iload_n 1, 1) := by decide +kernel
theorem dM_noCell_21 : decode mM_noCell.2.1 21 = .ok (.iaload, 1) := by decide +kernel
theorem dM_noCell_22 : decode mM_noCell.2.1 22 = .ok (.i2l, 1) := by decide +kernel
theorem dM_noCell_23 : decode mM_noCell.2.1 23 = .ok (.lconst 1, 1) := by decide +kernel
theorem dM_noCell_24 : decode mM_noCell.2.1 24 = .ok (.lsub, 1) := by decide +kernel
theorem dM_noCell_25 : decode mM_noCell.2.1 25 = .ok (.invokestatic 78, 3) := by decide +kernel
theorem dM_noCell_28 : decode mM_noCell.2.1 28 = .ok (.ifCond .eq 7, 3) := by decide +kernel
theorem dM_noCell_31 : decode mM_noCell.2.1 31 = .ok (.iconst 0, 1) := by decide +kernel
theorem dM_noCell_32 : decode mM_noCell.2.1 32 = .ok (.goto 4, 3) := by decide +kernel
theorem dM_noCell_35 : decode mM_noCell.2.1 35 = .ok (.iconst 3, 1) := by decide +kernel
theorem dM_noCell_36 : decode mM_noCell.2.1 36 = .ok (.ireturn, 1) := by decide +kernel
theorem dM_noDoing_0 : decode mM_noDoing.2.1 0 = .ok (.iload_n 1, 1) := by decide +kernel
theorem dM_noDoing_1 : decode mM_noDoing.2.1 1 = .ok (.i2l, 1) := by decide +kernel
theorem dM_noDoing_2 : decode mM_noDoing.2.1 2 = .ok (.lconst 0, 1) := by decide +kernel
theorem dM_noDoing_3 : decode mM_noDoing.2.1 3 = .ok (.aload_n 0, 1) := by decide +kernel
theorem dM_noDoing_4 : decode mM_noDoing.2.1 4 = .ok (.getfield 82, 3) := by decide +kernel
theorem dM_noDoing_7 : decode mM_noDoing.2.1 7 = .ok (.i2l, 1) := by decide +kernel
theorem dM_noDoing_8 : decode mM_noDoing.2.1 8 = .ok (.lconst 1, 1) := by decide +kernel
theorem dM_noDoing_9 : decode mM_noDoing.2.1 9 = .ok (.lsub, 1) := by decide +kernel
theorem dM_noDoing_10 : decode mM_noDoing.2.1 10 = .ok (.invokestatic 78, 3) := by decide +kernel
theorem dM_noDoing_13 : decode mM_noDoing.2.1 13 = .ok (.ifCond .ne 7, 3) := by decide +kernel
theorem dM_noDoing_16 : decode mM_noDoing.2.1 16 = .ok (.iconst 1, 1) := by decide +kernel
theorem dM_noDoing_17 : decode mM_noDoing.2.1 17 = .ok (.goto 4, 3) := by decide +kernel
theorem dM_noDoing_20 : decode mM_noDoing.2.1 20 = .ok (.iconst 0, 1) := by decide +kernel
theorem dM_noDoing_21 : decode mM_noDoing.2.1 21 = .ok (.ireturn, 1) := by decide +kernel
theorem dM_noGuest_0 : decode mM_noGuest.2.1 0 = .ok (.iload_n 1, 1) := by decide +kernel
theorem dM_noGuest_1 : decode mM_noGuest.2.1 1 = .ok (.i2l, 1) := by decide +kernel
theorem dM_noGuest_2 : decode mM_noGuest.2.1 2 = .ok (.lconst 0, 1) := by decide +kernel
theorem dM_noGuest_3 : decode mM_noGuest.2.1 3 = .ok (.aload_n 0, 1) := by decide +kernel
theorem dM_noGuest_4 : decode mM_noGuest.2.1 4 = .ok (.getfield 75, 3) := by decide +kernel
theorem dM_noGuest_7 : decode mM_noGuest.2.1 7 = .ok (.i2l, 1) := by decide +kernel
theorem dM_noGuest_8 : decode mM_noGuest.2.1 8 = .ok (.lconst 1, 1) := by decide +kernel
theorem dM_noGuest_9 : decode mM_noGuest.2.1 9 = .ok (.lsub, 1) := by decide +kernel
theorem dM_noGuest_10 : decode mM_noGuest.2.1 10 = .ok (.invokestatic 78, 3) := by decide +kernel
theorem dM_noGuest_13 : decode mM_noGuest.2.1 13 = .ok (.ifCond .ne 7, 3) := by decide +kernel
theorem dM_noGuest_16 : decode mM_noGuest.2.1 16 = .ok (.iconst 1, 1) := by decide +kernel
theorem dM_noGuest_17 : decode mM_noGuest.2.1 17 = .ok (.goto 4, 3) := by decide +kernel
theorem dM_noGuest_20 : decode mM_noGuest.2.1 20 = .ok (.iconst 0, 1) := by decide +kernel
theorem dM_noGuest_21 : decode mM_noGuest.2.1 21 = .ok (.ireturn, 1) := by decide +kernel
theorem dM_noSheet_0 : decode mM_noSheet.2.1 0 = .ok (.iload_n 0, 1) := by decide +kernel
theorem dM_noSheet_1 : decode mM_noSheet.2.1 1 = .ok (.i2l, 1) := by decide +kernel
theorem dM_noSheet_2 : decode mM_noSheet.2.1 2 = .ok (.lconst 0, 1) := by decide +kernel
theorem dM_noSheet_3 : decode mM_noSheet.2.1 3 = .ok (.ldc2_w 227, 3) := by decide +kernel
theorem dM_noSheet_6 : decode mM_noSheet.2.1 6 = .ok (.invokestatic 78, 3) := by decide +kernel
theorem dM_noSheet_9 : decode mM_noSheet.2.1 9 = .ok (.ifCond .ne 7, 3) := by decide +kernel
theorem dM_noSheet_12 : decode mM_noSheet.2.1 12 = .ok (.iconst 1, 1) := by decide +kernel
theorem dM_noSheet_13 : decode mM_noSheet.2.1 13 = .ok (.goto 4, 3) := by decide +kernel
theorem dM_noSheet_16 : decode mM_noSheet.2.1 16 = .ok (.iconst 0, 1) := by decide +kernel
theorem dM_noSheet_17 : decode mM_noSheet.2.1 17 = .ok (.ireturn, 1) := by decide +kernel
theorem dM_odds_0 : decode mM_odds.2.1 0 = .ok (.iload_n 1, 1) := by decide +kernel
theorem dM_odds_1 : decode mM_odds.2.1 1 = .ok (.invokestatic 123, 3) := by decide +kernel
theorem dM_odds_4 : decode mM_odds.2.1 4 = .ok (.ifCond .ne 56, 3) := by decide +kernel
theorem dM_odds_7 : decode mM_odds.2.1 7 = .ok (.iload_n 2, 1) := by decide +kernel
theorem dM_odds_8 : decode mM_odds.2.1 8 = .ok (.i2l, 1) := by decide +kernel
theorem dM_odds_9 : decode mM_odds.2.1 9 = .ok (.lconst 0, 1) := by decide +kernel
theorem dM_odds_10 : decode mM_odds.2.1 10 = .ok (.ldc2_w 130, 3) := by decide +kernel
theorem dM_odds_13 : decode mM_odds.2.1 13 = .ok (.invokestatic 78, 3) := by decide +kernel
theorem dM_odds_16 : decode mM_odds.2.1 16 = .ok (.ifCond .eq 44, 3) := by decide +kernel
theorem dM_odds_19 : decode mM_odds.2.1 19 = .ok (.iload 4, 2) := by decide +kernel
theorem dM_odds_21 : decode mM_odds.2.1 21 = .ok (.i2l, 1) := by decide +kernel
theorem dM_odds_22 : decode mM_odds.2.1 22 = .ok (.lconst 0, 1) := by decide +kernel
theorem dM_odds_23 : decode mM_odds.2.1 23 = .ok (.ldc2_w 182, 3) := by decide +kernel
theorem dM_odds_26 : decode mM_odds.2.1 26 = .ok (.invokestatic 78, 3) := by decide +kernel
theorem dM_odds_29 : decode mM_odds.2.1 29 = .ok (.ifCond .eq 31, 3) := by decide +kernel
theorem dM_odds_32 : decode mM_odds.2.1 32 = .ok (.iload 5, 2) := by decide +kernel
theorem dM_odds_34 : decode mM_odds.2.1 34 = .ok (.i2l, 1) := by decide +kernel
theorem dM_odds_35 : decode mM_odds.2.1 35 = .ok (.lconst 0, 1) := by decide +kernel
theorem dM_odds_36 : decode mM_odds.2.1 36 = .ok (.ldc2_w 165, 3) := by decide +kernel
theorem dM_odds_39 : decode mM_odds.2.1 39 = .ok (.invokestatic 78, 3) := by decide +kernel
theorem dM_odds_42 : decode mM_odds.2.1 42 = .ok (.ifCond .eq 18, 3) := by decide +kernel
theorem dM_odds_45 : decode mM_odds.2.1 45 = .ok (.iload 6, 2) := by decide +kernel
theorem dM_odds_47 : decode mM_odds.2.1 47 = .ok (.i2l, 1) := by decide +kernel
theorem dM_odds_48 : decode mM_odds.2.1 48 = .ok (.lconst 0, 1) := by decide +kernel
theorem dM_odds_49 : decode mM_odds.2.1 49 = .ok (.lconst 1, 1) := by decide +kernel
theorem dM_odds_50 : decode mM_odds.2.1 50 = .ok (.invokestatic 78, 3) := by decide +kernel
theorem dM_odds_53 : decode mM_odds.2.1 53 = .ok (.ifCond .eq 7, 3) := by decide +kernel
theorem dM_odds_56 : decode mM_odds.2.1 56 = .ok (.iconst 1, 1) := by decide +kernel
theorem dM_odds_57 : decode mM_odds.2.1 57 = .ok (.goto 4, 3) := by decide +kernel
theorem dM_odds_60 : decode mM_odds.2.1 60 = .ok (.iconst 0, 1) := by decide +kernel
theorem dM_odds_61 : decode mM_odds.2.1 61 = .ok (.istore 7, 2) := by decide +kernel
theorem dM_odds_63 : decode mM_odds.2.1 63 = .ok (.iload 7, 2) := by decide +kernel
theorem dM_odds_65 : decode mM_odds.2.1 65 = .ok (.ifCond .eq 10, 3) := by decide +kernel
theorem dM_odds_68 : decode mM_odds.2.1 68 = .ok (.aload_n 0, 1) := by decide +kernel
theorem dM_odds_69 : decode mM_odds.2.1 69 = .ok (.getfield 75, 3) := by decide +kernel
theorem dM_odds_72 : decode mM_odds.2.1 72 = .ok (.ifCond .ne 8, 3) := by decide +kernel
theorem dM_odds_75 : decode mM_odds.2.1 75 = .ok (.aload_n 0, 1) := by decide +kernel
theorem dM_odds_76 : decode mM_odds.2.1 76 = .ok (.invokevirtual 220, 3) := by decide +kernel
theorem dM_odds_79 : decode mM_odds.2.1 79 = .ok (.lreturn, 1) := by decide +kernel
theorem dM_odds_80 : decode mM_odds.2.1 80 = .ok (.aload_n 0, 1) := by decide +kernel
theorem dM_odds_81 : decode mM_odds.2.1 81 = .ok (.iload_n 1, 1) := by decide +kernel
theorem dM_odds_82 : decode mM_odds.2.1 82 = .ok (.iload_n 2, 1) := by decide +kernel
theorem dM_odds_83 : decode mM_odds.2.1 83 = .ok (.iload_n 3, 1) := by decide +kernel
theorem dM_odds_84 : decode mM_odds.2.1 84 = .ok (.iload 4, 2) := by decide +kernel
theorem dM_odds_86 : decode mM_odds.2.1 86 = .ok (.invokevirtual 186, 3) := by decide +kernel
theorem dM_odds_89 : decode mM_odds.2.1 89 = .ok (.ifCond .ge 7, 3) := by decide +kernel
theorem dM_odds_92 : decode mM_odds.2.1 92 = .ok (.invokestatic 71, 3) := by decide +kernel
theorem dM_odds_95 : decode mM_odds.2.1 95 = .ok (.lreturn, 1) := by decide +kernel
theorem dM_odds_96 : decode mM_odds.2.1 96 = .ok (.aload_n 0, 1) := by decide +kernel
theorem dM_odds_97 : decode mM_odds.2.1 97 = .ok (.bipush 60, 2) := by decide +kernel
theorem dM_odds_99 : decode mM_odds.2.1 99 = .ok (.iload_n 1, 1) := by decide +kernel
theorem dM_odds_100 : decode mM_odds.2.1 100 = .ok (.imul, 1) := by decide +kernel
theorem dM_odds_101 : decode mM_odds.2.1 101 = .ok (.iload_n 3, 1) := by decide +kernel
theorem dM_odds_102 : decode mM_odds.2.1 102 = .ok (.iadd, 1) := by decide +kernel
theorem dM_odds_103 : decode mM_odds.2.1 103 = .ok (.iload 4, 2) := by decide +kernel
theorem dM_odds_105 : decode mM_odds.2.1 105 = .ok (.iload 5, 2) := by decide +kernel
theorem dM_odds_107 : decode mM_odds.2.1 107 = .ok (.iconst 5, 1) := by decide +kernel
theorem dM_odds_108 : decode mM_odds.2.1 108 = .ok (.invokevirtual 193, 3) := by decide +kernel
theorem dM_odds_111 : decode mM_odds.2.1 111 = .ok (.istore 8, 2) := by decide +kernel
theorem dM_odds_113 : decode mM_odds.2.1 113 = .ok (.aload_n 0, 1) := by decide +kernel
theorem dM_odds_114 : decode mM_odds.2.1 114 = .ok (.getfield 167, 3) := by decide +kernel
theorem dM_odds_117 : decode mM_odds.2.1 117 = .ok (.ifCond .lt 7, 3) := by decide +kernel
theorem dM_odds_120 : decode mM_odds.2.1 120 = .ok (.invokestatic 71, 3) := by decide +kernel
theorem dM_odds_123 : decode mM_odds.2.1 123 = .ok (.lreturn, 1) := by decide +kernel
theorem dM_odds_124 : decode mM_odds.2.1 124 = .ok (.lconst 0, 1) := by decide +kernel
theorem dM_odds_125 : decode mM_odds.2.1 125 = .ok (.lstore 9, 2) := by decide +kernel
theorem dM_odds_127 : decode mM_odds.2.1 127 = .ok (.iconst 0, 1) := by decide +kernel
theorem dM_odds_128 : decode mM_odds.2.1 128 = .ok (.istore 11, 2) := by decide +kernel
theorem dM_odds_130 : decode mM_odds.2.1 130 = .ok (.iload 11, 2) := by decide +kernel
theorem dM_odds_132 : decode mM_odds.2.1 132 = .ok (.aload_n 0, 1) := by decide +kernel
theorem dM_odds_133 : decode mM_odds.2.1 133 = .ok (.getfield 75, 3) := by decide +kernel
theorem dM_odds_136 : decode mM_odds.2.1 136 = .ok (.if_icmp .ge 29, 3) := by decide +kernel
theorem dM_odds_139 : decode mM_odds.2.1 139 = .ok (.lload 9, 2) := by decide +kernel
theorem dM_odds_141 : decode mM_odds.2.1 141 = .ok (.iload 8, 2) := by decide +kernel
theorem dM_odds_143 : decode mM_odds.2.1 143 = .ok (.iload 11, 2) := by decide +kernel
theorem dM_odds_145 : decode mM_odds.2.1 145 = .ok (.invokestatic 200, 3) := by decide +kernel
theorem dM_odds_148 : decode mM_odds.2.1 148 = .ok (.ifCond .eq 7, 3) := by decide +kernel
theorem dM_odds_151 : decode mM_odds.2.1 151 = .ok (.lconst 1, 1) := by decide +kernel
theorem dM_odds_152 : decode mM_odds.2.1 152 = .ok (.goto 4, 3) := by decide +kernel
theorem dM_odds_155 : decode mM_odds.2.1 155 = .ok (.lconst 0, 1) := by decide +kernel
theorem dM_odds_156 : decode mM_odds.2.1 156 = .ok (.ladd, 1) := by decide +kernel
theorem dM_odds_157 : decode mM_odds.2.1 157 = .ok (.lstore 9, 2) := by decide +kernel
theorem dM_odds_159 : decode mM_odds.2.1 159 = .ok (.iinc 11 1, 3) := by decide +kernel
theorem dM_odds_162 : decode mM_odds.2.1 162 = .ok (.goto (-32), 3) := by decide +kernel
theorem dM_odds_165 : decode mM_odds.2.1 165 = .ok (.lload 9, 2) := by decide +kernel
theorem dM_odds_167 : decode mM_odds.2.1 167 = .ok (.aload_n 0, 1) := by decide +kernel
theorem dM_odds_168 : decode mM_odds.2.1 168 = .ok (.getfield 75, 3) := by decide +kernel
theorem dM_odds_171 : decode mM_odds.2.1 171 = .ok (.i2l, 1) := by decide +kernel
theorem dM_odds_172 : decode mM_odds.2.1 172 = .ok (.iload 6, 2) := by decide +kernel
theorem dM_odds_174 : decode mM_odds.2.1 174 = .ok (.invokestatic 223, 3) := by decide +kernel
theorem dM_odds_177 : decode mM_odds.2.1 177 = .ok (.lreturn, 1) := by decide +kernel
theorem dM_ofDoing_0 : decode mM_ofDoing.2.1 0 = .ok (.aload_n 0, 1) := by decide +kernel
theorem dM_ofDoing_1 : decode mM_ofDoing.2.1 1 = .ok (.iload_n 1, 1) := by decide +kernel
theorem dM_ofDoing_2 : decode mM_ofDoing.2.1 2 = .ok (.invokevirtual 157, 3) := by decide +kernel
theorem dM_ofDoing_5 : decode mM_ofDoing.2.1 5 = .ok (.ifCond .eq 5, 3) := by decide +kernel
theorem dM_ofDoing_8 : decode mM_ofDoing.2.1 8 = .ok (.iconst (-1), 1) := by decide +kernel
theorem dM_ofDoing_9 : decode mM_ofDoing.2.1 9 = .ok (.ireturn, 1) := by decide +kernel
theorem dM_ofDoing_10 : decode mM_ofDoing.2.1 10 = .ok (.iload_n 2, 1) := by decide +kernel
theorem dM_ofDoing_11 : decode mM_ofDoing.2.1 11 = .ok (.ifCond .ne 12, 3) := by decide +kernel
theorem dM_ofDoing_14 : decode mM_ofDoing.2.1 14 = .ok (.aload_n 0, 1) := by decide +kernel
theorem dM_ofDoing_15 : decode mM_ofDoing.2.1 15 = .ok (.getfield 7, 3) := by decide +kernel
theorem dM_ofDoing_18 : decode mM_ofDoing.2.1 18 = .ok (.iload_n 1, 1) := by decide +kernel
theorem dM_ofDoing_19 : decode mM_ofDoing.2.1 19 = .ok (.iaload, 1) := by decide +kernel
theorem dM_ofDoing_20 : decode mM_ofDoing.2.1 20 = .ok (.goto 32, 3) := by decide +kernel
theorem dM_ofDoing_23 : decode mM_ofDoing.2.1 23 = .ok (.iload_n 2, 1) := by decide +kernel
theorem dM_ofDoing_24 : decode mM_ofDoing.2.1 24 = .ok (.iconst 1, 1) := by decide +kernel
theorem dM_ofDoing_25 : decode mM_ofDoing.2.1 25 = .ok (.if_icmp .ne 12, 3) := by decide +kernel
theorem dM_ofDoing_28 : decode mM_ofDoing.2.1 28 = .ok (.aload_n 0, 1) := by decide +kernel
theorem dM_ofDoing_29 : decode mM_ofDoing.2.1 29 = .ok (.getfield 13, 3) := by decide +kernel
theorem dM_ofDoing_32 : decode mM_ofDoing.2.1 32 = .ok (.iload_n 1, 1) := by decide +kernel
theorem dM_ofDoing_33 : decode mM_ofDoing.2.1 33 = .ok (.iaload, 1) := by decide +kernel
theorem dM_ofDoing_34 : decode mM_ofDoing.2.1 34 = .ok (.goto 18, 3) := by decide +kernel
theorem dM_ofDoing_37 : decode mM_ofDoing.2.1 37 = .ok (.iload_n 2, 1) := by decide +kernel
theorem dM_ofDoing_38 : decode mM_ofDoing.2.1 38 = .ok (.iconst 2, 1) := by decide +kernel
theorem dM_ofDoing_39 : decode mM_ofDoing.2.1 39 = .ok (.if_icmp .ne 11, 3) := by decide +kernel
theorem dM_ofDoing_42 : decode mM_ofDoing.2.1 42 = .ok (.aload_n 0, 1) := by decide +kernel
theorem dM_ofDoing_43 : decode mM_ofDoing.2.1 43 = .ok (.iload_n 1, 1) := by decide +kernel
theorem dM_ofDoing_44 : decode mM_ofDoing.2.1 44 = .ok (.invokevirtual 160, 3) := by decide +kernel
theorem dM_ofDoing_47 : decode mM_ofDoing.2.1 47 = .ok (.goto 5, 3) := by decide +kernel
theorem dM_ofDoing_50 : decode mM_ofDoing.2.1 50 = .ok (.bipush (-2), 2) := by decide +kernel
theorem dM_ofDoing_52 : decode mM_ofDoing.2.1 52 = .ok (.ireturn, 1) := by decide +kernel
theorem dM_ofGuest_0 : decode mM_ofGuest.2.1 0 = .ok (.aload_n 0, 1) := by decide +kernel
theorem dM_ofGuest_1 : decode mM_ofGuest.2.1 1 = .ok (.iload_n 1, 1) := by decide +kernel
theorem dM_ofGuest_2 : decode mM_ofGuest.2.1 2 = .ok (.invokevirtual 154, 3) := by decide +kernel
theorem dM_ofGuest_5 : decode mM_ofGuest.2.1 5 = .ok (.ifCond .eq 5, 3) := by decide +kernel
theorem dM_ofGuest_8 : decode mM_ofGuest.2.1 8 = .ok (.iconst (-1), 1) := by decide +kernel
theorem dM_ofGuest_9 : decode mM_ofGuest.2.1 9 = .ok (.ireturn, 1) := by decide +kernel
theorem dM_ofGuest_10 : decode mM_ofGuest.2.1 10 = .ok (.iload_n 2, 1) := by decide +kernel
theorem dM_ofGuest_11 : decode mM_ofGuest.2.1 11 = .ok (.ifCond .ne 12, 3) := by decide +kernel
theorem dM_ofGuest_14 : decode mM_ofGuest.2.1 14 = .ok (.aload_n 0, 1) := by decide +kernel
theorem dM_ofGuest_15 : decode mM_ofGuest.2.1 15 = .ok (.getfield 16, 3) := by decide +kernel
theorem dM_ofGuest_18 : decode mM_ofGuest.2.1 18 = .ok (.iload_n 1, 1) := by decide +kernel
theorem dM_ofGuest_19 : decode mM_ofGuest.2.1 19 = .ok (.iaload, 1) := by decide +kernel
theorem dM_ofGuest_20 : decode mM_ofGuest.2.1 20 = .ok (.goto 33, 3) := by decide +kernel
theorem dM_ofGuest_23 : decode mM_ofGuest.2.1 23 = .ok (.iload_n 2, 1) := by decide +kernel
theorem dM_ofGuest_24 : decode mM_ofGuest.2.1 24 = .ok (.iconst 1, 1) := by decide +kernel
theorem dM_ofGuest_25 : decode mM_ofGuest.2.1 25 = .ok (.if_icmp .ne 12, 3) := by decide +kernel
theorem dM_ofGuest_28 : decode mM_ofGuest.2.1 28 = .ok (.aload_n 0, 1) := by decide +kernel
theorem dM_ofGuest_29 : decode mM_ofGuest.2.1 29 = .ok (.getfield 19, 3) := by decide +kernel
theorem dM_ofGuest_32 : decode mM_ofGuest.2.1 32 = .ok (.iload_n 1, 1) := by decide +kernel
theorem dM_ofGuest_33 : decode mM_ofGuest.2.1 33 = .ok (.iaload, 1) := by decide +kernel
theorem dM_ofGuest_34 : decode mM_ofGuest.2.1 34 = .ok (.goto 19, 3) := by decide +kernel
theorem dM_ofGuest_37 : decode mM_ofGuest.2.1 37 = .ok (.iload_n 2, 1) := by decide +kernel
theorem dM_ofGuest_38 : decode mM_ofGuest.2.1 38 = .ok (.iconst 2, 1) := by decide +kernel
theorem dM_ofGuest_39 : decode mM_ofGuest.2.1 39 = .ok (.if_icmp .ne 12, 3) := by decide +kernel
theorem dM_ofGuest_42 : decode mM_ofGuest.2.1 42 = .ok (.aload_n 0, 1) := by decide +kernel
theorem dM_ofGuest_43 : decode mM_ofGuest.2.1 43 = .ok (.getfield 22, 3) := by decide +kernel
theorem dM_ofGuest_46 : decode mM_ofGuest.2.1 46 = .ok (.iload_n 1, 1) := by decide +kernel
theorem dM_ofGuest_47 : decode mM_ofGuest.2.1 47 = .ok (.iaload, 1) := by decide +kernel
theorem dM_ofGuest_48 : decode mM_ofGuest.2.1 48 = .ok (.goto 5, 3) := by decide +kernel
theorem dM_ofGuest_51 : decode mM_ofGuest.2.1 51 = .ok (.bipush (-2), 2) := by decide +kernel
theorem dM_ofGuest_53 : decode mM_ofGuest.2.1 53 = .ok (.ireturn, 1) := by decide +kernel
theorem dM_pairsBarred_0 : decode mM_pairsBarred.2.1 0 = .ok (.aload_n 0, 1) := by decide +kernel
theorem dM_pairsBarred_1 : decode mM_pairsBarred.2.1 1 = .ok (.iload_n 1, 1) := by decide +kernel
theorem dM_pairsBarred_2 : decode mM_pairsBarred.2.1 2 = .ok (.iload_n 2, 1) := by decide +kernel
theorem dM_pairsBarred_3 : decode mM_pairsBarred.2.1 3 = .ok (.iload_n 3, 1) := by decide +kernel
theorem dM_pairsBarred_4 : decode mM_pairsBarred.2.1 4 = .ok (.ldc2_w 130, 3) := by decide +kernel
theorem dM_pairsBarred_7 : decode mM_pairsBarred.2.1 7 = .ok (.iload 4, 2) := by decide +kernel
theorem dM_pairsBarred_9 : decode mM_pairsBarred.2.1 9 = .ok (.i2l, 1) := by decide +kernel
theorem dM_pairsBarred_10 : decode mM_pairsBarred.2.1 10 = .ok (.lmul, 1) := by decide +kernel
theorem dM_pairsBarred_11 : decode mM_pairsBarred.2.1 11 = .ok (.invokevirtual 132, 3) := by decide +kernel
theorem dM_pairsBarred_14 : decode mM_pairsBarred.2.1 14 = .ok (.istore 5, 2) := by decide +kernel
theorem dM_pairsBarred_16 : decode mM_pairsBarred.2.1 16 = .ok (.iload 5, 2) := by decide +kernel
theorem dM_pairsBarred_18 : decode mM_pairsBarred.2.1 18 = .ok (.ifCond .ge 6, 3) := by decide +kernel
theorem dM_pairsBarred_21 : decode mM_pairsBarred.2.1 21 = .ok (.iload 5, 2) := by decide +kernel
theorem dM_pairsBarred_23 : decode mM_pairsBarred.2.1 23 = .ok (.ireturn, 1) := by decide +kernel
theorem dM_pairsBarred_24 : decode mM_pairsBarred.2.1 24 = .ok (.iconst 0, 1) := by decide +kernel
theorem dM_pairsBarred_25 : decode mM_pairsBarred.2.1 25 = .ok (.istore 6, 2) := by decide +kernel
theorem dM_pairsBarred_27 : decode mM_pairsBarred.2.1 27 = .ok (.iload 6, 2) := by decide +kernel
theorem dM_pairsBarred_29 : decode mM_pairsBarred.2.1 29 = .ok (.iload 4, 2) := by decide +kernel
theorem dM_pairsBarred_31 : decode mM_pairsBarred.2.1 31 = .ok (.if_icmp .ge 58, 3) := by decide +kernel
theorem dM_pairsBarred_34 : decode mM_pairsBarred.2.1 34 = .ok (.bipush 60, 2) := by decide +kernel
theorem dM_pairsBarred_36 : decode mM_pairsBarred.2.1 36 = .ok (.iload_n 1, 1) := by decide +kernel
theorem dM_pairsBarred_37 : decode mM_pairsBarred.2.1 37 = .ok (.imul, 1) := by decide +kernel
theorem dM_pairsBarred_38 : decode mM_pairsBarred.2.1 38 = .ok (.iload_n 3, 1) := by decide +kernel
theorem dM_pairsBarred_39 : decode mM_pairsBarred.2.1 39 = .ok (.iadd, 1) := by decide +kernel
theorem dM_pairsBarred_40 : decode mM_pairsBarred.2.1 40 = .ok (.iconst 2, 1) := by decide +kernel
theorem dM_pairsBarred_41 : decode mM_pairsBarred.2.1 41 = .ok (.iload 6, 2) := by decide +kernel
theorem dM_pairsBarred_43 : decode mM_pairsBarred.2.1 43 = .ok (.imul, 1) := by decide +kernel
theorem dM_pairsBarred_44 : decode mM_pairsBarred.2.1 44 = .ok (.iadd, 1) := by decide +kernel
theorem dM_pairsBarred_45 : decode mM_pairsBarred.2.1 45 = .ok (.istore 7, 2) := by decide +kernel
theorem dM_pairsBarred_47 : decode mM_pairsBarred.2.1 47 = .ok (.aload_n 0, 1) := by decide +kernel
theorem dM_pairsBarred_48 : decode mM_pairsBarred.2.1 48 = .ok (.aload_n 0, 1) := by decide +kernel
theorem dM_pairsBarred_49 : decode mM_pairsBarred.2.1 49 = .ok (.getfield 59, 3) := by decide +kernel
theorem dM_pairsBarred_52 : decode mM_pairsBarred.2.1 52 = .ok (.iload 7, 2) := by decide +kernel
theorem dM_pairsBarred_54 : decode mM_pairsBarred.2.1 54 = .ok (.iaload, 1) := by decide +kernel
theorem dM_pairsBarred_55 : decode mM_pairsBarred.2.1 55 = .ok (.invokevirtual 154, 3) := by decide +kernel
theorem dM_pairsBarred_58 : decode mM_pairsBarred.2.1 58 = .ok (.ifCond .ne 19, 3) := by decide +kernel
theorem dM_pairsBarred_61 : decode mM_pairsBarred.2.1 61 = .ok (.aload_n 0, 1) := by decide +kernel
theorem dM_pairsBarred_62 : decode mM_pairsBarred.2.1 62 = .ok (.aload_n 0, 1) := by decide +kernel
theorem dM_pairsBarred_63 : decode mM_pairsBarred.2.1 63 = .ok (.getfield 59, 3) := by decide +kernel
theorem dM_pairsBarred_66 : decode mM_pairsBarred.2.1 66 = .ok (.iload 7, 2) := by decide +kernel
theorem dM_pairsBarred_68 : decode mM_pairsBarred.2.1 68 = .ok (.iconst 1, 1) := by decide +kernel
theorem dM_pairsBarred_69 : decode mM_pairsBarred.2.1 69 = .ok (.iadd, 1) := by decide +kernel
theorem dM_pairsBarred_70 : decode mM_pairsBarred.2.1 70 = .ok (.iaload, 1) := by decide +kernel
theorem dM_pairsBarred_71 : decode mM_pairsBarred.2.1 71 = .ok (.invokevirtual 157, 3) := by decide +kernel
theorem dM_pairsBarred_74 : decode mM_pairsBarred.2.1 74 = .ok (.ifCond .eq 9, 3) := by decide +kernel
theorem dM_pairsBarred_77 : decode mM_pairsBarred.2.1 77 = .ok (.aload_n 0, 1) := by decide +kernel
theorem dM_pairsBarred_78 : decode mM_pairsBarred.2.1 78 = .ok (.iconst (-1), 1) := by decide +kernel
theorem dM_pairsBarred_79 : decode mM_pairsBarred.2.1 79 = .ok (.invokevirtual 127, 3) := by decide +kernel
theorem dM_pairsBarred_82 : decode mM_pairsBarred.2.1 82 = .ok (.ireturn, 1) := by decide +kernel
theorem dM_pairsBarred_83 : decode mM_pairsBarred.2.1 83 = .ok (.iinc 6 1, 3) := by decide +kernel
theorem dM_pairsBarred_86 : decode mM_pairsBarred.2.1 86 = .ok (.goto (-59), 3) := by decide +kernel
theorem dM_pairsBarred_89 : decode mM_pairsBarred.2.1 89 = .ok (.aload_n 0, 1) := by decide +kernel
theorem dM_pairsBarred_90 : decode mM_pairsBarred.2.1 90 = .ok (.iconst 0, 1) := by decide +kernel
theorem dM_pairsBarred_91 : decode mM_pairsBarred.2.1 91 = .ok (.invokevirtual 127, 3) := by decide +kernel
theorem dM_pairsBarred_94 : decode mM_pairsBarred.2.1 94 = .ok (.ireturn, 1) := by decide +kernel
theorem dM_pleased_0 : decode mM_pleased.2.1 0 = .ok (.aload_n 0, 1) := by decide +kernel
theorem dM_pleased_1 : decode mM_pleased.2.1 1 = .ok (.iload_n 1, 1) := by decide +kernel
theorem dM_pleased_2 : decode mM_pleased.2.1 2 = .ok (.invokevirtual 154, 3) := by decide +kernel
theorem dM_pleased_5 : decode mM_pleased.2.1 5 = .ok (.ifCond .ne 11, 3) := by decide +kernel
theorem dM_pleased_8 : decode mM_pleased.2.1 8 = .ok (.aload_n 0, 1) := by decide +kernel
theorem dM_pleased_9 : decode mM_pleased.2.1 9 = .ok (.iload_n 2, 1) := by decide +kernel
theorem dM_pleased_10 : decode mM_pleased.2.1 10 = .ok (.invokevirtual 157, 3) := by decide +kernel
theorem dM_pleased_13 : decode mM_pleased.2.1 13 = .ok (.ifCond .eq 7, 3) := by decide +kernel
theorem dM_pleased_16 : decode mM_pleased.2.1 16 = .ok (.iconst (-1), 1) := by decide +kernel
theorem dM_pleased_17 : decode mM_pleased.2.1 17 = .ok (.goto 9, 3) := by decide +kernel
theorem dM_pleased_20 : decode mM_pleased.2.1 20 = .ok (.aload_n 0, 1) := by decide +kernel
theorem dM_pleased_21 : decode mM_pleased.2.1 21 = .ok (.iload_n 1, 1) := by decide +kernel
theorem dM_pleased_22 : decode mM_pleased.2.1 22 = .ok (.iload_n 2, 1) := by decide +kernel
theorem dM_pleased_23 : decode mM_pleased.2.1 23 = .ok (.invokevirtual 148, 3) := by decide +kernel
theorem dM_pleased_26 : decode mM_pleased.2.1 26 = .ok (.ireturn, 1) := by decide +kernel
theorem dM_pleasedBy_0 : decode mM_pleasedBy.2.1 0 = .ok (.aload_n 0, 1) := by decide +kernel
theorem dM_pleasedBy_1 : decode mM_pleasedBy.2.1 1 = .ok (.getfield 22, 3) := by decide +kernel
theorem dM_pleasedBy_4 : decode mM_pleasedBy.2.1 4 = .ok (.iload_n 1, 1) := by decide +kernel
theorem dM_pleasedBy_5 : decode mM_pleasedBy.2.1 5 = .ok (.iaload, 1) := by decide +kernel
theorem dM_pleasedBy_6 : decode mM_pleasedBy.2.1 6 = .ok (.iload_n 2, 1) := by decide +kernel
theorem dM_pleasedBy_7 : decode mM_pleasedBy.2.1 7 = .ok (.if_icmp .ne 7, 3) := by decide +kernel
theorem dM_pleasedBy_10 : decode mM_pleasedBy.2.1 10 = .ok (.iconst 1, 1) := by decide +kernel
theorem dM_pleasedBy_11 : decode mM_pleasedBy.2.1 11 = .ok (.goto 4, 3) := by decide +kernel
theorem dM_pleasedBy_14 : decode mM_pleasedBy.2.1 14 = .ok (.iconst 0, 1) := by decide +kernel
theorem dM_pleasedBy_15 : decode mM_pleasedBy.2.1 15 = .ok (.istore_n 3, 1) := by decide +kernel
theorem dM_pleasedBy_16 : decode mM_pleasedBy.2.1 16 = .ok (.aload_n 0, 1) := by decide +kernel
theorem dM_pleasedBy_17 : decode mM_pleasedBy.2.1 17 = .ok (.getfield 7, 3) := by decide +kernel
theorem dM_pleasedBy_20 : decode mM_pleasedBy.2.1 20 = .ok (.iload_n 2, 1) := by decide +kernel
theorem dM_pleasedBy_21 : decode mM_pleasedBy.2.1 21 = .ok (.iaload, 1) := by decide +kernel
theorem dM_pleasedBy_22 : decode mM_pleasedBy.2.1 22 = .ok (.aload_n 0, 1) := by decide +kernel
theorem dM_pleasedBy_23 : decode mM_pleasedBy.2.1 23 = .ok (.getfield 19, 3) := by decide +kernel
theorem dM_pleasedBy_26 : decode mM_pleasedBy.2.1 26 = .ok (.iload_n 1, 1) := by decide +kernel
theorem dM_pleasedBy_27 : decode mM_pleasedBy.2.1 27 = .ok (.iaload, 1) := by decide +kernel
theorem dM_pleasedBy_28 : decode mM_pleasedBy.2.1 28 = .ok (.iadd, 1) := by decide +kernel
theorem dM_pleasedBy_29 : decode mM_pleasedBy.2.1 29 = .ok (.iload_n 3, 1) := by decide +kernel
theorem dM_pleasedBy_30 : decode mM_pleasedBy.2.1 30 = .ok (.ifCond .eq 7, 3) := by decide +kernel
theorem dM_pleasedBy_33 : decode mM_pleasedBy.2.1 33 = .ok (.iconst 3, 1) := by decide +kernel
theorem dM_pleasedBy_34 : decode mM_pleasedBy.2.1 34 = .ok (.goto 4, 3) := by decide +kernel
theorem dM_pleasedBy_37 : decode mM_pleasedBy.2.1 37 = .ok (.iconst 0, 1) := by decide +kernel
theorem dM_pleasedBy_38 : decode mM_pleasedBy.2.1 38 = .ok (.iadd, 1) := by decide +kernel
theorem dM_pleasedBy_39 : decode mM_pleasedBy.2.1 39 = .ok (.istore 4, 2) := by decide +kernel
theorem dM_pleasedBy_41 : decode mM_pleasedBy.2.1 41 = .ok (.aload_n 0, 1) := by decide +kernel
theorem dM_pleasedBy_42 : decode mM_pleasedBy.2.1 42 = .ok (.getfield 16, 3) := by decide +kernel
theorem dM_pleasedBy_45 : decode mM_pleasedBy.2.1 45 = .ok (.iload_n 1, 1) := by decide +kernel
theorem dM_pleasedBy_46 : decode mM_pleasedBy.2.1 46 = .ok (.iaload, 1) := by decide +kernel
theorem dM_pleasedBy_47 : decode mM_pleasedBy.2.1 47 = .ok (.iconst 2, 1) := by decide +kernel
theorem dM_pleasedBy_48 : decode mM_pleasedBy.2.1 48 = .ok (.if_icmp .ne 18, 3) := by decide +kernel
theorem dM_pleasedBy_51 : decode mM_pleasedBy.2.1 51 = .ok (.iload_n 3, 1) := by decide +kernel
theorem dM_pleasedBy_52 : decode mM_pleasedBy.2.1 52 = .ok (.ifCond .eq 12, 3) := by decide +kernel
theorem dM_pleasedBy_55 : decode mM_pleasedBy.2.1 55 = .ok (.iload 4, 2) := by decide +kernel
theorem dM_pleasedBy_57 : decode mM_pleasedBy.2.1 57 = .ok (.iconst 2, 1) := by decide +kernel
theorem dM_pleasedBy_58 : decode mM_pleasedBy.2.1 58 = .ok (.idiv, 1) := by decide +kernel
theorem dM_pleasedBy_59 : decode mM_pleasedBy.2.1 59 = .ok (.iconst 2, 1) := by decide +kernel
theorem dM_pleasedBy_60 : decode mM_pleasedBy.2.1 60 = .ok (.iadd, 1) := by decide +kernel
theorem dM_pleasedBy_61 : decode mM_pleasedBy.2.1 61 = .ok (.goto 4, 3) := by decide +kernel
theorem dM_pleasedBy_64 : decode mM_pleasedBy.2.1 64 = .ok (.iconst 0, 1) := by decide +kernel
theorem dM_pleasedBy_65 : decode mM_pleasedBy.2.1 65 = .ok (.ireturn, 1) := by decide +kernel
theorem dM_pleasedBy_66 : decode mM_pleasedBy.2.1 66 = .ok (.aload_n 0, 1) := by decide +kernel
theorem dM_pleasedBy_67 : decode mM_pleasedBy.2.1 67 = .ok (.getfield 16, 3) := by decide +kernel
theorem dM_pleasedBy_70 : decode mM_pleasedBy.2.1 70 = .ok (.iload_n 1, 1) := by decide +kernel
theorem dM_pleasedBy_71 : decode mM_pleasedBy.2.1 71 = .ok (.iaload, 1) := by decide +kernel
theorem dM_pleasedBy_72 : decode mM_pleasedBy.2.1 72 = .ok (.iconst 1, 1) := by decide +kernel
theorem dM_pleasedBy_73 : decode mM_pleasedBy.2.1 73 = .ok (.if_icmp .ne 10, 3) := by decide +kernel
theorem dM_pleasedBy_76 : decode mM_pleasedBy.2.1 76 = .ok (.iload 4, 2) := by decide +kernel
theorem dM_pleasedBy_78 : decode mM_pleasedBy.2.1 78 = .ok (.iconst 2, 1) := by decide +kernel
theorem dM_pleasedBy_79 : decode mM_pleasedBy.2.1 79 = .ok (.idiv, 1) := by decide +kernel
theorem dM_pleasedBy_80 : decode mM_pleasedBy.2.1 80 = .ok (.goto 5, 3) := by decide +kernel
theorem dM_pleasedBy_83 : decode mM_pleasedBy.2.1 83 = .ok (.iload 4, 2) := by decide +kernel
theorem dM_pleasedBy_85 : decode mM_pleasedBy.2.1 85 = .ok (.ireturn, 1) := by decide +kernel
theorem dM_put_0 : decode mM_put.2.1 0 = .ok (.iload_n 1, 1) := by decide +kernel
theorem dM_put_1 : decode mM_put.2.1 1 = .ok (.invokestatic 123, 3) := by decide +kernel
theorem dM_put_4 : decode mM_put.2.1 4 = .ok (.ifCond .eq 9, 3) := by decide +kernel
theorem dM_put_7 : decode mM_put.2.1 7 = .ok (.aload_n 0, 1) := by decide +kernel
theorem dM_put_8 : decode mM_put.2.1 8 = .ok (.iconst (-1), 1) := by decide +kernel
theorem dM_put_9 : decode mM_put.2.1 9 = .ok (.invokevirtual 127, 3) := by decide +kernel
theorem dM_put_12 : decode mM_put.2.1 12 = .ok (.ireturn, 1) := by decide +kernel
theorem dM_put_13 : decode mM_put.2.1 13 = .ok (.aload_n 0, 1) := by decide +kernel
theorem dM_put_14 : decode mM_put.2.1 14 = .ok (.iload_n 1, 1) := by decide +kernel
theorem dM_put_15 : decode mM_put.2.1 15 = .ok (.iload_n 2, 1) := by decide +kernel
theorem dM_put_16 : decode mM_put.2.1 16 = .ok (.invokevirtual 229, 3) := by decide +kernel
theorem dM_put_19 : decode mM_put.2.1 19 = .ok (.ifCond .le 14, 3) := by decide +kernel
theorem dM_put_22 : decode mM_put.2.1 22 = .ok (.aload_n 0, 1) := by decide +kernel
theorem dM_put_23 : decode mM_put.2.1 23 = .ok (.aload_n 0, 1) := by decide +kernel
theorem dM_put_24 : decode mM_put.2.1 24 = .ok (.iload_n 1, 1) := by decide +kernel
theorem dM_put_25 : decode mM_put.2.1 25 = .ok (.iload_n 2, 1) := by decide +kernel
theorem dM_put_26 : decode mM_put.2.1 26 = .ok (.invokevirtual 229, 3) := by decide +kernel
theorem dM_put_29 : decode mM_put.2.1 29 = .ok (.invokevirtual 115, 3) := by decide +kernel
theorem dM_put_32 : decode mM_put.2.1 32 = .ok (.ireturn, 1) := by decide +kernel
theorem dM_put_33 : decode mM_put.2.1 33 = .ok (.aload_n 0, 1) := by decide +kernel
theorem dM_put_34 : decode mM_put.2.1 34 = .ok (.getfield 59, 3) := by decide +kernel
theorem dM_put_37 : decode mM_put.2.1 37 = .ok (.bipush 60, 2) := by decide +kernel
theorem dM_put_39 : decode mM_put.2.1 39 = .ok (.iload_n 1, 1) := by decide +kernel
theorem dM_put_40 : decode mM_put.2.1 40 = .ok (.imul, 1) := by decide +kernel
theorem dM_put_41 : decode mM_put.2.1 41 = .ok (.iload_n 2, 1) := by decide +kernel
theorem dM_put_42 : decode mM_put.2.1 42 = .ok (.iadd, 1) := by decide +kernel
theorem dM_put_43 : decode mM_put.2.1 43 = .ok (.aload_n 0, 1) := by decide +kernel
theorem dM_put_44 : decode mM_put.2.1 44 = .ok (.getfield 56, 3) := by decide +kernel
theorem dM_put_47 : decode mM_put.2.1 47 = .ok (.iload_n 1, 1) := by decide +kernel
theorem dM_put_48 : decode mM_put.2.1 48 = .ok (.iaload, 1) := by decide +kernel
theorem dM_put_49 : decode mM_put.2.1 49 = .ok (.ifCond .ne 8, 3) := by decide +kernel
theorem dM_put_52 : decode mM_put.2.1 52 = .ok (.iload_n 3, 1) := by decide +kernel
theorem dM_put_53 : decode mM_put.2.1 53 = .ok (.i2b, 1) := by decide +kernel
theorem dM_put_54 : decode mM_put.2.1 54 = .ok (.goto 19, 3) := by decide +kernel
theorem dM_put_57 : decode mM_put.2.1 57 = .ok (.aload_n 0, 1) := by decide +kernel
theorem dM_put_58 : decode mM_put.2.1 58 = .ok (.getfield 56, 3) := by decide +kernel
theorem dM_put_61 : decode mM_put.2.1 61 = .ok (.iload_n 1, 1) := by decide +kernel
theorem dM_put_62 : decode mM_put.2.1 62 = .ok (.iaload, 1) := by decide +kernel
theorem dM_put_63 : decode mM_put.2.1 63 = .ok (.iconst 1, 1) := by decide +kernel
theorem dM_put_64 : decode mM_put.2.1 64 = .ok (.if_icmp .ne 8, 3) := by decide +kernel
theorem dM_put_67 : decode mM_put.2.1 67 = .ok (.iload_n 3, 1) := by decide +kernel
theorem dM_put_68 : decode mM_put.2.1 68 = .ok (.i2s, 1) := by decide +kernel
theorem dM_put_69 : decode mM_put.2.1 69 = .ok (.goto 4, 3) := by decide +kernel
theorem dM_put_72 : decode mM_put.2.1 72 = .ok (.iload_n 3, 1) := by decide +kernel
theorem dM_put_73 : decode mM_put.2.1 73 = .ok (.iastore, 1) := by decide +kernel
theorem dM_put_74 : decode mM_put.2.1 74 = .ok (.aload_n 0, 1) := by decide +kernel
theorem dM_put_75 : decode mM_put.2.1 75 = .ok (.iconst 1, 1) := by decide +kernel
theorem dM_put_76 : decode mM_put.2.1 76 = .ok (.invokevirtual 127, 3) := by decide +kernel
theorem dM_put_79 : decode mM_put.2.1 79 = .ok (.ireturn, 1) := by decide +kernel
theorem dM_reading_0 : decode mM_reading.2.1 0 = .ok (.aload_n 0, 1) := by decide +kernel
theorem dM_reading_1 : decode mM_reading.2.1 1 = .ok (.iload_n 1, 1) := by decide +kernel
theorem dM_reading_2 : decode mM_reading.2.1 2 = .ok (.invokevirtual 154, 3) := by decide +kernel
theorem dM_reading_5 : decode mM_reading.2.1 5 = .ok (.ifCond .ne 11, 3) := by decide +kernel
theorem dM_reading_8 : decode mM_reading.2.1 8 = .ok (.aload_n 0, 1) := by decide +kernel
theorem dM_reading_9 : decode mM_reading.2.1 9 = .ok (.iload_n 2, 1) := by decide +kernel
theorem dM_reading_10 : decode mM_reading.2.1 10 = .ok (.invokevirtual 157, 3) := by decide +kernel
theorem dM_reading_13 : decode mM_reading.2.1 13 = .ok (.ifCond .eq 5, 3) := by decide +kernel
theorem dM_reading_16 : decode mM_reading.2.1 16 = .ok (.iconst (-1), 1) := by decide +kernel
theorem dM_reading_17 : decode mM_reading.2.1 17 = .ok (.ireturn, 1) := by decide +kernel
theorem dM_reading_18 : decode mM_reading.2.1 18 = .ok (.aload_n 0, 1) := by decide +kernel
theorem dM_reading_19 : decode mM_reading.2.1 19 = .ok (.getfield 145, 3) := by decide +kernel
theorem dM_reading_22 : decode mM_reading.2.1 22 = .ok (.bipush 8, 2) := by decide +kernel
theorem dM_reading_24 : decode mM_reading.2.1 24 = .ok (.if_icmp .ne 6, 3) := by decide +kernel
theorem dM_reading_27 : decode mM_reading.2.1 27 = .ok (.bipush (-4), 2) := by decide +kernel
theorem dM_reading_29 : decode mM_reading.2.1 29 = .ok (.ireturn, 1) := by decide +kernel
theorem dM_reading_30 : decode mM_reading.2.1 30 = .ok (.aload_n 0, 1) := by decide +kernel
theorem dM_reading_31 : decode mM_reading.2.1 31 = .ok (.getfield 43, 3) := by decide +kernel
theorem dM_reading_34 : decode mM_reading.2.1 34 = .ok (.aload_n 0, 1) := by decide +kernel
theorem dM_reading_35 : decode mM_reading.2.1 35 = .ok (.getfield 145, 3) := by decide +kernel
theorem dM_reading_38 : decode mM_reading.2.1 38 = .ok (.iload_n 1, 1) := by decide +kernel
theorem dM_reading_39 : decode mM_reading.2.1 39 = .ok (.iastore, 1) := by decide +kernel
theorem dM_reading_40 : decode mM_reading.2.1 40 = .ok (.aload_n 0, 1) := by decide +kernel
theorem dM_reading_41 : decode mM_reading.2.1 41 = .ok (.getfield 46, 3) := by decide +kernel
theorem dM_reading_44 : decode mM_reading.2.1 44 = .ok (.aload_n 0, 1) := by decide +kernel
theorem dM_reading_45 : decode mM_reading.2.1 45 = .ok (.getfield 145, 3) := by decide +kernel
theorem dM_reading_48 : decode mM_reading.2.1 48 = .ok (.iload_n 2, 1) := by decide +kernel
theorem dM_reading_49 : decode mM_reading.2.1 49 = .ok (.iastore, 1) := by decide +kernel
theorem dM_reading_50 : decode mM_reading.2.1 50 = .ok (.aload_n 0, 1) := by decide +kernel
theorem dM_reading_51 : decode mM_reading.2.1 51 = .ok (.getfield 49, 3) := by decide +kernel
theorem dM_reading_54 : decode mM_reading.2.1 54 = .ok (.aload_n 0, 1) := by decide +kernel
theorem dM_reading_55 : decode mM_reading.2.1 55 = .ok (.getfield 145, 3) := by decide +kernel
theorem dM_reading_58 : decode mM_reading.2.1 58 = .ok (.iload_n 3, 1) := by decide +kernel
theorem dM_reading_59 : decode mM_reading.2.1 59 = .ok (.bastore, 1) := by decide +kernel
theorem dM_reading_60 : decode mM_reading.2.1 60 = .ok (.aload_n 0, 1) := by decide +kernel
theorem dM_reading_61 : decode mM_reading.2.1 61 = .ok (.dup, 1) := by decide +kernel
theorem dM_reading_62 : decode mM_reading.2.1 62 = .ok (.getfield 145, 3) := by decide +kernel
theorem dM_reading_65 : decode mM_reading.2.1 65 = .ok (.iconst 1, 1) := by decide +kernel
theorem dM_reading_66 : decode mM_reading.2.1 66 = .ok (.iadd, 1) := by decide +kernel
theorem dM_reading_67 : decode mM_reading.2.1 67 = .ok (.putfield 145, 3) := by decide +kernel
theorem dM_reading_70 : decode mM_reading.2.1 70 = .ok (.aload_n 0, 1) := by decide +kernel
theorem dM_reading_71 : decode mM_reading.2.1 71 = .ok (.getfield 145, 3) := by decide +kernel
theorem dM_reading_74 : decode mM_reading.2.1 74 = .ok (.iconst 1, 1) := by decide +kernel
theorem dM_reading_75 : decode mM_reading.2.1 75 = .ok (.isub, 1) := by decide +kernel
theorem dM_reading_76 : decode mM_reading.2.1 76 = .ok (.ireturn, 1) := by decide +kernel
theorem dM_readsDoing_0 : decode mM_readsDoing.2.1 0 = .ok (.aload_n 0, 1) := by decide +kernel
theorem dM_readsDoing_1 : decode mM_readsDoing.2.1 1 = .ok (.getfield 92, 3) := by decide +kernel
theorem dM_readsDoing_4 : decode mM_readsDoing.2.1 4 = .ok (.iconst 4, 1) := by decide +kernel
theorem dM_readsDoing_5 : decode mM_readsDoing.2.1 5 = .ok (.if_icmp .eq 14, 3) := by decide +kernel
theorem dM_readsDoing_8 : decode mM_readsDoing.2.1 8 = .ok (.aload_n 0, 1) := by decide +kernel
theorem dM_readsDoing_9 : decode mM_readsDoing.2.1 9 = .ok (.iload_n 1, 1) := by decide +kernel
theorem dM_readsDoing_10 : decode mM_readsDoing.2.1 10 = .ok (.iload_n 2, 1) := by decide +kernel
theorem dM_readsDoing_11 : decode mM_readsDoing.2.1 11 = .ok (.invokevirtual 88, 3) := by decide +kernel
theorem dM_readsDoing_14 : decode mM_readsDoing.2.1 14 = .ok (.bipush 47, 2) := by decide +kernel
theorem dM_readsDoing_16 : decode mM_readsDoing.2.1 16 = .ok (.if_icmp .eq 5, 3) := by decide +kernel
theorem dM_readsDoing_19 : decode mM_readsDoing.2.1 19 = .ok (.iconst 0, 1) := by decide +kernel
theorem dM_readsDoing_20 : decode mM_readsDoing.2.1 20 = .ok (.ireturn, 1) := by decide +kernel
theorem dM_readsDoing_21 : decode mM_readsDoing.2.1 21 = .ok (.aload_n 0, 1) := by decide +kernel
theorem dM_readsDoing_22 : decode mM_readsDoing.2.1 22 = .ok (.dup, 1) := by decide +kernel
theorem dM_readsDoing_23 : decode mM_readsDoing.2.1 23 = .ok (.getfield 85, 3) := by decide +kernel
theorem dM_readsDoing_26 : decode mM_readsDoing.2.1 26 = .ok (.iconst 1, 1) := by decide +kernel
theorem dM_readsDoing_27 : decode mM_readsDoing.2.1 27 = .ok (.iadd, 1) := by decide +kernel
theorem dM_readsDoing_28 : decode mM_readsDoing.2.1 28 = .ok (.putfield 85, 3) := by decide +kernel
theorem dM_readsDoing_31 : decode mM_readsDoing.2.1 31 = .ok (.aload_n 0, 1) := by decide +kernel
theorem dM_readsDoing_32 : decode mM_readsDoing.2.1 32 = .ok (.iload_n 1, 1) := by decide +kernel
theorem dM_readsDoing_33 : decode mM_readsDoing.2.1 33 = .ok (.iload_n 2, 1) := by decide +kernel
theorem dM_readsDoing_34 : decode mM_readsDoing.2.1 34 = .ok (.iconst 0, 1) := by decide +kernel
theorem dM_readsDoing_35 : decode mM_readsDoing.2.1 35 = .ok (.bipush 9, 2) := by decide +kernel
theorem dM_readsDoing_37 : decode mM_readsDoing.2.1 37 = .ok (.invokevirtual 95, 3) := by decide +kernel
theorem dM_readsDoing_40 : decode mM_readsDoing.2.1 40 = .ok (.istore_n 3, 1) := by decide +kernel
theorem dM_readsDoing_41 : decode mM_readsDoing.2.1 41 = .ok (.iload_n 3, 1) := by decide +kernel
theorem dM_readsDoing_42 : decode mM_readsDoing.2.1 42 = .ok (.ifCond .ge 8, 3) := by decide +kernel
theorem dM_readsDoing_45 : decode mM_readsDoing.2.1 45 = .ok (.bipush (-9), 2) := by decide +kernel
theorem dM_readsDoing_47 : decode mM_readsDoing.2.1 47 = .ok (.goto 11, 3) := by decide +kernel
theorem dM_readsDoing_50 : decode mM_readsDoing.2.1 50 = .ok (.aload_n 0, 1) := by decide +kernel
theorem dM_readsDoing_51 : decode mM_readsDoing.2.1 51 = .ok (.iload_n 1, 1) := by decide +kernel
theorem dM_readsDoing_52 : decode mM_readsDoing.2.1 52 = .ok (.iload_n 2, 1) := by decide +kernel
theorem dM_readsDoing_53 : decode mM_readsDoing.2.1 53 = .ok (.iconst 0, 1) := by decide +kernel
theorem dM_readsDoing_54 : decode mM_readsDoing.2.1 54 = .ok (.iconst 3, 1) := by decide +kernel
theorem dM_readsDoing_55 : decode mM_readsDoing.2.1 55 = .ok (.invokevirtual 95, 3) := by decide +kernel
theorem dM_readsDoing_58 : decode mM_readsDoing.2.1 58 = .ok (.istore 4, 2) := by decide +kernel
theorem dM_readsDoing_60 : decode mM_readsDoing.2.1 60 = .ok (.iload 4, 2) := by decide +kernel
theorem dM_readsDoing_62 : decode mM_readsDoing.2.1 62 = .ok (.ifCond .ge 5, 3) := by decide +kernel
theorem dM_readsDoing_65 : decode mM_readsDoing.2.1 65 = .ok (.iconst 0, 1) := by decide +kernel
theorem dM_readsDoing_66 : decode mM_readsDoing.2.1 66 = .ok (.ireturn, 1) := by decide +kernel
theorem dM_readsDoing_67 : decode mM_readsDoing.2.1 67 = .ok (.aload_n 0, 1) := by decide +kernel
theorem dM_readsDoing_68 : decode mM_readsDoing.2.1 68 = .ok (.getfield 25, 3) := by decide +kernel
theorem dM_readsDoing_71 : decode mM_readsDoing.2.1 71 = .ok (.aload_n 0, 1) := by decide +kernel
theorem dM_readsDoing_72 : decode mM_readsDoing.2.1 72 = .ok (.getfield 92, 3) := by decide +kernel
theorem dM_readsDoing_75 : decode mM_readsDoing.2.1 75 = .ok (.iload_n 3, 1) := by decide +kernel
theorem dM_readsDoing_76 : decode mM_readsDoing.2.1 76 = .ok (.iastore, 1) := by decide +kernel
theorem dM_readsDoing_77 : decode mM_readsDoing.2.1 77 = .ok (.aload_n 0, 1) := by decide +kernel
theorem dM_readsDoing_78 : decode mM_readsDoing.2.1 78 = .ok (.getfield 28, 3) := by decide +kernel
theorem dM_readsDoing_81 : decode mM_readsDoing.2.1 81 = .ok (.aload_n 0, 1) := by decide +kernel
theorem dM_readsDoing_82 : decode mM_readsDoing.2.1 82 = .ok (.getfield 92, 3) := by decide +kernel
theorem dM_readsDoing_85 : decode mM_readsDoing.2.1 85 = .ok (.iload 4, 2) := by decide +kernel
theorem dM_readsDoing_87 : decode mM_readsDoing.2.1 87 = .ok (.iastore, 1) := by decide +kernel
theorem dM_readsDoing_88 : decode mM_readsDoing.2.1 88 = .ok (.aload_n 0, 1) := by decide +kernel
theorem dM_readsDoing_89 : decode mM_readsDoing.2.1 89 = .ok (.dup, 1) := by decide +kernel
theorem dM_readsDoing_90 : decode mM_readsDoing.2.1 90 = .ok (.getfield 92, 3) := by decide +kernel
theorem dM_readsDoing_93 : decode mM_readsDoing.2.1 93 = .ok (.iconst 1, 1) := by decide +kernel
theorem dM_readsDoing_94 : decode mM_readsDoing.2.1 94 = .ok (.iadd, 1) := by decide +kernel
theorem dM_readsDoing_95 : decode mM_readsDoing.2.1 95 = .ok (.putfield 92, 3) := by decide +kernel
theorem dM_readsDoing_98 : decode mM_readsDoing.2.1 98 = .ok (.iconst 1, 1) := by decide +kernel
theorem dM_readsDoing_99 : decode mM_readsDoing.2.1 99 = .ok (.ireturn, 1) := by decide +kernel
theorem dM_readsGuest_0 : decode mM_readsGuest.2.1 0 = .ok (.aload_n 0, 1) := by decide +kernel
theorem dM_readsGuest_1 : decode mM_readsGuest.2.1 1 = .ok (.getfield 99, 3) := by decide +kernel
theorem dM_readsGuest_4 : decode mM_readsGuest.2.1 4 = .ok (.bipush 6, 2) := by decide +kernel
theorem dM_readsGuest_6 : decode mM_readsGuest.2.1 6 = .ok (.if_icmp .eq 14, 3) := by decide +kernel
theorem dM_readsGuest_9 : decode mM_readsGuest.2.1 9 = .ok (.aload_n 0, 1) := by decide +kernel
theorem dM_readsGuest_10 : decode mM_readsGuest.2.1 10 = .ok (.iload_n 1, 1) := by decide +kernel
theorem dM_readsGuest_11 : decode mM_readsGuest.2.1 11 = .ok (.iload_n 2, 1) := by decide +kernel
theorem dM_readsGuest_12 : decode mM_readsGuest.2.1 12 = .ok (.invokevirtual 88, 3) := by decide +kernel
theorem dM_readsGuest_15 : decode mM_readsGuest.2.1 15 = .ok (.bipush 59, 2) := by decide +kernel
theorem dM_readsGuest_17 : decode mM_readsGuest.2.1 17 = .ok (.if_icmp .eq 5, 3) := by decide +kernel
theorem dM_readsGuest_20 : decode mM_readsGuest.2.1 20 = .ok (.iconst 0, 1) := by decide +kernel
theorem dM_readsGuest_21 : decode mM_readsGuest.2.1 21 = .ok (.ireturn, 1) := by decide +kernel
theorem dM_readsGuest_22 : decode mM_readsGuest.2.1 22 = .ok (.aload_n 0, 1) := by decide +kernel
theorem dM_readsGuest_23 : decode mM_readsGuest.2.1 23 = .ok (.dup, 1) := by decide +kernel
theorem dM_readsGuest_24 : decode mM_readsGuest.2.1 24 = .ok (.getfield 85, 3) := by decide +kernel
theorem dM_readsGuest_27 : decode mM_readsGuest.2.1 27 = .ok (.iconst 1, 1) := by decide +kernel
theorem dM_readsGuest_28 : decode mM_readsGuest.2.1 28 = .ok (.iadd, 1) := by decide +kernel
theorem dM_readsGuest_29 : decode mM_readsGuest.2.1 29 = .ok (.putfield 85, 3) := by decide +kernel
theorem dM_readsGuest_32 : decode mM_readsGuest.2.1 32 = .ok (.aload_n 0, 1) := by decide +kernel
theorem dM_readsGuest_33 : decode mM_readsGuest.2.1 33 = .ok (.iload_n 1, 1) := by decide +kernel
theorem dM_readsGuest_34 : decode mM_readsGuest.2.1 34 = .ok (.iload_n 2, 1) := by decide +kernel
theorem dM_readsGuest_35 : decode mM_readsGuest.2.1 35 = .ok (.invokevirtual 88, 3) := by decide +kernel
theorem dM_readsGuest_38 : decode mM_readsGuest.2.1 38 = .ok (.istore_n 3, 1) := by decide +kernel
theorem dM_readsGuest_39 : decode mM_readsGuest.2.1 39 = .ok (.iload_n 3, 1) := by decide +kernel
theorem dM_readsGuest_40 : decode mM_readsGuest.2.1 40 = .ok (.bipush 103, 2) := by decide +kernel
theorem dM_readsGuest_42 : decode mM_readsGuest.2.1 42 = .ok (.if_icmp .eq 17, 3) := by decide +kernel
theorem dM_readsGuest_45 : decode mM_readsGuest.2.1 45 = .ok (.iload_n 3, 1) := by decide +kernel
theorem dM_readsGuest_46 : decode mM_readsGuest.2.1 46 = .ok (.bipush 99, 2) := by decide +kernel
theorem dM_readsGuest_48 : decode mM_readsGuest.2.1 48 = .ok (.if_icmp .eq 11, 3) := by decide +kernel
theorem dM_readsGuest_51 : decode mM_readsGuest.2.1 51 = .ok (.iload_n 3, 1) := by decide +kernel
theorem dM_readsGuest_52 : decode mM_readsGuest.2.1 52 = .ok (.bipush 112, 2) := by decide +kernel
theorem dM_readsGuest_54 : decode mM_readsGuest.2.1 54 = .ok (.if_icmp .eq 5, 3) := by decide +kernel
theorem dM_readsGuest_57 : decode mM_readsGuest.2.1 57 = .ok (.iconst 0, 1) := by decide +kernel
theorem dM_readsGuest_58 : decode mM_readsGuest.2.1 58 = .ok (.ireturn, 1) := by decide +kernel
theorem dM_readsGuest_59 : decode mM_readsGuest.2.1 59 = .ok (.aload_n 0, 1) := by decide +kernel
theorem dM_readsGuest_60 : decode mM_readsGuest.2.1 60 = .ok (.dup, 1) := by decide +kernel
theorem dM_readsGuest_61 : decode mM_readsGuest.2.1 61 = .ok (.getfield 85, 3) := by decide +kernel
theorem dM_readsGuest_64 : decode mM_readsGuest.2.1 64 = .ok (.iconst 1, 1) := by decide +kernel
theorem dM_readsGuest_65 : decode mM_readsGuest.2.1 65 = .ok (.iadd, 1) := by decide +kernel
theorem dM_readsGuest_66 : decode mM_readsGuest.2.1 66 = .ok (.putfield 85, 3) := by decide +kernel
theorem dM_readsGuest_69 : decode mM_readsGuest.2.1 69 = .ok (.aload_n 0, 1) := by decide +kernel
theorem dM_readsGuest_70 : decode mM_readsGuest.2.1 70 = .ok (.iload_n 1, 1) := by decide +kernel
theorem dM_readsGuest_71 : decode mM_readsGuest.2.1 71 = .ok (.iload_n 2, 1) := by decide +kernel
theorem dM_readsGuest_72 : decode mM_readsGuest.2.1 72 = .ok (.iconst 0, 1) := by decide +kernel
theorem dM_readsGuest_73 : decode mM_readsGuest.2.1 73 = .ok (.bipush 9, 2) := by decide +kernel
theorem dM_readsGuest_75 : decode mM_readsGuest.2.1 75 = .ok (.invokevirtual 95, 3) := by decide +kernel
theorem dM_readsGuest_78 : decode mM_readsGuest.2.1 78 = .ok (.istore 4, 2) := by decide +kernel
theorem dM_readsGuest_80 : decode mM_readsGuest.2.1 80 = .ok (.iload 4, 2) := by decide +kernel
theorem dM_readsGuest_82 : decode mM_readsGuest.2.1 82 = .ok (.ifCond .ge 8, 3) := by decide +kernel
theorem dM_readsGuest_85 : decode mM_readsGuest.2.1 85 = .ok (.bipush (-9), 2) := by decide +kernel
theorem dM_readsGuest_87 : decode mM_readsGuest.2.1 87 = .ok (.goto 16, 3) := by decide +kernel
theorem dM_readsGuest_90 : decode mM_readsGuest.2.1 90 = .ok (.aload_n 0, 1) := by decide +kernel
theorem dM_readsGuest_91 : decode mM_readsGuest.2.1 91 = .ok (.iload_n 1, 1) := by decide +kernel
theorem dM_readsGuest_92 : decode mM_readsGuest.2.1 92 = .ok (.iload_n 2, 1) := by decide +kernel
theorem dM_readsGuest_93 : decode mM_readsGuest.2.1 93 = .ok (.iconst 0, 1) := by decide +kernel
theorem dM_readsGuest_94 : decode mM_readsGuest.2.1 94 = .ok (.aload_n 0, 1) := by decide +kernel
theorem dM_readsGuest_95 : decode mM_readsGuest.2.1 95 = .ok (.getfield 92, 3) := by decide +kernel
theorem dM_readsGuest_98 : decode mM_readsGuest.2.1 98 = .ok (.iconst 1, 1) := by decide +kernel
theorem dM_readsGuest_99 : decode mM_readsGuest.2.1 99 = .ok (.isub, 1) := by decide +kernel
theorem dM_readsGuest_100 : decode mM_readsGuest.2.1 100 = .ok (.invokevirtual 95, 3) := by decide +kernel
theorem dM_readsGuest_103 : decode mM_readsGuest.2.1 103 = .ok (.istore 5, 2) := by decide +kernel
theorem dM_readsGuest_105 : decode mM_readsGuest.2.1 105 = .ok (.iload 5, 2) := by decide +kernel
theorem dM_readsGuest_107 : decode mM_readsGuest.2.1 107 = .ok (.ifCond .ge 5, 3) := by decide +kernel
theorem dM_readsGuest_110 : decode mM_readsGuest.2.1 110 = .ok (.iconst 0, 1) := by decide +kernel
theorem dM_readsGuest_111 : decode mM_readsGuest.2.1 111 = .ok (.ireturn, 1) := by decide +kernel
theorem dM_readsGuest_112 : decode mM_readsGuest.2.1 112 = .ok (.aload_n 0, 1) := by decide +kernel
theorem dM_readsGuest_113 : decode mM_readsGuest.2.1 113 = .ok (.getfield 31, 3) := by decide +kernel
theorem dM_readsGuest_116 : decode mM_readsGuest.2.1 116 = .ok (.aload_n 0, 1) := by decide +kernel
theorem dM_readsGuest_117 : decode mM_readsGuest.2.1 117 = .ok (.getfield 99, 3) := by decide +kernel
theorem dM_readsGuest_120 : decode mM_readsGuest.2.1 120 = .ok (.iload_n 3, 1) := by decide +kernel
theorem dM_readsGuest_121 : decode mM_readsGuest.2.1 121 = .ok (.bipush 103, 2) := by decide +kernel
theorem dM_readsGuest_123 : decode mM_readsGuest.2.1 123 = .ok (.if_icmp .ne 7, 3) := by decide +kernel
theorem dM_readsGuest_126 : decode mM_readsGuest.2.1 126 = .ok (.iconst 0, 1) := by decide +kernel
theorem dM_readsGuest_127 : decode mM_readsGuest.2.1 127 = .ok (.goto 14, 3) := by decide +kernel
theorem dM_readsGuest_130 : decode mM_readsGuest.2.1 130 = .ok (.iload_n 3, 1) := by decide +kernel
theorem dM_readsGuest_131 : decode mM_readsGuest.2.1 131 = .ok (.bipush 99, 2) := by decide +kernel
theorem dM_readsGuest_133 : decode mM_readsGuest.2.1 133 = .ok (.if_icmp .ne 7, 3) := by decide +kernel
theorem dM_readsGuest_136 : decode mM_readsGuest.2.1 136 = .ok (.iconst 1, 1) := by decide +kernel
theorem dM_readsGuest_137 : decode mM_readsGuest.2.1 137 = .ok (.goto 4, 3) := by decide +kernel
theorem dM_readsGuest_140 : decode mM_readsGuest.2.1 140 = .ok (.iconst 2, 1) := by decide +kernel
theorem dM_readsGuest_141 : decode mM_readsGuest.2.1 141 = .ok (.iastore, 1) := by decide +kernel
theorem dM_readsGuest_142 : decode mM_readsGuest.2.1 142 = .ok (.aload_n 0, 1) := by decide +kernel
theorem dM_readsGuest_143 : decode mM_readsGuest.2.1 143 = .ok (.getfield 34, 3) := by decide +kernel
theorem dM_readsGuest_146 : decode mM_readsGuest.2.1 146 = .ok (.aload_n 0, 1) := by decide +kernel
theorem dM_readsGuest_147 : decode mM_readsGuest.2.1 147 = .ok (.getfield 99, 3) := by decide +kernel
theorem dM_readsGuest_150 : decode mM_readsGuest.2.1 150 = .ok (.iload 4, 2) := by decide +kernel
theorem dM_readsGuest_152 : decode mM_readsGuest.2.1 152 = .ok (.iastore, 1) := by decide +kernel
theorem dM_readsGuest_153 : decode mM_readsGuest.2.1 153 = .ok (.aload_n 0, 1) := by decide +kernel
theorem dM_readsGuest_154 : decode mM_readsGuest.2.1 154 = .ok (.getfield 37, 3) := by decide +kernel
theorem dM_readsGuest_157 : decode mM_readsGuest.2.1 157 = .ok (.aload_n 0, 1) := by decide +kernel
theorem dM_readsGuest_158 : decode mM_readsGuest.2.1 158 = .ok (.getfield 99, 3) := by decide +kernel
theorem dM_readsGuest_161 : decode mM_readsGuest.2.1 161 = .ok (.iload 5, 2) := by decide +kernel
theorem dM_readsGuest_163 : decode mM_readsGuest.2.1 163 = .ok (.iastore, 1) := by decide +kernel
theorem dM_readsGuest_164 : decode mM_readsGuest.2.1 164 = .ok (.aload_n 0, 1) := by decide +kernel
theorem dM_readsGuest_165 : decode mM_readsGuest.2.1 165 = .ok (.dup, 1) := by decide +kernel
theorem dM_readsGuest_166 : decode mM_readsGuest.2.1 166 = .ok (.getfield 99, 3) := by decide +kernel
theorem dM_readsGuest_169 : decode mM_readsGuest.2.1 169 = .ok (.iconst 1, 1) := by decide +kernel
theorem dM_readsGuest_170 : decode mM_readsGuest.2.1 170 = .ok (.iadd, 1) := by decide +kernel
theorem dM_readsGuest_171 : decode mM_readsGuest.2.1 171 = .ok (.putfield 99, 3) := by decide +kernel
theorem dM_readsGuest_174 : decode mM_readsGuest.2.1 174 = .ok (.iconst 1, 1) := by decide +kernel
theorem dM_readsGuest_175 : decode mM_readsGuest.2.1 175 = .ok (.ireturn, 1) := by decide +kernel
theorem dM_readsHotel_0 : decode mM_readsHotel.2.1 0 = .ok (.aload_n 0, 1) := by decide +kernel
theorem dM_readsHotel_1 : decode mM_readsHotel.2.1 1 = .ok (.iconst 0, 1) := by decide +kernel
theorem dM_readsHotel_2 : decode mM_readsHotel.2.1 2 = .ok (.putfield 85, 3) := by decide +kernel
theorem dM_readsHotel_5 : decode mM_readsHotel.2.1 5 = .ok (.aload_n 0, 1) := by decide +kernel
theorem dM_readsHotel_6 : decode mM_readsHotel.2.1 6 = .ok (.iconst 0, 1) := by decide +kernel
theorem dM_readsHotel_7 : decode mM_readsHotel.2.1 7 = .ok (.putfield 92, 3) := by decide +kernel
theorem dM_readsHotel_10 : decode mM_readsHotel.2.1 10 = .ok (.aload_n 0, 1) := by decide +kernel
theorem dM_readsHotel_11 : decode mM_readsHotel.2.1 11 = .ok (.iconst 0, 1) := by decide +kernel
theorem dM_readsHotel_12 : decode mM_readsHotel.2.1 12 = .ok (.putfield 99, 3) := by decide +kernel
theorem dM_readsHotel_15 : decode mM_readsHotel.2.1 15 = .ok (.aload_n 0, 1) := by decide +kernel
theorem dM_readsHotel_16 : decode mM_readsHotel.2.1 16 = .ok (.iload_n 1, 1) := by decide +kernel
theorem dM_readsHotel_17 : decode mM_readsHotel.2.1 17 = .ok (.iload_n 2, 1) := by decide +kernel
theorem dM_readsHotel_18 : decode mM_readsHotel.2.1 18 = .ok (.invokevirtual 88, 3) := by decide +kernel
theorem dM_readsHotel_21 : decode mM_readsHotel.2.1 21 = .ok (.bipush 122, 2) := by decide +kernel
theorem dM_readsHotel_23 : decode mM_readsHotel.2.1 23 = .ok (.if_icmp .ne 7, 3) := by decide +kernel
theorem dM_readsHotel_26 : decode mM_readsHotel.2.1 26 = .ok (.iconst 1, 1) := by decide +kernel
theorem dM_readsHotel_27 : decode mM_readsHotel.2.1 27 = .ok (.goto 4, 3) := by decide +kernel
theorem dM_readsHotel_30 : decode mM_readsHotel.2.1 30 = .ok (.iconst 0, 1) := by decide +kernel
theorem dM_readsHotel_31 : decode mM_readsHotel.2.1 31 = .ok (.istore_n 3, 1) := by decide +kernel
theorem dM_readsHotel_32 : decode mM_readsHotel.2.1 32 = .ok (.aload_n 0, 1) := by decide +kernel
theorem dM_readsHotel_33 : decode mM_readsHotel.2.1 33 = .ok (.dup, 1) := by decide +kernel
theorem dM_readsHotel_34 : decode mM_readsHotel.2.1 34 = .ok (.getfield 85, 3) := by decide +kernel
theorem dM_readsHotel_37 : decode mM_readsHotel.2.1 37 = .ok (.iload_n 3, 1) := by decide +kernel
theorem dM_readsHotel_38 : decode mM_readsHotel.2.1 38 = .ok (.ifCond .eq 7, 3) := by decide +kernel
theorem dM_readsHotel_41 : decode mM_readsHotel.2.1 41 = .ok (.iconst 1, 1) := by decide +kernel
theorem dM_readsHotel_42 : decode mM_readsHotel.2.1 42 = .ok (.goto 4, 3) := by decide +kernel
theorem dM_readsHotel_45 : decode mM_readsHotel.2.1 45 = .ok (.iconst 0, 1) := by decide +kernel
theorem dM_readsHotel_46 : decode mM_readsHotel.2.1 46 = .ok (.iadd, 1) := by decide +kernel
theorem dM_readsHotel_47 : decode mM_readsHotel.2.1 47 = .ok (.putfield 85, 3) := by decide +kernel
theorem dM_readsHotel_50 : decode mM_readsHotel.2.1 50 = .ok (.aload_n 0, 1) := by decide +kernel
theorem dM_readsHotel_51 : decode mM_readsHotel.2.1 51 = .ok (.iload_n 3, 1) := by decide +kernel
theorem dM_readsHotel_52 : decode mM_readsHotel.2.1 52 = .ok (.ifCond .eq 14, 3) := by decide +kernel
theorem dM_readsHotel_55 : decode mM_readsHotel.2.1 55 = .ok (.aload_n 0, 1) := by decide +kernel
theorem dM_readsHotel_56 : decode mM_readsHotel.2.1 56 = .ok (.iload_n 1, 1) := by decide +kernel
theorem dM_readsHotel_57 : decode mM_readsHotel.2.1 57 = .ok (.iload_n 2, 1) := by decide +kernel
theorem dM_readsHotel_58 : decode mM_readsHotel.2.1 58 = .ok (.iconst 0, 1) := by decide +kernel
theorem dM_readsHotel_59 : decode mM_readsHotel.2.1 59 = .ok (.iconst 5, 1) := by decide +kernel
theorem dM_readsHotel_60 : decode mM_readsHotel.2.1 60 = .ok (.invokevirtual 95, 3) := by decide +kernel
theorem dM_readsHotel_63 : decode mM_readsHotel.2.1 63 = .ok (.goto 5, 3) := by decide +kernel
theorem dM_readsHotel_66 : decode mM_readsHotel.2.1 66 = .ok (.bipush (-9), 2) := by decide +kernel
theorem dM_readsHotel_68 : decode mM_readsHotel.2.1 68 = .ok (.putfield 102, 3) := by decide +kernel
theorem dM_readsHotel_71 : decode mM_readsHotel.2.1 71 = .ok (.aload_n 0, 1) := by decide +kernel
theorem dM_readsHotel_72 : decode mM_readsHotel.2.1 72 = .ok (.aload_n 0, 1) := by decide +kernel
theorem dM_readsHotel_73 : decode mM_readsHotel.2.1 73 = .ok (.getfield 102, 3) := by decide +kernel
theorem dM_readsHotel_76 : decode mM_readsHotel.2.1 76 = .ok (.ifCond .lt 15, 3) := by decide +kernel
theorem dM_readsHotel_79 : decode mM_readsHotel.2.1 79 = .ok (.aload_n 0, 1) := by decide +kernel
theorem dM_readsHotel_80 : decode mM_readsHotel.2.1 80 = .ok (.iload_n 1, 1) := by decide +kernel
theorem dM_readsHotel_81 : decode mM_readsHotel.2.1 81 = .ok (.iload_n 2, 1) := by decide +kernel
theorem dM_readsHotel_82 : decode mM_readsHotel.2.1 82 = .ok (.iconst 1, 1) := by decide +kernel
theorem dM_readsHotel_83 : decode mM_readsHotel.2.1 83 = .ok (.bipush 9, 2) := by decide +kernel
theorem dM_readsHotel_85 : decode mM_readsHotel.2.1 85 = .ok (.invokevirtual 95, 3) := by decide +kernel
theorem dM_readsHotel_88 : decode mM_readsHotel.2.1 88 = .ok (.goto 5, 3) := by decide +kernel
theorem dM_readsHotel_91 : decode mM_readsHotel.2.1 91 = .ok (.bipush (-9), 2) := by decide +kernel
theorem dM_readsHotel_93 : decode mM_readsHotel.2.1 93 = .ok (.putfield 105, 3) := by decide +kernel
theorem dM_readsHotel_96 : decode mM_readsHotel.2.1 96 = .ok (.aload_n 0, 1) := by decide +kernel
theorem dM_readsHotel_97 : decode mM_readsHotel.2.1 97 = .ok (.getfield 105, 3) := by decide +kernel
theorem dM_readsHotel_100 : decode mM_readsHotel.2.1 100 = .ok (.ifCond .le 7, 3) := by decide +kernel
theorem dM_readsHotel_103 : decode mM_readsHotel.2.1 103 = .ok (.iconst 1, 1) := by decide +kernel
theorem dM_readsHotel_104 : decode mM_readsHotel.2.1 104 = .ok (.goto 4, 3) := by decide +kernel
theorem dM_readsHotel_107 : decode mM_readsHotel.2.1 107 = .ok (.iconst 0, 1) := by decide +kernel
theorem dM_readsHotel_108 : decode mM_readsHotel.2.1 108 = .ok (.istore_n 3, 1) := by decide +kernel
theorem dM_readsHotel_109 : decode mM_readsHotel.2.1 109 = .ok (.iload_n 3, 1) := by decide +kernel
theorem dM_readsHotel_110 : decode mM_readsHotel.2.1 110 = .ok (.ifCond .eq 31, 3) := by decide +kernel
theorem dM_readsHotel_113 : decode mM_readsHotel.2.1 113 = .ok (.aload_n 0, 1) := by decide +kernel
theorem dM_readsHotel_114 : decode mM_readsHotel.2.1 114 = .ok (.getfield 92, 3) := by decide +kernel
theorem dM_readsHotel_117 : decode mM_readsHotel.2.1 117 = .ok (.ifCond .eq 14, 3) := by decide +kernel
theorem dM_readsHotel_120 : decode mM_readsHotel.2.1 120 = .ok (.aload_n 0, 1) := by decide +kernel
theorem dM_readsHotel_121 : decode mM_readsHotel.2.1 121 = .ok (.iload_n 1, 1) := by decide +kernel
theorem dM_readsHotel_122 : decode mM_readsHotel.2.1 122 = .ok (.iload_n 2, 1) := by decide +kernel
theorem dM_readsHotel_123 : decode mM_readsHotel.2.1 123 = .ok (.invokevirtual 88, 3) := by decide +kernel
theorem dM_readsHotel_126 : decode mM_readsHotel.2.1 126 = .ok (.bipush 47, 2) := by decide +kernel
theorem dM_readsHotel_128 : decode mM_readsHotel.2.1 128 = .ok (.if_icmp .ne 13, 3) := by decide +kernel
theorem dM_readsHotel_131 : decode mM_readsHotel.2.1 131 = .ok (.aload_n 0, 1) := by decide +kernel
theorem dM_readsHotel_132 : decode mM_readsHotel.2.1 132 = .ok (.iload_n 1, 1) := by decide +kernel
theorem dM_readsHotel_133 : decode mM_readsHotel.2.1 133 = .ok (.iload_n 2, 1) := by decide +kernel
theorem dM_readsHotel_134 : decode mM_readsHotel.2.1 134 = .ok (.invokevirtual 108, 3) := by decide +kernel
theorem dM_readsHotel_137 : decode mM_readsHotel.2.1 137 = .ok (.istore_n 3, 1) := by decide +kernel
theorem dM_readsHotel_138 : decode mM_readsHotel.2.1 138 = .ok (.goto (-29), 3) := by decide +kernel
theorem dM_readsHotel_141 : decode mM_readsHotel.2.1 141 = .ok (.iload_n 3, 1) := by decide +kernel
theorem dM_readsHotel_142 : decode mM_readsHotel.2.1 142 = .ok (.ifCond .eq 29, 3) := by decide +kernel
theorem dM_readsHotel_145 : decode mM_readsHotel.2.1 145 = .ok (.aload_n 0, 1) := by decide +kernel
theorem dM_readsHotel_146 : decode mM_readsHotel.2.1 146 = .ok (.getfield 99, 3) := by decide +kernel
theorem dM_readsHotel_149 : decode mM_readsHotel.2.1 149 = .ok (.iconst 2, 1) := by decide +kernel
theorem dM_readsHotel_150 : decode mM_readsHotel.2.1 150 = .ok (.if_icmp .lt 11, 3) := by decide +kernel
theorem dM_readsHotel_153 : decode mM_readsHotel.2.1 153 = .ok (.aload_n 0, 1) := by decide +kernel
theorem dM_readsHotel_154 : decode mM_readsHotel.2.1 154 = .ok (.getfield 85, 3) := by decide +kernel
theorem dM_readsHotel_157 : decode mM_readsHotel.2.1 157 = .ok (.iload_n 2, 1) := by decide +kernel
theorem dM_readsHotel_158 : decode mM_readsHotel.2.1 158 = .ok (.if_icmp .ge 13, 3) := by decide +kernel
theorem dM_readsHotel_161 : decode mM_readsHotel.2.1 161 = .ok (.aload_n 0, 1) := by decide +kernel
theorem dM_readsHotel_162 : decode mM_readsHotel.2.1 162 = .ok (.iload_n 1, 1) := by decide +kernel
theorem dM_readsHotel_163 : decode mM_readsHotel.2.1 163 = .ok (.iload_n 2, 1) := by decide +kernel
theorem dM_readsHotel_164 : decode mM_readsHotel.2.1 164 = .ok (.invokevirtual 112, 3) := by decide +kernel
theorem dM_readsHotel_167 : decode mM_readsHotel.2.1 167 = .ok (.istore_n 3, 1) := by decide +kernel
theorem dM_readsHotel_168 : decode mM_readsHotel.2.1 168 = .ok (.goto (-27), 3) := by decide +kernel
theorem dM_readsHotel_171 : decode mM_readsHotel.2.1 171 = .ok (.iload_n 3, 1) := by decide +kernel
theorem dM_readsHotel_172 : decode mM_readsHotel.2.1 172 = .ok (.ireturn, 1) := by decide +kernel
theorem dM_refused_0 : decode mM_refused.2.1 0 = .ok (.aload_n 0, 1) := by decide +kernel
theorem dM_refused_1 : decode mM_refused.2.1 1 = .ok (.iconst 0, 1) := by decide +kernel
theorem dM_refused_2 : decode mM_refused.2.1 2 = .ok (.putfield 67, 3) := by decide +kernel
theorem dM_refused_5 : decode mM_refused.2.1 5 = .ok (.iload_n 1, 1) := by decide +kernel
theorem dM_refused_6 : decode mM_refused.2.1 6 = .ok (.ireturn, 1) := by decide +kernel
theorem dM_refusedLong_0 : decode mM_refusedLong.2.1 0 = .ok (.aload_n 0, 1) := by decide +kernel
theorem dM_refusedLong_1 : decode mM_refusedLong.2.1 1 = .ok (.iconst 0, 1) := by decide +kernel
theorem dM_refusedLong_2 : decode mM_refusedLong.2.1 2 = .ok (.putfield 67, 3) := by decide +kernel
theorem dM_refusedLong_5 : decode mM_refusedLong.2.1 5 = .ok (.invokestatic 71, 3) := by decide +kernel
theorem dM_refusedLong_8 : decode mM_refusedLong.2.1 8 = .ok (.lreturn, 1) := by decide +kernel
theorem dM_season_0 : decode mM_season.2.1 0 = .ok (.aload_n 0, 1) := by decide +kernel
theorem dM_season_1 : decode mM_season.2.1 1 = .ok (.iload_n 1, 1) := by decide +kernel
theorem dM_season_2 : decode mM_season.2.1 2 = .ok (.invokevirtual 154, 3) := by decide +kernel
theorem dM_season_5 : decode mM_season.2.1 5 = .ok (.ifCond .ne 10, 3) := by decide +kernel
theorem dM_season_8 : decode mM_season.2.1 8 = .ok (.iload_n 2, 1) := by decide +kernel
theorem dM_season_9 : decode mM_season.2.1 9 = .ok (.invokestatic 123, 3) := by decide +kernel
theorem dM_season_12 : decode mM_season.2.1 12 = .ok (.ifCond .eq 9, 3) := by decide +kernel
theorem dM_season_15 : decode mM_season.2.1 15 = .ok (.aload_n 0, 1) := by decide +kernel
theorem dM_season_16 : decode mM_season.2.1 16 = .ok (.iconst (-1), 1) := by decide +kernel
theorem dM_season_17 : decode mM_season.2.1 17 = .ok (.invokevirtual 127, 3) := by decide +kernel
theorem dM_season_20 : decode mM_season.2.1 20 = .ok (.ireturn, 1) := by decide +kernel
theorem dM_season_21 : decode mM_season.2.1 21 = .ok (.iload_n 3, 1) := by decide +kernel
theorem dM_season_22 : decode mM_season.2.1 22 = .ok (.i2l, 1) := by decide +kernel
theorem dM_season_23 : decode mM_season.2.1 23 = .ok (.lconst 0, 1) := by decide +kernel
theorem dM_season_24 : decode mM_season.2.1 24 = .ok (.ldc2_w 130, 3) := by decide +kernel
theorem dM_season_27 : decode mM_season.2.1 27 = .ok (.invokestatic 78, 3) := by decide +kernel
theorem dM_season_30 : decode mM_season.2.1 30 = .ok (.ifCond .eq 29, 3) := by decide +kernel
theorem dM_season_33 : decode mM_season.2.1 33 = .ok (.iload 5, 2) := by decide +kernel
theorem dM_season_35 : decode mM_season.2.1 35 = .ok (.i2l, 1) := by decide +kernel
theorem dM_season_36 : decode mM_season.2.1 36 = .ok (.lconst 0, 1) := by decide +kernel
theorem dM_season_37 : decode mM_season.2.1 37 = .ok (.ldc2_w 182, 3) := by decide +kernel
theorem dM_season_40 : decode mM_season.2.1 40 = .ok (.invokestatic 78, 3) := by decide +kernel
theorem dM_season_43 : decode mM_season.2.1 43 = .ok (.ifCond .eq 16, 3) := by decide +kernel
theorem dM_season_46 : decode mM_season.2.1 46 = .ok (.iload 6, 2) := by decide +kernel
theorem dM_season_48 : decode mM_season.2.1 48 = .ok (.i2l, 1) := by decide +kernel
theorem dM_season_49 : decode mM_season.2.1 49 = .ok (.lconst 0, 1) := by decide +kernel
theorem dM_season_50 : decode mM_season.2.1 50 = .ok (.ldc2_w 184, 3) := by decide +kernel
theorem dM_season_53 : decode mM_season.2.1 53 = .ok (.invokestatic 78, 3) := by decide +kernel
theorem dM_season_56 : decode mM_season.2.1 56 = .ok (.ifCond .ne 10, 3) := by decide +kernel
theorem dM_season_59 : decode mM_season.2.1 59 = .ok (.aload_n 0, 1) := by decide +kernel
theorem dM_season_60 : decode mM_season.2.1 60 = .ok (.bipush (-2), 2) := by decide +kernel
theorem dM_season_62 : decode mM_season.2.1 62 = .ok (.invokevirtual 127, 3) := by decide +kernel
theorem dM_season_65 : decode mM_season.2.1 65 = .ok (.ireturn, 1) := by decide +kernel
theorem dM_season_66 : decode mM_season.2.1 66 = .ok (.aload_n 0, 1) := by decide +kernel
theorem dM_season_67 : decode mM_season.2.1 67 = .ok (.iload_n 2, 1) := by decide +kernel
theorem dM_season_68 : decode mM_season.2.1 68 = .ok (.iload_n 3, 1) := by decide +kernel
theorem dM_season_69 : decode mM_season.2.1 69 = .ok (.iload 4, 2) := by decide +kernel
theorem dM_season_71 : decode mM_season.2.1 71 = .ok (.iload 5, 2) := by decide +kernel
theorem dM_season_73 : decode mM_season.2.1 73 = .ok (.invokevirtual 186, 3) := by decide +kernel
theorem dM_season_76 : decode mM_season.2.1 76 = .ok (.istore 7, 2) := by decide +kernel
theorem dM_season_78 : decode mM_season.2.1 78 = .ok (.iload 7, 2) := by decide +kernel
theorem dM_season_80 : decode mM_season.2.1 80 = .ok (.ifCond .ge 6, 3) := by decide +kernel
theorem dM_season_83 : decode mM_season.2.1 83 = .ok (.iload 7, 2) := by decide +kernel
theorem dM_season_85 : decode mM_season.2.1 85 = .ok (.ireturn, 1) := by decide +kernel
theorem dM_season_86 : decode mM_season.2.1 86 = .ok (.aload_n 0, 1) := by decide +kernel
theorem dM_season_87 : decode mM_season.2.1 87 = .ok (.iload_n 1, 1) := by decide +kernel
theorem dM_season_88 : decode mM_season.2.1 88 = .ok (.bipush 60, 2) := by decide +kernel
theorem dM_season_90 : decode mM_season.2.1 90 = .ok (.iload_n 2, 1) := by decide +kernel
theorem dM_season_91 : decode mM_season.2.1 91 = .ok (.imul, 1) := by decide +kernel
theorem dM_season_92 : decode mM_season.2.1 92 = .ok (.iload 4, 2) := by decide +kernel
theorem dM_season_94 : decode mM_season.2.1 94 = .ok (.iadd, 1) := by decide +kernel
theorem dM_season_95 : decode mM_season.2.1 95 = .ok (.iload 5, 2) := by decide +kernel
theorem dM_season_97 : decode mM_season.2.1 97 = .ok (.invokevirtual 189, 3) := by decide +kernel
theorem dM_season_100 : decode mM_season.2.1 100 = .ok (.iload 6, 2) := by decide +kernel
theorem dM_season_102 : decode mM_season.2.1 102 = .ok (.iconst 1, 1) := by decide +kernel
theorem dM_season_103 : decode mM_season.2.1 103 = .ok (.if_icmp .ne 8, 3) := by decide +kernel
theorem dM_season_106 : decode mM_season.2.1 106 = .ok (.aload_n 0, 1) := by decide +kernel
theorem dM_season_107 : decode mM_season.2.1 107 = .ok (.getfield 167, 3) := by decide +kernel
theorem dM_season_110 : decode mM_season.2.1 110 = .ok (.ireturn, 1) := by decide +kernel
theorem dM_season_111 : decode mM_season.2.1 111 = .ok (.aload_n 0, 1) := by decide +kernel
theorem dM_season_112 : decode mM_season.2.1 112 = .ok (.getfield 167, 3) := by decide +kernel
theorem dM_season_115 : decode mM_season.2.1 115 = .ok (.ifCond .lt 11, 3) := by decide +kernel
theorem dM_season_118 : decode mM_season.2.1 118 = .ok (.bipush (-100), 2) := by decide +kernel
theorem dM_season_120 : decode mM_season.2.1 120 = .ok (.aload_n 0, 1) := by decide +kernel
theorem dM_season_121 : decode mM_season.2.1 121 = .ok (.getfield 167, 3) := by decide +kernel
theorem dM_season_124 : decode mM_season.2.1 124 = .ok (.isub, 1) := by decide +kernel
theorem dM_season_125 : decode mM_season.2.1 125 = .ok (.ireturn, 1) := by decide +kernel
theorem dM_season_126 : decode mM_season.2.1 126 = .ok (.iload 6, 2) := by decide +kernel
theorem dM_season_128 : decode mM_season.2.1 128 = .ok (.tableswitch 47 0 3 #[32, 47, 37, 42], 32) := by decide +kernel
theorem dM_season_160 : decode mM_season.2.1 160 = .ok (.aload_n 0, 1) := by decide +kernel
theorem dM_season_161 : decode mM_season.2.1 161 = .ok (.getfield 173, 3) := by decide +kernel
theorem dM_season_164 : decode mM_season.2.1 164 = .ok (.ireturn, 1) := by decide +kernel
theorem dM_season_165 : decode mM_season.2.1 165 = .ok (.aload_n 0, 1) := by decide +kernel
theorem dM_season_166 : decode mM_season.2.1 166 = .ok (.getfield 176, 3) := by decide +kernel
theorem dM_season_169 : decode mM_season.2.1 169 = .ok (.ireturn, 1) := by decide +kernel
theorem dM_season_170 : decode mM_season.2.1 170 = .ok (.aload_n 0, 1) := by decide +kernel
theorem dM_season_171 : decode mM_season.2.1 171 = .ok (.getfield 170, 3) := by decide +kernel
theorem dM_season_174 : decode mM_season.2.1 174 = .ok (.ireturn, 1) := by decide +kernel
theorem dM_season_175 : decode mM_season.2.1 175 = .ok (.aload_n 0, 1) := by decide +kernel
theorem dM_season_176 : decode mM_season.2.1 176 = .ok (.getfield 179, 3) := by decide +kernel
theorem dM_season_179 : decode mM_season.2.1 179 = .ok (.ireturn, 1) := by decide +kernel
theorem dM_share_0 : decode mM_share.2.1 0 = .ok (.lload_n 0, 1) := by decide +kernel
theorem dM_share_1 : decode mM_share.2.1 1 = .ok (.lstore 5, 2) := by decide +kernel
theorem dM_share_3 : decode mM_share.2.1 3 = .ok (.lload_n 2, 1) := by decide +kernel
theorem dM_share_4 : decode mM_share.2.1 4 = .ok (.lstore 7, 2) := by decide +kernel
theorem dM_share_6 : decode mM_share.2.1 6 = .ok (.lload 7, 2) := by decide +kernel
theorem dM_share_8 : decode mM_share.2.1 8 = .ok (.lconst 0, 1) := by decide +kernel
theorem dM_share_9 : decode mM_share.2.1 9 = .ok (.lcmp, 1) := by decide +kernel
theorem dM_share_10 : decode mM_share.2.1 10 = .ok (.ifCond .eq 21, 3) := by decide +kernel
theorem dM_share_13 : decode mM_share.2.1 13 = .ok (.lload 5, 2) := by decide +kernel
theorem dM_share_15 : decode mM_share.2.1 15 = .ok (.lload 7, 2) := by decide +kernel
theorem dM_share_17 : decode mM_share.2.1 17 = .ok (.lrem, 1) := by decide +kernel
theorem dM_share_18 : decode mM_share.2.1 18 = .ok (.lstore 9, 2) := by decide +kernel
theorem dM_share_20 : decode mM_share.2.1 20 = .ok (.lload 7, 2) := by decide +kernel
theorem dM_share_22 : decode mM_share.2.1 22 = .ok (.lstore 5, 2) := by decide +kernel
theorem dM_share_24 : decode mM_share.2.1 24 = .ok (.lload 9, 2) := by decide +kernel
theorem dM_share_26 : decode mM_share.2.1 26 = .ok (.lstore 7, 2) := by decide +kernel
theorem dM_share_28 : decode mM_share.2.1 28 = .ok (.goto (-22), 3) := by decide +kernel
theorem dM_share_31 : decode mM_share.2.1 31 = .ok (.iload 4, 2) := by decide +kernel
theorem dM_share_33 : decode mM_share.2.1 33 = .ok (.ifCond .ne 7, 3) := by decide +kernel
theorem dM_share_36 : decode mM_share.2.1 36 = .ok (.lload_n 0, 1) := by decide +kernel
theorem dM_share_37 : decode mM_share.2.1 37 = .ok (.goto 4, 3) := by decide +kernel
theorem dM_share_40 : decode mM_share.2.1 40 = .ok (.lload_n 2, 1) := by decide +kernel
theorem dM_share_41 : decode mM_share.2.1 41 = .ok (.lload 5, 2) := by decide +kernel
theorem dM_share_43 : decode mM_share.2.1 43 = .ok (.ldiv, 1) := by decide +kernel
theorem dM_share_44 : decode mM_share.2.1 44 = .ok (.lreturn, 1) := by decide +kernel
theorem dM_sheet_0 : decode mM_sheet.2.1 0 = .ok (.iload_n 1, 1) := by decide +kernel
theorem dM_sheet_1 : decode mM_sheet.2.1 1 = .ok (.invokestatic 123, 3) := by decide +kernel
theorem dM_sheet_4 : decode mM_sheet.2.1 4 = .ok (.ifCond .eq 9, 3) := by decide +kernel
theorem dM_sheet_7 : decode mM_sheet.2.1 7 = .ok (.aload_n 0, 1) := by decide +kernel
theorem dM_sheet_8 : decode mM_sheet.2.1 8 = .ok (.iconst (-1), 1) := by decide +kernel
theorem dM_sheet_9 : decode mM_sheet.2.1 9 = .ok (.invokevirtual 127, 3) := by decide +kernel
theorem dM_sheet_12 : decode mM_sheet.2.1 12 = .ok (.ireturn, 1) := by decide +kernel
theorem dM_sheet_13 : decode mM_sheet.2.1 13 = .ok (.iload_n 2, 1) := by decide +kernel
theorem dM_sheet_14 : decode mM_sheet.2.1 14 = .ok (.i2l, 1) := by decide +kernel
theorem dM_sheet_15 : decode mM_sheet.2.1 15 = .ok (.lconst 0, 1) := by decide +kernel
theorem dM_sheet_16 : decode mM_sheet.2.1 16 = .ok (.ldc2_w 130, 3) := by decide +kernel
theorem dM_sheet_19 : decode mM_sheet.2.1 19 = .ok (.invokestatic 78, 3) := by decide +kernel
theorem dM_sheet_22 : decode mM_sheet.2.1 22 = .ok (.ifCond .eq 9, 3) := by decide +kernel
theorem dM_sheet_25 : decode mM_sheet.2.1 25 = .ok (.iload_n 3, 1) := by decide +kernel
theorem dM_sheet_26 : decode mM_sheet.2.1 26 = .ok (.bipush 60, 2) := by decide +kernel
theorem dM_sheet_28 : decode mM_sheet.2.1 28 = .ok (.if_icmp .le 10, 3) := by decide +kernel
theorem dM_sheet_31 : decode mM_sheet.2.1 31 = .ok (.aload_n 0, 1) := by decide +kernel
theorem dM_sheet_32 : decode mM_sheet.2.1 32 = .ok (.bipush (-2), 2) := by decide +kernel
theorem dM_sheet_34 : decode mM_sheet.2.1 34 = .ok (.invokevirtual 127, 3) := by decide +kernel
theorem dM_sheet_37 : decode mM_sheet.2.1 37 = .ok (.ireturn, 1) := by decide +kernel
theorem dM_sheet_38 : decode mM_sheet.2.1 38 = .ok (.iload_n 3, 1) := by decide +kernel
theorem dM_sheet_39 : decode mM_sheet.2.1 39 = .ok (.ifCond .ge 9, 3) := by decide +kernel
theorem dM_sheet_42 : decode mM_sheet.2.1 42 = .ok (.aload_n 0, 1) := by decide +kernel
theorem dM_sheet_43 : decode mM_sheet.2.1 43 = .ok (.iconst 4, 1) := by decide +kernel
theorem dM_sheet_44 : decode mM_sheet.2.1 44 = .ok (.invokevirtual 115, 3) := by decide +kernel
theorem dM_sheet_47 : decode mM_sheet.2.1 47 = .ok (.ireturn, 1) := by decide +kernel
theorem dM_sheet_48 : decode mM_sheet.2.1 48 = .ok (.aload_n 0, 1) := by decide +kernel
theorem dM_sheet_49 : decode mM_sheet.2.1 49 = .ok (.getfield 53, 3) := by decide +kernel
theorem dM_sheet_52 : decode mM_sheet.2.1 52 = .ok (.iload_n 1, 1) := by decide +kernel
theorem dM_sheet_53 : decode mM_sheet.2.1 53 = .ok (.iload_n 3, 1) := by decide +kernel
theorem dM_sheet_54 : decode mM_sheet.2.1 54 = .ok (.iastore, 1) := by decide +kernel
theorem dM_sheet_55 : decode mM_sheet.2.1 55 = .ok (.aload_n 0, 1) := by decide +kernel
theorem dM_sheet_56 : decode mM_sheet.2.1 56 = .ok (.getfield 56, 3) := by decide +kernel
theorem dM_sheet_59 : decode mM_sheet.2.1 59 = .ok (.iload_n 1, 1) := by decide +kernel
theorem dM_sheet_60 : decode mM_sheet.2.1 60 = .ok (.iload_n 2, 1) := by decide +kernel
theorem dM_sheet_61 : decode mM_sheet.2.1 61 = .ok (.iastore, 1) := by decide +kernel
theorem dM_sheet_62 : decode mM_sheet.2.1 62 = .ok (.iconst 0, 1) := by decide +kernel
theorem dM_sheet_63 : decode mM_sheet.2.1 63 = .ok (.istore 4, 2) := by decide +kernel
theorem dM_sheet_65 : decode mM_sheet.2.1 65 = .ok (.iload 4, 2) := by decide +kernel
theorem dM_sheet_67 : decode mM_sheet.2.1 67 = .ok (.iload_n 3, 1) := by decide +kernel
theorem dM_sheet_68 : decode mM_sheet.2.1 68 = .ok (.if_icmp .ge 22, 3) := by decide +kernel
theorem dM_sheet_71 : decode mM_sheet.2.1 71 = .ok (.aload_n 0, 1) := by decide +kernel
theorem dM_sheet_72 : decode mM_sheet.2.1 72 = .ok (.getfield 59, 3) := by decide +kernel
theorem dM_sheet_75 : decode mM_sheet.2.1 75 = .ok (.bipush 60, 2) := by decide +kernel
theorem dM_sheet_77 : decode mM_sheet.2.1 77 = .ok (.iload_n 1, 1) := by decide +kernel
theorem dM_sheet_78 : decode mM_sheet.2.1 78 = .ok (.imul, 1) := by decide +kernel
theorem dM_sheet_79 : decode mM_sheet.2.1 79 = .ok (.iload 4, 2) := by decide +kernel
theorem dM_sheet_81 : decode mM_sheet.2.1 81 = .ok (.iadd, 1) := by decide +kernel
theorem dM_sheet_82 : decode mM_sheet.2.1 82 = .ok (.iconst 0, 1) := by decide +kernel
theorem dM_sheet_83 : decode mM_sheet.2.1 83 = .ok (.iastore, 1) := by decide +kernel
theorem dM_sheet_84 : decode mM_sheet.2.1 84 = .ok (.iinc 4 1, 3) := by decide +kernel
theorem dM_sheet_87 : decode mM_sheet.2.1 87 = .ok (.goto (-22), 3) := by decide +kernel
theorem dM_sheet_90 : decode mM_sheet.2.1 90 = .ok (.aload_n 0, 1) := by decide +kernel
theorem dM_sheet_91 : decode mM_sheet.2.1 91 = .ok (.iconst 1, 1) := by decide +kernel
theorem dM_sheet_92 : decode mM_sheet.2.1 92 = .ok (.invokevirtual 127, 3) := by decide +kernel
theorem dM_sheet_95 : decode mM_sheet.2.1 95 = .ok (.ireturn, 1) := by decide +kernel
theorem dM_stars_0 : decode mM_stars.2.1 0 = .ok (.iload_n 1, 1) := by decide +kernel
theorem dM_stars_1 : decode mM_stars.2.1 1 = .ok (.i2l, 1) := by decide +kernel
theorem dM_stars_2 : decode mM_stars.2.1 2 = .ok (.lconst 0, 1) := by decide +kernel
theorem dM_stars_3 : decode mM_stars.2.1 3 = .ok (.ldc2_w 165, 3) := by decide +kernel
theorem dM_stars_6 : decode mM_stars.2.1 6 = .ok (.invokestatic 78, 3) := by decide +kernel
theorem dM_stars_9 : decode mM_stars.2.1 9 = .ok (.ifCond .ne 6, 3) := by decide +kernel
theorem dM_stars_12 : decode mM_stars.2.1 12 = .ok (.bipush (-2), 2) := by decide +kernel
theorem dM_stars_14 : decode mM_stars.2.1 14 = .ok (.ireturn, 1) := by decide +kernel
theorem dM_stars_15 : decode mM_stars.2.1 15 = .ok (.aload_n 0, 1) := by decide +kernel
theorem dM_stars_16 : decode mM_stars.2.1 16 = .ok (.getfield 75, 3) := by decide +kernel
theorem dM_stars_19 : decode mM_stars.2.1 19 = .ok (.ifCond .ne 6, 3) := by decide +kernel
theorem dM_stars_22 : decode mM_stars.2.1 22 = .ok (.bipush (-3), 2) := by decide +kernel
theorem dM_stars_24 : decode mM_stars.2.1 24 = .ok (.ireturn, 1) := by decide +kernel
theorem dM_stars_25 : decode mM_stars.2.1 25 = .ok (.aload_n 0, 1) := by decide +kernel
theorem dM_stars_26 : decode mM_stars.2.1 26 = .ok (.getfield 139, 3) := by decide +kernel
theorem dM_stars_29 : decode mM_stars.2.1 29 = .ok (.istore_n 2, 1) := by decide +kernel
theorem dM_stars_30 : decode mM_stars.2.1 30 = .ok (.aload_n 0, 1) := by decide +kernel
theorem dM_stars_31 : decode mM_stars.2.1 31 = .ok (.iload_n 1, 1) := by decide +kernel
theorem dM_stars_32 : decode mM_stars.2.1 32 = .ok (.putfield 139, 3) := by decide +kernel
theorem dM_stars_35 : decode mM_stars.2.1 35 = .ok (.iload_n 2, 1) := by decide +kernel
theorem dM_stars_36 : decode mM_stars.2.1 36 = .ok (.ireturn, 1) := by decide +kernel
theorem dM_strict_0 : decode mM_strict.2.1 0 = .ok (.iload_n 1, 1) := by decide +kernel
theorem dM_strict_1 : decode mM_strict.2.1 1 = .ok (.i2l, 1) := by decide +kernel
theorem dM_strict_2 : decode mM_strict.2.1 2 = .ok (.lconst 1, 1) := by decide +kernel
theorem dM_strict_3 : decode mM_strict.2.1 3 = .ok (.ldc2_w 163, 3) := by decide +kernel
theorem dM_strict_6 : decode mM_strict.2.1 6 = .ok (.invokestatic 78, 3) := by decide +kernel
theorem dM_strict_9 : decode mM_strict.2.1 9 = .ok (.ifCond .ne 6, 3) := by decide +kernel
theorem dM_strict_12 : decode mM_strict.2.1 12 = .ok (.bipush (-2), 2) := by decide +kernel
theorem dM_strict_14 : decode mM_strict.2.1 14 = .ok (.ireturn, 1) := by decide +kernel
theorem dM_strict_15 : decode mM_strict.2.1 15 = .ok (.aload_n 0, 1) := by decide +kernel
theorem dM_strict_16 : decode mM_strict.2.1 16 = .ok (.getfield 75, 3) := by decide +kernel
theorem dM_strict_19 : decode mM_strict.2.1 19 = .ok (.ifCond .ne 6, 3) := by decide +kernel
theorem dM_strict_22 : decode mM_strict.2.1 22 = .ok (.bipush (-3), 2) := by decide +kernel
theorem dM_strict_24 : decode mM_strict.2.1 24 = .ok (.ireturn, 1) := by decide +kernel
theorem dM_strict_25 : decode mM_strict.2.1 25 = .ok (.aload_n 0, 1) := by decide +kernel
theorem dM_strict_26 : decode mM_strict.2.1 26 = .ok (.getfield 142, 3) := by decide +kernel
theorem dM_strict_29 : decode mM_strict.2.1 29 = .ok (.istore_n 2, 1) := by decide +kernel
theorem dM_strict_30 : decode mM_strict.2.1 30 = .ok (.aload_n 0, 1) := by decide +kernel
theorem dM_strict_31 : decode mM_strict.2.1 31 = .ok (.iload_n 1, 1) := by decide +kernel
theorem dM_strict_32 : decode mM_strict.2.1 32 = .ok (.putfield 142, 3) := by decide +kernel
theorem dM_strict_35 : decode mM_strict.2.1 35 = .ok (.iload_n 2, 1) := by decide +kernel
theorem dM_strict_36 : decode mM_strict.2.1 36 = .ok (.ireturn, 1) := by decide +kernel
theorem dM_tastes_0 : decode mM_tastes.2.1 0 = .ok (.aload_n 0, 1) := by decide +kernel
theorem dM_tastes_1 : decode mM_tastes.2.1 1 = .ok (.iload_n 1, 1) := by decide +kernel
theorem dM_tastes_2 : decode mM_tastes.2.1 2 = .ok (.invokevirtual 154, 3) := by decide +kernel
theorem dM_tastes_5 : decode mM_tastes.2.1 5 = .ok (.ifCond .eq 5, 3) := by decide +kernel
theorem dM_tastes_8 : decode mM_tastes.2.1 8 = .ok (.iconst (-1), 1) := by decide +kernel
theorem dM_tastes_9 : decode mM_tastes.2.1 9 = .ok (.ireturn, 1) := by decide +kernel
theorem dM_tastes_10 : decode mM_tastes.2.1 10 = .ok (.aload_n 0, 1) := by decide +kernel
theorem dM_tastes_11 : decode mM_tastes.2.1 11 = .ok (.getfield 19, 3) := by decide +kernel
theorem dM_tastes_14 : decode mM_tastes.2.1 14 = .ok (.iload_n 1, 1) := by decide +kernel
theorem dM_tastes_15 : decode mM_tastes.2.1 15 = .ok (.iaload, 1) := by decide +kernel
theorem dM_tastes_16 : decode mM_tastes.2.1 16 = .ok (.istore_n 2, 1) := by decide +kernel
theorem dM_tastes_17 : decode mM_tastes.2.1 17 = .ok (.iconst 0, 1) := by decide +kernel
theorem dM_tastes_18 : decode mM_tastes.2.1 18 = .ok (.istore_n 3, 1) := by decide +kernel
theorem dM_tastes_19 : decode mM_tastes.2.1 19 = .ok (.iconst 0, 1) := by decide +kernel
theorem dM_tastes_20 : decode mM_tastes.2.1 20 = .ok (.istore 4, 2) := by decide +kernel
theorem dM_tastes_22 : decode mM_tastes.2.1 22 = .ok (.iload 4, 2) := by decide +kernel
theorem dM_tastes_24 : decode mM_tastes.2.1 24 = .ok (.bipush 10, 2) := by decide +kernel
theorem dM_tastes_26 : decode mM_tastes.2.1 26 = .ok (.if_icmp .ge 35, 3) := by decide +kernel
theorem dM_tastes_29 : decode mM_tastes.2.1 29 = .ok (.aload_n 0, 1) := by decide +kernel
theorem dM_tastes_30 : decode mM_tastes.2.1 30 = .ok (.getfield 19, 3) := by decide +kernel
theorem dM_tastes_33 : decode mM_tastes.2.1 33 = .ok (.iload_n 1, 1) := by decide +kernel
theorem dM_tastes_34 : decode mM_tastes.2.1 34 = .ok (.iload 4, 2) := by decide +kernel
theorem dM_tastes_36 : decode mM_tastes.2.1 36 = .ok (.iastore, 1) := by decide +kernel
theorem dM_tastes_37 : decode mM_tastes.2.1 37 = .ok (.iload_n 3, 1) := by decide +kernel
theorem dM_tastes_38 : decode mM_tastes.2.1 38 = .ok (.aload_n 0, 1) := by decide +kernel
theorem dM_tastes_39 : decode mM_tastes.2.1 39 = .ok (.invokevirtual 216, 3) := by decide +kernel
theorem dM_tastes_42 : decode mM_tastes.2.1 42 = .ok (.ifCond .eq 10, 3) := by decide +kernel
theorem dM_tastes_45 : decode mM_tastes.2.1 45 = .ok (.iconst 1, 1) := by decide +kernel
theorem dM_tastes_46 : decode mM_tastes.2.1 46 = .ok (.iload 4, 2) := by decide +kernel
theorem dM_tastes_48 : decode mM_tastes.2.1 48 = .ok (.ishl, 1) := by decide +kernel
theorem dM_tastes_49 : decode mM_tastes.2.1 49 = .ok (.goto 4, 3) := by decide +kernel
theorem dM_tastes_52 : decode mM_tastes.2.1 52 = .ok (.iconst 0, 1) := by decide +kernel
theorem dM_tastes_53 : decode mM_tastes.2.1 53 = .ok (.ior, 1) := by decide +kernel
theorem dM_tastes_54 : decode mM_tastes.2.1 54 = .ok (.istore_n 3, 1) := by decide +kernel
theorem dM_tastes_55 : decode mM_tastes.2.1 55 = .ok (.iinc 4 1, 3) := by decide +kernel
theorem dM_tastes_58 : decode mM_tastes.2.1 58 = .ok (.goto (-36), 3) := by decide +kernel
theorem dM_tastes_61 : decode mM_tastes.2.1 61 = .ok (.aload_n 0, 1) := by decide +kernel
theorem dM_tastes_62 : decode mM_tastes.2.1 62 = .ok (.getfield 19, 3) := by decide +kernel
theorem dM_tastes_65 : decode mM_tastes.2.1 65 = .ok (.iload_n 1, 1) := by decide +kernel
theorem dM_tastes_66 : decode mM_tastes.2.1 66 = .ok (.iload_n 2, 1) := by decide +kernel
theorem dM_tastes_67 : decode mM_tastes.2.1 67 = .ok (.iastore, 1) := by decide +kernel
theorem dM_tastes_68 : decode mM_tastes.2.1 68 = .ok (.iload_n 3, 1) := by decide +kernel
theorem dM_tastes_69 : decode mM_tastes.2.1 69 = .ok (.ireturn, 1) := by decide +kernel
theorem dM_tell_0 : decode mM_tell.2.1 0 = .ok (.aload_n 0, 1) := by decide +kernel
theorem dM_tell_1 : decode mM_tell.2.1 1 = .ok (.iload_n 1, 1) := by decide +kernel
theorem dM_tell_2 : decode mM_tell.2.1 2 = .ok (.invokevirtual 154, 3) := by decide +kernel
theorem dM_tell_5 : decode mM_tell.2.1 5 = .ok (.ifCond .eq 5, 3) := by decide +kernel
theorem dM_tell_8 : decode mM_tell.2.1 8 = .ok (.iconst (-1), 1) := by decide +kernel
theorem dM_tell_9 : decode mM_tell.2.1 9 = .ok (.ireturn, 1) := by decide +kernel
theorem dM_tell_10 : decode mM_tell.2.1 10 = .ok (.aload_n 0, 1) := by decide +kernel
theorem dM_tell_11 : decode mM_tell.2.1 11 = .ok (.getfield 16, 3) := by decide +kernel
theorem dM_tell_14 : decode mM_tell.2.1 14 = .ok (.iload_n 1, 1) := by decide +kernel
theorem dM_tell_15 : decode mM_tell.2.1 15 = .ok (.iaload, 1) := by decide +kernel
theorem dM_tell_16 : decode mM_tell.2.1 16 = .ok (.istore_n 2, 1) := by decide +kernel
theorem dM_tell_17 : decode mM_tell.2.1 17 = .ok (.iload_n 2, 1) := by decide +kernel
theorem dM_tell_18 : decode mM_tell.2.1 18 = .ok (.iconst 2, 1) := by decide +kernel
theorem dM_tell_19 : decode mM_tell.2.1 19 = .ok (.if_icmp .ne 8, 3) := by decide +kernel
theorem dM_tell_22 : decode mM_tell.2.1 22 = .ok (.aload_n 0, 1) := by decide +kernel
theorem dM_tell_23 : decode mM_tell.2.1 23 = .ok (.iconst 3, 1) := by decide +kernel
theorem dM_tell_24 : decode mM_tell.2.1 24 = .ok (.invokevirtual 239, 3) := by decide +kernel
theorem dM_tell_27 : decode mM_tell.2.1 27 = .ok (.iload_n 2, 1) := by decide +kernel
theorem dM_tell_28 : decode mM_tell.2.1 28 = .ok (.ifCond .le 8, 3) := by decide +kernel
theorem dM_tell_31 : decode mM_tell.2.1 31 = .ok (.aload_n 0, 1) := by decide +kernel
theorem dM_tell_32 : decode mM_tell.2.1 32 = .ok (.iconst 2, 1) := by decide +kernel
theorem dM_tell_33 : decode mM_tell.2.1 33 = .ok (.invokevirtual 239, 3) := by decide +kernel
theorem dM_tell_36 : decode mM_tell.2.1 36 = .ok (.aload_n 0, 1) := by decide +kernel
theorem dM_tell_37 : decode mM_tell.2.1 37 = .ok (.iconst 1, 1) := by decide +kernel
theorem dM_tell_38 : decode mM_tell.2.1 38 = .ok (.invokevirtual 239, 3) := by decide +kernel
theorem dM_tell_41 : decode mM_tell.2.1 41 = .ok (.iload_n 2, 1) := by decide +kernel
theorem dM_tell_42 : decode mM_tell.2.1 42 = .ok (.iconst 2, 1) := by decide +kernel
theorem dM_tell_43 : decode mM_tell.2.1 43 = .ok (.if_icmp .ne 8, 3) := by decide +kernel
theorem dM_tell_46 : decode mM_tell.2.1 46 = .ok (.aload_n 0, 1) := by decide +kernel
theorem dM_tell_47 : decode mM_tell.2.1 47 = .ok (.iconst 1, 1) := by decide +kernel
theorem dM_tell_48 : decode mM_tell.2.1 48 = .ok (.invokevirtual 239, 3) := by decide +kernel
theorem dM_tell_51 : decode mM_tell.2.1 51 = .ok (.aload_n 0, 1) := by decide +kernel
theorem dM_tell_52 : decode mM_tell.2.1 52 = .ok (.getfield 19, 3) := by decide +kernel
theorem dM_tell_55 : decode mM_tell.2.1 55 = .ok (.iload_n 1, 1) := by decide +kernel
theorem dM_tell_56 : decode mM_tell.2.1 56 = .ok (.iaload, 1) := by decide +kernel
theorem dM_tell_57 : decode mM_tell.2.1 57 = .ok (.istore_n 3, 1) := by decide +kernel
theorem dM_tell_58 : decode mM_tell.2.1 58 = .ok (.iload_n 2, 1) := by decide +kernel
theorem dM_tell_59 : decode mM_tell.2.1 59 = .ok (.ifCond .ne 7, 3) := by decide +kernel
theorem dM_tell_62 : decode mM_tell.2.1 62 = .ok (.iload_n 3, 1) := by decide +kernel
theorem dM_tell_63 : decode mM_tell.2.1 63 = .ok (.goto 21, 3) := by decide +kernel
theorem dM_tell_66 : decode mM_tell.2.1 66 = .ok (.iload_n 2, 1) := by decide +kernel
theorem dM_tell_67 : decode mM_tell.2.1 67 = .ok (.iconst 1, 1) := by decide +kernel
theorem dM_tell_68 : decode mM_tell.2.1 68 = .ok (.if_icmp .ne 10, 3) := by decide +kernel
theorem dM_tell_71 : decode mM_tell.2.1 71 = .ok (.iload_n 3, 1) := by decide +kernel
theorem dM_tell_72 : decode mM_tell.2.1 72 = .ok (.bipush 100, 2) := by decide +kernel
theorem dM_tell_74 : decode mM_tell.2.1 74 = .ok (.iadd, 1) := by decide +kernel
theorem dM_tell_75 : decode mM_tell.2.1 75 = .ok (.goto 9, 3) := by decide +kernel
theorem dM_tell_78 : decode mM_tell.2.1 78 = .ok (.iconst 2, 1) := by decide +kernel
theorem dM_tell_79 : decode mM_tell.2.1 79 = .ok (.iload_n 3, 1) := by decide +kernel
theorem dM_tell_80 : decode mM_tell.2.1 80 = .ok (.imul, 1) := by decide +kernel
theorem dM_tell_81 : decode mM_tell.2.1 81 = .ok (.bipush 100, 2) := by decide +kernel
theorem dM_tell_83 : decode mM_tell.2.1 83 = .ok (.iadd, 1) := by decide +kernel
theorem dM_tell_84 : decode mM_tell.2.1 84 = .ok (.ireturn, 1) := by decide +kernel
theorem dM_trace_0 : decode mM_trace.2.1 0 = .ok (.aload_n 0, 1) := by decide +kernel
theorem dM_trace_1 : decode mM_trace.2.1 1 = .ok (.getfield 236, 3) := by decide +kernel
theorem dM_trace_4 : decode mM_trace.2.1 4 = .ok (.ireturn, 1) := by decide +kernel
theorem dM_traced_0 : decode mM_traced.2.1 0 = .ok (.aload_n 0, 1) := by decide +kernel
theorem dM_traced_1 : decode mM_traced.2.1 1 = .ok (.bipush 31, 2) := by decide +kernel
theorem dM_traced_3 : decode mM_traced.2.1 3 = .ok (.aload_n 0, 1) := by decide +kernel
theorem dM_traced_4 : decode mM_traced.2.1 4 = .ok (.getfield 236, 3) := by decide +kernel
theorem dM_traced_7 : decode mM_traced.2.1 7 = .ok (.imul, 1) := by decide +kernel
theorem dM_traced_8 : decode mM_traced.2.1 8 = .ok (.iload_n 1, 1) := by decide +kernel
theorem dM_traced_9 : decode mM_traced.2.1 9 = .ok (.iadd, 1) := by decide +kernel
theorem dM_traced_10 : decode mM_traced.2.1 10 = .ok (.putfield 236, 3) := by decide +kernel
theorem dM_traced_13 : decode mM_traced.2.1 13 = .ok (.return_, 1) := by decide +kernel
