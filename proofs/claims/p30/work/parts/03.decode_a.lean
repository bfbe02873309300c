theorem dC_as_0 : decode mC_as.2.1 0 = .ok (.aload_n 0, 1) := by decide +kernel
theorem dC_as_1 : decode mC_as.2.1 1 = .ok (.iconst 0, 1) := by decide +kernel
theorem dC_as_2 : decode mC_as.2.1 2 = .ok (.putfield 53, 3) := by decide +kernel
theorem dC_as_5 : decode mC_as.2.1 5 = .ok (.aload_n 0, 1) := by decide +kernel
theorem dC_as_6 : decode mC_as.2.1 6 = .ok (.getfield 12, 3) := by decide +kernel
theorem dC_as_9 : decode mC_as.2.1 9 = .ok (.iload_n 1, 1) := by decide +kernel
theorem dC_as_10 : decode mC_as.2.1 10 = .ok (.invokevirtual 101, 3) := by decide +kernel
theorem dC_as_13 : decode mC_as.2.1 13 = .ok (.ifCond .ne 5, 3) := by decide +kernel
theorem dC_as_16 : decode mC_as.2.1 16 = .ok (.iconst (-1), 1) := by decide +kernel
theorem dC_as_17 : decode mC_as.2.1 17 = .ok (.ireturn, 1) := by decide +kernel
theorem dC_as_18 : decode mC_as.2.1 18 = .ok (.iload_n 2, 1) := by decide +kernel
theorem dC_as_19 : decode mC_as.2.1 19 = .ok (.ifCond .lt 8, 3) := by decide +kernel
theorem dC_as_22 : decode mC_as.2.1 22 = .ok (.iload_n 2, 1) := by decide +kernel
theorem dC_as_23 : decode mC_as.2.1 23 = .ok (.iconst 2, 1) := by decide +kernel
theorem dC_as_24 : decode mC_as.2.1 24 = .ok (.if_icmp .le 6, 3) := by decide +kernel
theorem dC_as_27 : decode mC_as.2.1 27 = .ok (.bipush (-2), 2) := by decide +kernel
theorem dC_as_29 : decode mC_as.2.1 29 = .ok (.ireturn, 1) := by decide +kernel
theorem dC_as_30 : decode mC_as.2.1 30 = .ok (.aload_n 0, 1) := by decide +kernel
theorem dC_as_31 : decode mC_as.2.1 31 = .ok (.getfield 12, 3) := by decide +kernel
theorem dC_as_34 : decode mC_as.2.1 34 = .ok (.getfield 104, 3) := by decide +kernel
theorem dC_as_37 : decode mC_as.2.1 37 = .ok (.iload_n 1, 1) := by decide +kernel
theorem dC_as_38 : decode mC_as.2.1 38 = .ok (.iaload, 1) := by decide +kernel
theorem dC_as_39 : decode mC_as.2.1 39 = .ok (.iload_n 2, 1) := by decide +kernel
theorem dC_as_40 : decode mC_as.2.1 40 = .ok (.if_icmp .ge 9, 3) := by decide +kernel
theorem dC_as_43 : decode mC_as.2.1 43 = .ok (.aload_n 0, 1) := by decide +kernel
theorem dC_as_44 : decode mC_as.2.1 44 = .ok (.iconst 2, 1) := by decide +kernel
theorem dC_as_45 : decode mC_as.2.1 45 = .ok (.invokevirtual 68, 3) := by decide +kernel
theorem dC_as_48 : decode mC_as.2.1 48 = .ok (.ireturn, 1) := by decide +kernel
theorem dC_as_49 : decode mC_as.2.1 49 = .ok (.iconst 1, 1) := by decide +kernel
theorem dC_as_50 : decode mC_as.2.1 50 = .ok (.ireturn, 1) := by decide +kernel
theorem dC_ask_0 : decode mC_ask.2.1 0 = .ok (.aload_n 0, 1) := by decide +kernel
theorem dC_ask_1 : decode mC_ask.2.1 1 = .ok (.getfield 12, 3) := by decide +kernel
theorem dC_ask_4 : decode mC_ask.2.1 4 = .ok (.invokevirtual 126, 3) := by decide +kernel
theorem dC_ask_7 : decode mC_ask.2.1 7 = .ok (.ifCond .ne 6, 3) := by decide +kernel
theorem dC_ask_10 : decode mC_ask.2.1 10 = .ok (.bipush (-3), 2) := by decide +kernel
theorem dC_ask_12 : decode mC_ask.2.1 12 = .ok (.ireturn, 1) := by decide +kernel
theorem dC_ask_13 : decode mC_ask.2.1 13 = .ok (.iload_n 1, 1) := by decide +kernel
theorem dC_ask_14 : decode mC_ask.2.1 14 = .ok (.ifCond .lt 16, 3) := by decide +kernel
theorem dC_ask_17 : decode mC_ask.2.1 17 = .ok (.iload_n 1, 1) := by decide +kernel
theorem dC_ask_18 : decode mC_ask.2.1 18 = .ok (.iconst 1, 1) := by decide +kernel
theorem dC_ask_19 : decode mC_ask.2.1 19 = .ok (.aload_n 0, 1) := by decide +kernel
theorem dC_ask_20 : decode mC_ask.2.1 20 = .ok (.getfield 12, 3) := by decide +kernel
theorem dC_ask_23 : decode mC_ask.2.1 23 = .ok (.getfield 100, 3) := by decide +kernel
theorem dC_ask_26 : decode mC_ask.2.1 26 = .ok (.ishl, 1) := by decide +kernel
theorem dC_ask_27 : decode mC_ask.2.1 27 = .ok (.if_icmp .lt 6, 3) := by decide +kernel
theorem dC_ask_30 : decode mC_ask.2.1 30 = .ok (.bipush (-2), 2) := by decide +kernel
theorem dC_ask_32 : decode mC_ask.2.1 32 = .ok (.ireturn, 1) := by decide +kernel
theorem dC_ask_33 : decode mC_ask.2.1 33 = .ok (.bipush (-9), 2) := by decide +kernel
theorem dC_ask_35 : decode mC_ask.2.1 35 = .ok (.istore_n 2, 1) := by decide +kernel
theorem dC_ask_36 : decode mC_ask.2.1 36 = .ok (.bipush 13, 2) := by decide +kernel
theorem dC_ask_38 : decode mC_ask.2.1 38 = .ok (.istore_n 3, 1) := by decide +kernel
theorem dC_ask_39 : decode mC_ask.2.1 39 = .ok (.iconst 0, 1) := by decide +kernel
theorem dC_ask_40 : decode mC_ask.2.1 40 = .ok (.istore 4, 2) := by decide +kernel
theorem dC_ask_42 : decode mC_ask.2.1 42 = .ok (.iload 4, 2) := by decide +kernel
theorem dC_ask_44 : decode mC_ask.2.1 44 = .ok (.aload_n 0, 1) := by decide +kernel
theorem dC_ask_45 : decode mC_ask.2.1 45 = .ok (.getfield 12, 3) := by decide +kernel
theorem dC_ask_48 : decode mC_ask.2.1 48 = .ok (.getfield 169, 3) := by decide +kernel
theorem dC_ask_51 : decode mC_ask.2.1 51 = .ok (.if_icmp .ge 64, 3) := by decide +kernel
theorem dC_ask_54 : decode mC_ask.2.1 54 = .ok (.iload_n 1, 1) := by decide +kernel
theorem dC_ask_55 : decode mC_ask.2.1 55 = .ok (.aload_n 0, 1) := by decide +kernel
theorem dC_ask_56 : decode mC_ask.2.1 56 = .ok (.getfield 12, 3) := by decide +kernel
theorem dC_ask_59 : decode mC_ask.2.1 59 = .ok (.iload 4, 2) := by decide +kernel
theorem dC_ask_61 : decode mC_ask.2.1 61 = .ok (.invokevirtual 123, 3) := by decide +kernel
theorem dC_ask_64 : decode mC_ask.2.1 64 = .ok (.iand, 1) := by decide +kernel
theorem dC_ask_65 : decode mC_ask.2.1 65 = .ok (.istore 5, 2) := by decide +kernel
theorem dC_ask_67 : decode mC_ask.2.1 67 = .ok (.iload 5, 2) := by decide +kernel
theorem dC_ask_69 : decode mC_ask.2.1 69 = .ok (.ifCond .eq 40, 3) := by decide +kernel
theorem dC_ask_72 : decode mC_ask.2.1 72 = .ok (.aload_n 0, 1) := by decide +kernel
theorem dC_ask_73 : decode mC_ask.2.1 73 = .ok (.getfield 12, 3) := by decide +kernel
theorem dC_ask_76 : decode mC_ask.2.1 76 = .ok (.getfield 120, 3) := by decide +kernel
theorem dC_ask_79 : decode mC_ask.2.1 79 = .ok (.iload 4, 2) := by decide +kernel
theorem dC_ask_81 : decode mC_ask.2.1 81 = .ok (.iaload, 1) := by decide +kernel
theorem dC_ask_82 : decode mC_ask.2.1 82 = .ok (.iload_n 3, 1) := by decide +kernel
theorem dC_ask_83 : decode mC_ask.2.1 83 = .ok (.if_icmp .ge 26, 3) := by decide +kernel
theorem dC_ask_86 : decode mC_ask.2.1 86 = .ok (.aload_n 0, 1) := by decide +kernel
theorem dC_ask_87 : decode mC_ask.2.1 87 = .ok (.getfield 12, 3) := by decide +kernel
theorem dC_ask_90 : decode mC_ask.2.1 90 = .ok (.getfield 120, 3) := by decide +kernel
theorem dC_ask_93 : decode mC_ask.2.1 93 = .ok (.iload 4, 2) := by decide +kernel
theorem dC_ask_95 : decode mC_ask.2.1 95 = .ok (.iaload, 1) := by decide +kernel
theorem dC_ask_96 : decode mC_ask.2.1 96 = .ok (.istore_n 3, 1) := by decide +kernel
theorem dC_ask_97 : decode mC_ask.2.1 97 = .ok (.bipush 10, 2) := by decide +kernel
theorem dC_ask_99 : decode mC_ask.2.1 99 = .ok (.iload 5, 2) := by decide +kernel
theorem dC_ask_101 : decode mC_ask.2.1 101 = .ok (.invokestatic 170, 3) := by decide +kernel
theorem dC_ask_104 : decode mC_ask.2.1 104 = .ok (.imul, 1) := by decide +kernel
theorem dC_ask_105 : decode mC_ask.2.1 105 = .ok (.iload 4, 2) := by decide +kernel
theorem dC_ask_107 : decode mC_ask.2.1 107 = .ok (.iadd, 1) := by decide +kernel
theorem dC_ask_108 : decode mC_ask.2.1 108 = .ok (.istore_n 2, 1) := by decide +kernel
theorem dC_ask_109 : decode mC_ask.2.1 109 = .ok (.iinc 4 1, 3) := by decide +kernel
theorem dC_ask_112 : decode mC_ask.2.1 112 = .ok (.goto (-70), 3) := by decide +kernel
theorem dC_ask_115 : decode mC_ask.2.1 115 = .ok (.iload_n 2, 1) := by decide +kernel
theorem dC_ask_116 : decode mC_ask.2.1 116 = .ok (.ireturn, 1) := by decide +kernel
theorem dC_back_0 : decode mC_back.2.1 0 = .ok (.iload_n 1, 1) := by decide +kernel
theorem dC_back_1 : decode mC_back.2.1 1 = .ok (.ifCond .lt 14, 3) := by decide +kernel
theorem dC_back_4 : decode mC_back.2.1 4 = .ok (.iload_n 1, 1) := by decide +kernel
theorem dC_back_5 : decode mC_back.2.1 5 = .ok (.aload_n 0, 1) := by decide +kernel
theorem dC_back_6 : decode mC_back.2.1 6 = .ok (.getfield 49, 3) := by decide +kernel
theorem dC_back_9 : decode mC_back.2.1 9 = .ok (.getfield 97, 3) := by decide +kernel
theorem dC_back_12 : decode mC_back.2.1 12 = .ok (.if_icmp .le 6, 3) := by decide +kernel
theorem dC_back_15 : decode mC_back.2.1 15 = .ok (.bipush (-2), 2) := by decide +kernel
theorem dC_back_17 : decode mC_back.2.1 17 = .ok (.ireturn, 1) := by decide +kernel
theorem dC_back_18 : decode mC_back.2.1 18 = .ok (.aload_n 0, 1) := by decide +kernel
theorem dC_back_19 : decode mC_back.2.1 19 = .ok (.getfield 49, 3) := by decide +kernel
theorem dC_back_22 : decode mC_back.2.1 22 = .ok (.dup, 1) := by decide +kernel
theorem dC_back_23 : decode mC_back.2.1 23 = .ok (.getfield 97, 3) := by decide +kernel
theorem dC_back_26 : decode mC_back.2.1 26 = .ok (.iload_n 1, 1) := by decide +kernel
theorem dC_back_27 : decode mC_back.2.1 27 = .ok (.isub, 1) := by decide +kernel
theorem dC_back_28 : decode mC_back.2.1 28 = .ok (.putfield 97, 3) := by decide +kernel
theorem dC_back_31 : decode mC_back.2.1 31 = .ok (.aload_n 0, 1) := by decide +kernel
theorem dC_back_32 : decode mC_back.2.1 32 = .ok (.getfield 49, 3) := by decide +kernel
theorem dC_back_35 : decode mC_back.2.1 35 = .ok (.getfield 97, 3) := by decide +kernel
theorem dC_back_38 : decode mC_back.2.1 38 = .ok (.ireturn, 1) := by decide +kernel
theorem dC_cell_0 : decode mC_cell.2.1 0 = .ok (.aload_n 0, 1) := by decide +kernel
theorem dC_cell_1 : decode mC_cell.2.1 1 = .ok (.iconst 0, 1) := by decide +kernel
theorem dC_cell_2 : decode mC_cell.2.1 2 = .ok (.putfield 53, 3) := by decide +kernel
theorem dC_cell_5 : decode mC_cell.2.1 5 = .ok (.aload_n 0, 1) := by decide +kernel
theorem dC_cell_6 : decode mC_cell.2.1 6 = .ok (.getfield 21, 3) := by decide +kernel
theorem dC_cell_9 : decode mC_cell.2.1 9 = .ok (.iload_n 1, 1) := by decide +kernel
theorem dC_cell_10 : decode mC_cell.2.1 10 = .ok (.invokevirtual 57, 3) := by decide +kernel
theorem dC_cell_13 : decode mC_cell.2.1 13 = .ok (.ifCond .eq 10, 3) := by decide +kernel
theorem dC_cell_16 : decode mC_cell.2.1 16 = .ok (.iload_n 3, 1) := by decide +kernel
theorem dC_cell_17 : decode mC_cell.2.1 17 = .ok (.invokestatic 61, 3) := by decide +kernel
theorem dC_cell_20 : decode mC_cell.2.1 20 = .ok (.ifCond .ne 7, 3) := by decide +kernel
theorem dC_cell_23 : decode mC_cell.2.1 23 = .ok (.ldc2_w 194, 3) := by decide +kernel
theorem dC_cell_26 : decode mC_cell.2.1 26 = .ok (.lreturn, 1) := by decide +kernel
theorem dC_cell_27 : decode mC_cell.2.1 27 = .ok (.aload_n 0, 1) := by decide +kernel
theorem dC_cell_28 : decode mC_cell.2.1 28 = .ok (.aload_n 0, 1) := by decide +kernel
theorem dC_cell_29 : decode mC_cell.2.1 29 = .ok (.getfield 21, 3) := by decide +kernel
theorem dC_cell_32 : decode mC_cell.2.1 32 = .ok (.iload_n 1, 1) := by decide +kernel
theorem dC_cell_33 : decode mC_cell.2.1 33 = .ok (.iload_n 3, 1) := by decide +kernel
theorem dC_cell_34 : decode mC_cell.2.1 34 = .ok (.invokevirtual 64, 3) := by decide +kernel
theorem dC_cell_37 : decode mC_cell.2.1 37 = .ok (.putfield 53, 3) := by decide +kernel
theorem dC_cell_40 : decode mC_cell.2.1 40 = .ok (.aload_n 0, 1) := by decide +kernel
theorem dC_cell_41 : decode mC_cell.2.1 41 = .ok (.getfield 53, 3) := by decide +kernel
theorem dC_cell_44 : decode mC_cell.2.1 44 = .ok (.ifCond .eq 7, 3) := by decide +kernel
theorem dC_cell_47 : decode mC_cell.2.1 47 = .ok (.ldc2_w 194, 3) := by decide +kernel
theorem dC_cell_50 : decode mC_cell.2.1 50 = .ok (.lreturn, 1) := by decide +kernel
theorem dC_cell_51 : decode mC_cell.2.1 51 = .ok (.aload_n 0, 1) := by decide +kernel
theorem dC_cell_52 : decode mC_cell.2.1 52 = .ok (.getfield 21, 3) := by decide +kernel
theorem dC_cell_55 : decode mC_cell.2.1 55 = .ok (.iload_n 1, 1) := by decide +kernel
theorem dC_cell_56 : decode mC_cell.2.1 56 = .ok (.iload_n 2, 1) := by decide +kernel
theorem dC_cell_57 : decode mC_cell.2.1 57 = .ok (.invokevirtual 207, 3) := by decide +kernel
theorem dC_cell_60 : decode mC_cell.2.1 60 = .ok (.ifCond .ne 12, 3) := by decide +kernel
theorem dC_cell_63 : decode mC_cell.2.1 63 = .ok (.aload_n 0, 1) := by decide +kernel
theorem dC_cell_64 : decode mC_cell.2.1 64 = .ok (.iconst 3, 1) := by decide +kernel
theorem dC_cell_65 : decode mC_cell.2.1 65 = .ok (.putfield 53, 3) := by decide +kernel
theorem dC_cell_68 : decode mC_cell.2.1 68 = .ok (.ldc2_w 194, 3) := by decide +kernel
theorem dC_cell_71 : decode mC_cell.2.1 71 = .ok (.lreturn, 1) := by decide +kernel
theorem dC_cell_72 : decode mC_cell.2.1 72 = .ok (.aload_n 0, 1) := by decide +kernel
theorem dC_cell_73 : decode mC_cell.2.1 73 = .ok (.getfield 21, 3) := by decide +kernel
theorem dC_cell_76 : decode mC_cell.2.1 76 = .ok (.getfield 76, 3) := by decide +kernel
theorem dC_cell_79 : decode mC_cell.2.1 79 = .ok (.iload_n 1, 1) := by decide +kernel
theorem dC_cell_80 : decode mC_cell.2.1 80 = .ok (.aaload, 1) := by decide +kernel
theorem dC_cell_81 : decode mC_cell.2.1 81 = .ok (.iload_n 2, 1) := by decide +kernel
theorem dC_cell_82 : decode mC_cell.2.1 82 = .ok (.iaload, 1) := by decide +kernel
theorem dC_cell_83 : decode mC_cell.2.1 83 = .ok (.i2l, 1) := by decide +kernel
theorem dC_cell_84 : decode mC_cell.2.1 84 = .ok (.lreturn, 1) := by decide +kernel
theorem dC_charms_0 : decode mC_charms.2.1 0 = .ok (.aload_n 0, 1) := by decide +kernel
theorem dC_charms_1 : decode mC_charms.2.1 1 = .ok (.getfield 12, 3) := by decide +kernel
theorem dC_charms_4 : decode mC_charms.2.1 4 = .ok (.iload_n 1, 1) := by decide +kernel
theorem dC_charms_5 : decode mC_charms.2.1 5 = .ok (.invokevirtual 114, 3) := by decide +kernel
theorem dC_charms_8 : decode mC_charms.2.1 8 = .ok (.ifCond .ne 5, 3) := by decide +kernel
theorem dC_charms_11 : decode mC_charms.2.1 11 = .ok (.iconst (-1), 1) := by decide +kernel
theorem dC_charms_12 : decode mC_charms.2.1 12 = .ok (.ireturn, 1) := by decide +kernel
theorem dC_charms_13 : decode mC_charms.2.1 13 = .ok (.aload_n 0, 1) := by decide +kernel
theorem dC_charms_14 : decode mC_charms.2.1 14 = .ok (.aload_n 0, 1) := by decide +kernel
theorem dC_charms_15 : decode mC_charms.2.1 15 = .ok (.getfield 12, 3) := by decide +kernel
theorem dC_charms_18 : decode mC_charms.2.1 18 = .ok (.getfield 117, 3) := by decide +kernel
theorem dC_charms_21 : decode mC_charms.2.1 21 = .ok (.iload_n 1, 1) := by decide +kernel
theorem dC_charms_22 : decode mC_charms.2.1 22 = .ok (.bipush 10, 2) := by decide +kernel
theorem dC_charms_24 : decode mC_charms.2.1 24 = .ok (.invokevirtual 190, 3) := by decide +kernel
theorem dC_charms_27 : decode mC_charms.2.1 27 = .ok (.ireturn, 1) := by decide +kernel
theorem dC_commonDivisor_0 : decode mC_commonDivisor.2.1 0 = .ok (.iload_n 0, 1) := by decide +kernel
theorem dC_commonDivisor_1 : decode mC_commonDivisor.2.1 1 = .ok (.istore_n 2, 1) := by decide +kernel
theorem dC_commonDivisor_2 : decode mC_commonDivisor.2.1 2 = .ok (.iload_n 1, 1) := by decide +kernel
theorem dC_commonDivisor_3 : decode mC_commonDivisor.2.1 3 = .ok (.istore_n 3, 1) := by decide +kernel
theorem dC_commonDivisor_4 : decode mC_commonDivisor.2.1 4 = .ok (.iconst 0, 1) := by decide +kernel
theorem dC_commonDivisor_5 : decode mC_commonDivisor.2.1 5 = .ok (.istore 4, 2) := by decide +kernel
theorem dC_commonDivisor_7 : decode mC_commonDivisor.2.1 7 = .ok (.iload 4, 2) := by decide +kernel
theorem dC_commonDivisor_9 : decode mC_commonDivisor.2.1 9 = .ok (.bipush 64, 2) := by decide +kernel
theorem dC_commonDivisor_11 : decode mC_commonDivisor.2.1 11 = .ok (.if_icmp .ge 23, 3) := by decide +kernel
theorem dC_commonDivisor_14 : decode mC_commonDivisor.2.1 14 = .ok (.iload_n 3, 1) := by decide +kernel
theorem dC_commonDivisor_15 : decode mC_commonDivisor.2.1 15 = .ok (.ifCond .eq 19, 3) := by decide +kernel
theorem dC_commonDivisor_18 : decode mC_commonDivisor.2.1 18 = .ok (.iload_n 2, 1) := by decide +kernel
theorem dC_commonDivisor_19 : decode mC_commonDivisor.2.1 19 = .ok (.iload_n 3, 1) := by decide +kernel
theorem dC_commonDivisor_20 : decode mC_commonDivisor.2.1 20 = .ok (.irem, 1) := by decide +kernel
theorem dC_commonDivisor_21 : decode mC_commonDivisor.2.1 21 = .ok (.istore 5, 2) := by decide +kernel
theorem dC_commonDivisor_23 : decode mC_commonDivisor.2.1 23 = .ok (.iload_n 3, 1) := by decide +kernel
theorem dC_commonDivisor_24 : decode mC_commonDivisor.2.1 24 = .ok (.istore_n 2, 1) := by decide +kernel
theorem dC_commonDivisor_25 : decode mC_commonDivisor.2.1 25 = .ok (.iload 5, 2) := by decide +kernel
theorem dC_commonDivisor_27 : decode mC_commonDivisor.2.1 27 = .ok (.istore_n 3, 1) := by decide +kernel
theorem dC_commonDivisor_28 : decode mC_commonDivisor.2.1 28 = .ok (.iinc 4 1, 3) := by decide +kernel
theorem dC_commonDivisor_31 : decode mC_commonDivisor.2.1 31 = .ok (.goto (-24), 3) := by decide +kernel
theorem dC_commonDivisor_34 : decode mC_commonDivisor.2.1 34 = .ok (.iload_n 2, 1) := by decide +kernel
theorem dC_commonDivisor_35 : decode mC_commonDivisor.2.1 35 = .ok (.ireturn, 1) := by decide +kernel
theorem dC_copy_0 : decode mC_copy.2.1 0 = .ok (.aload_n 0, 1) := by decide +kernel
theorem dC_copy_1 : decode mC_copy.2.1 1 = .ok (.iconst 0, 1) := by decide +kernel
theorem dC_copy_2 : decode mC_copy.2.1 2 = .ok (.putfield 53, 3) := by decide +kernel
theorem dC_copy_5 : decode mC_copy.2.1 5 = .ok (.aload_n 0, 1) := by decide +kernel
theorem dC_copy_6 : decode mC_copy.2.1 6 = .ok (.getfield 21, 3) := by decide +kernel
theorem dC_copy_9 : decode mC_copy.2.1 9 = .ok (.iload_n 1, 1) := by decide +kernel
theorem dC_copy_10 : decode mC_copy.2.1 10 = .ok (.invokevirtual 57, 3) := by decide +kernel
theorem dC_copy_13 : decode mC_copy.2.1 13 = .ok (.ifCond .eq 14, 3) := by decide +kernel
theorem dC_copy_16 : decode mC_copy.2.1 16 = .ok (.aload_n 0, 1) := by decide +kernel
theorem dC_copy_17 : decode mC_copy.2.1 17 = .ok (.getfield 21, 3) := by decide +kernel
theorem dC_copy_20 : decode mC_copy.2.1 20 = .ok (.iload_n 3, 1) := by decide +kernel
theorem dC_copy_21 : decode mC_copy.2.1 21 = .ok (.invokevirtual 57, 3) := by decide +kernel
theorem dC_copy_24 : decode mC_copy.2.1 24 = .ok (.ifCond .ne 5, 3) := by decide +kernel
theorem dC_copy_27 : decode mC_copy.2.1 27 = .ok (.iconst (-1), 1) := by decide +kernel
theorem dC_copy_28 : decode mC_copy.2.1 28 = .ok (.ireturn, 1) := by decide +kernel
theorem dC_copy_29 : decode mC_copy.2.1 29 = .ok (.aload_n 0, 1) := by decide +kernel
theorem dC_copy_30 : decode mC_copy.2.1 30 = .ok (.getfield 21, 3) := by decide +kernel
theorem dC_copy_33 : decode mC_copy.2.1 33 = .ok (.getfield 203, 3) := by decide +kernel
theorem dC_copy_36 : decode mC_copy.2.1 36 = .ok (.iload_n 1, 1) := by decide +kernel
theorem dC_copy_37 : decode mC_copy.2.1 37 = .ok (.baload, 1) := by decide +kernel
theorem dC_copy_38 : decode mC_copy.2.1 38 = .ok (.ifCond .eq 15, 3) := by decide +kernel
theorem dC_copy_41 : decode mC_copy.2.1 41 = .ok (.aload_n 0, 1) := by decide +kernel
theorem dC_copy_42 : decode mC_copy.2.1 42 = .ok (.getfield 21, 3) := by decide +kernel
theorem dC_copy_45 : decode mC_copy.2.1 45 = .ok (.getfield 203, 3) := by decide +kernel
theorem dC_copy_48 : decode mC_copy.2.1 48 = .ok (.iload_n 3, 1) := by decide +kernel
theorem dC_copy_49 : decode mC_copy.2.1 49 = .ok (.baload, 1) := by decide +kernel
theorem dC_copy_50 : decode mC_copy.2.1 50 = .ok (.ifCond .ne 9, 3) := by decide +kernel
theorem dC_copy_53 : decode mC_copy.2.1 53 = .ok (.aload_n 0, 1) := by decide +kernel
theorem dC_copy_54 : decode mC_copy.2.1 54 = .ok (.iconst 1, 1) := by decide +kernel
theorem dC_copy_55 : decode mC_copy.2.1 55 = .ok (.invokevirtual 68, 3) := by decide +kernel
theorem dC_copy_58 : decode mC_copy.2.1 58 = .ok (.ireturn, 1) := by decide +kernel
theorem dC_copy_59 : decode mC_copy.2.1 59 = .ok (.aload_n 0, 1) := by decide +kernel
theorem dC_copy_60 : decode mC_copy.2.1 60 = .ok (.getfield 21, 3) := by decide +kernel
theorem dC_copy_63 : decode mC_copy.2.1 63 = .ok (.getfield 211, 3) := by decide +kernel
theorem dC_copy_66 : decode mC_copy.2.1 66 = .ok (.iload_n 1, 1) := by decide +kernel
theorem dC_copy_67 : decode mC_copy.2.1 67 = .ok (.iaload, 1) := by decide +kernel
theorem dC_copy_68 : decode mC_copy.2.1 68 = .ok (.aload_n 0, 1) := by decide +kernel
theorem dC_copy_69 : decode mC_copy.2.1 69 = .ok (.getfield 21, 3) := by decide +kernel
theorem dC_copy_72 : decode mC_copy.2.1 72 = .ok (.getfield 211, 3) := by decide +kernel
theorem dC_copy_75 : decode mC_copy.2.1 75 = .ok (.iload_n 3, 1) := by decide +kernel
theorem dC_copy_76 : decode mC_copy.2.1 76 = .ok (.iaload, 1) := by decide +kernel
theorem dC_copy_77 : decode mC_copy.2.1 77 = .ok (.if_icmp .eq 9, 3) := by decide +kernel
theorem dC_copy_80 : decode mC_copy.2.1 80 = .ok (.aload_n 0, 1) := by decide +kernel
theorem dC_copy_81 : decode mC_copy.2.1 81 = .ok (.iconst 2, 1) := by decide +kernel
theorem dC_copy_82 : decode mC_copy.2.1 82 = .ok (.invokevirtual 68, 3) := by decide +kernel
theorem dC_copy_85 : decode mC_copy.2.1 85 = .ok (.ireturn, 1) := by decide +kernel
theorem dC_copy_86 : decode mC_copy.2.1 86 = .ok (.aload_n 0, 1) := by decide +kernel
theorem dC_copy_87 : decode mC_copy.2.1 87 = .ok (.getfield 21, 3) := by decide +kernel
theorem dC_copy_90 : decode mC_copy.2.1 90 = .ok (.iload_n 1, 1) := by decide +kernel
theorem dC_copy_91 : decode mC_copy.2.1 91 = .ok (.iload_n 2, 1) := by decide +kernel
theorem dC_copy_92 : decode mC_copy.2.1 92 = .ok (.iload 5, 2) := by decide +kernel
theorem dC_copy_94 : decode mC_copy.2.1 94 = .ok (.invokevirtual 72, 3) := by decide +kernel
theorem dC_copy_97 : decode mC_copy.2.1 97 = .ok (.ifCond .eq 18, 3) := by decide +kernel
theorem dC_copy_100 : decode mC_copy.2.1 100 = .ok (.aload_n 0, 1) := by decide +kernel
theorem dC_copy_101 : decode mC_copy.2.1 101 = .ok (.getfield 21, 3) := by decide +kernel
theorem dC_copy_104 : decode mC_copy.2.1 104 = .ok (.iload_n 3, 1) := by decide +kernel
theorem dC_copy_105 : decode mC_copy.2.1 105 = .ok (.iload 4, 2) := by decide +kernel
theorem dC_copy_107 : decode mC_copy.2.1 107 = .ok (.iload 5, 2) := by decide +kernel
theorem dC_copy_109 : decode mC_copy.2.1 109 = .ok (.invokevirtual 72, 3) := by decide +kernel
theorem dC_copy_112 : decode mC_copy.2.1 112 = .ok (.ifCond .ne 9, 3) := by decide +kernel
theorem dC_copy_115 : decode mC_copy.2.1 115 = .ok (.aload_n 0, 1) := by decide +kernel
theorem dC_copy_116 : decode mC_copy.2.1 116 = .ok (.iconst 3, 1) := by decide +kernel
theorem dC_copy_117 : decode mC_copy.2.1 117 = .ok (.invokevirtual 68, 3) := by decide +kernel
theorem dC_copy_120 : decode mC_copy.2.1 120 = .ok (.ireturn, 1) := by decide +kernel
theorem dC_copy_121 : decode mC_copy.2.1 121 = .ok (.aload_n 0, 1) := by decide +kernel
theorem dC_copy_122 : decode mC_copy.2.1 122 = .ok (.getfield 21, 3) := by decide +kernel
theorem dC_copy_125 : decode mC_copy.2.1 125 = .ok (.getfield 76, 3) := by decide +kernel
theorem dC_copy_128 : decode mC_copy.2.1 128 = .ok (.iload_n 1, 1) := by decide +kernel
theorem dC_copy_129 : decode mC_copy.2.1 129 = .ok (.aaload, 1) := by decide +kernel
theorem dC_copy_130 : decode mC_copy.2.1 130 = .ok (.iload_n 2, 1) := by decide +kernel
theorem dC_copy_131 : decode mC_copy.2.1 131 = .ok (.aload_n 0, 1) := by decide +kernel
theorem dC_copy_132 : decode mC_copy.2.1 132 = .ok (.getfield 21, 3) := by decide +kernel
theorem dC_copy_135 : decode mC_copy.2.1 135 = .ok (.getfield 76, 3) := by decide +kernel
theorem dC_copy_138 : decode mC_copy.2.1 138 = .ok (.iload_n 3, 1) := by decide +kernel
theorem dC_copy_139 : decode mC_copy.2.1 139 = .ok (.aaload, 1) := by decide +kernel
theorem dC_copy_140 : decode mC_copy.2.1 140 = .ok (.iload 4, 2) := by decide +kernel
theorem dC_copy_142 : decode mC_copy.2.1 142 = .ok (.iload 5, 2) := by decide +kernel
theorem dC_copy_144 : decode mC_copy.2.1 144 = .ok (.invokestatic 217, 3) := by decide +kernel
theorem dC_copy_147 : decode mC_copy.2.1 147 = .ok (.iload 5, 2) := by decide +kernel
theorem dC_copy_149 : decode mC_copy.2.1 149 = .ok (.ireturn, 1) := by decide +kernel
theorem dC_cut_0 : decode mC_cut.2.1 0 = .ok (.iload_n 1, 1) := by decide +kernel
theorem dC_cut_1 : decode mC_cut.2.1 1 = .ok (.lookupswitch 33 #[(0, 27), (1, 30)], 27) := by decide +kernel
theorem dC_cut_28 : decode mC_cut.2.1 28 = .ok (.iload_n 0, 1) := by decide +kernel
theorem dC_cut_29 : decode mC_cut.2.1 29 = .ok (.i2b, 1) := by decide +kernel
theorem dC_cut_30 : decode mC_cut.2.1 30 = .ok (.ireturn, 1) := by decide +kernel
theorem dC_cut_31 : decode mC_cut.2.1 31 = .ok (.iload_n 0, 1) := by decide +kernel
theorem dC_cut_32 : decode mC_cut.2.1 32 = .ok (.i2s, 1) := by decide +kernel
theorem dC_cut_33 : decode mC_cut.2.1 33 = .ok (.ireturn, 1) := by decide +kernel
theorem dC_cut_34 : decode mC_cut.2.1 34 = .ok (.iload_n 0, 1) := by decide +kernel
theorem dC_cut_35 : decode mC_cut.2.1 35 = .ok (.ireturn, 1) := by decide +kernel
theorem dC_dull_0 : decode mC_dull.2.1 0 = .ok (.aload_n 0, 1) := by decide +kernel
theorem dC_dull_1 : decode mC_dull.2.1 1 = .ok (.getfield 12, 3) := by decide +kernel
theorem dC_dull_4 : decode mC_dull.2.1 4 = .ok (.iload_n 1, 1) := by decide +kernel
theorem dC_dull_5 : decode mC_dull.2.1 5 = .ok (.invokevirtual 101, 3) := by decide +kernel
theorem dC_dull_8 : decode mC_dull.2.1 8 = .ok (.ifCond .ne 5, 3) := by decide +kernel
theorem dC_dull_11 : decode mC_dull.2.1 11 = .ok (.iconst (-1), 1) := by decide +kernel
theorem dC_dull_12 : decode mC_dull.2.1 12 = .ok (.ireturn, 1) := by decide +kernel
theorem dC_dull_13 : decode mC_dull.2.1 13 = .ok (.bipush (-9), 2) := by decide +kernel
theorem dC_dull_15 : decode mC_dull.2.1 15 = .ok (.istore_n 2, 1) := by decide +kernel
theorem dC_dull_16 : decode mC_dull.2.1 16 = .ok (.iconst (-1), 1) := by decide +kernel
theorem dC_dull_17 : decode mC_dull.2.1 17 = .ok (.istore_n 3, 1) := by decide +kernel
theorem dC_dull_18 : decode mC_dull.2.1 18 = .ok (.iconst 0, 1) := by decide +kernel
theorem dC_dull_19 : decode mC_dull.2.1 19 = .ok (.istore 4, 2) := by decide +kernel
theorem dC_dull_21 : decode mC_dull.2.1 21 = .ok (.iload 4, 2) := by decide +kernel
theorem dC_dull_23 : decode mC_dull.2.1 23 = .ok (.aload_n 0, 1) := by decide +kernel
theorem dC_dull_24 : decode mC_dull.2.1 24 = .ok (.getfield 12, 3) := by decide +kernel
theorem dC_dull_27 : decode mC_dull.2.1 27 = .ok (.getfield 169, 3) := by decide +kernel
theorem dC_dull_30 : decode mC_dull.2.1 30 = .ok (.if_icmp .ge 45, 3) := by decide +kernel
theorem dC_dull_33 : decode mC_dull.2.1 33 = .ok (.aload_n 0, 1) := by decide +kernel
theorem dC_dull_34 : decode mC_dull.2.1 34 = .ok (.getfield 12, 3) := by decide +kernel
theorem dC_dull_37 : decode mC_dull.2.1 37 = .ok (.iload_n 1, 1) := by decide +kernel
theorem dC_dull_38 : decode mC_dull.2.1 38 = .ok (.iload 4, 2) := by decide +kernel
theorem dC_dull_40 : decode mC_dull.2.1 40 = .ok (.invokevirtual 139, 3) := by decide +kernel
theorem dC_dull_43 : decode mC_dull.2.1 43 = .ok (.istore 5, 2) := by decide +kernel
theorem dC_dull_45 : decode mC_dull.2.1 45 = .ok (.iload 5, 2) := by decide +kernel
theorem dC_dull_47 : decode mC_dull.2.1 47 = .ok (.aload_n 0, 1) := by decide +kernel
theorem dC_dull_48 : decode mC_dull.2.1 48 = .ok (.getfield 12, 3) := by decide +kernel
theorem dC_dull_51 : decode mC_dull.2.1 51 = .ok (.getfield 130, 3) := by decide +kernel
theorem dC_dull_54 : decode mC_dull.2.1 54 = .ok (.if_icmp .ge 15, 3) := by decide +kernel
theorem dC_dull_57 : decode mC_dull.2.1 57 = .ok (.iload 5, 2) := by decide +kernel
theorem dC_dull_59 : decode mC_dull.2.1 59 = .ok (.iload_n 3, 1) := by decide +kernel
theorem dC_dull_60 : decode mC_dull.2.1 60 = .ok (.if_icmp .le 9, 3) := by decide +kernel
theorem dC_dull_63 : decode mC_dull.2.1 63 = .ok (.iload 5, 2) := by decide +kernel
theorem dC_dull_65 : decode mC_dull.2.1 65 = .ok (.istore_n 3, 1) := by decide +kernel
theorem dC_dull_66 : decode mC_dull.2.1 66 = .ok (.iload 4, 2) := by decide +kernel
theorem dC_dull_68 : decode mC_dull.2.1 68 = .ok (.istore_n 2, 1) := by decide +kernel
theorem dC_dull_69 : decode mC_dull.2.1 69 = .ok (.iinc 4 1, 3) := by decide +kernel
theorem dC_dull_72 : decode mC_dull.2.1 72 = .ok (.goto (-51), 3) := by decide +kernel
theorem dC_dull_75 : decode mC_dull.2.1 75 = .ok (.iload_n 2, 1) := by decide +kernel
theorem dC_dull_76 : decode mC_dull.2.1 76 = .ok (.ireturn, 1) := by decide +kernel
theorem dC_fault_0 : decode mC_fault.2.1 0 = .ok (.aload_n 0, 1) := by decide +kernel
theorem dC_fault_1 : decode mC_fault.2.1 1 = .ok (.getfield 53, 3) := by decide +kernel
theorem dC_fault_4 : decode mC_fault.2.1 4 = .ok (.ireturn, 1) := by decide +kernel
theorem dC_faulty_0 : decode mC_faulty.2.1 0 = .ok (.aload_n 0, 1) := by decide +kernel
theorem dC_faulty_1 : decode mC_faulty.2.1 1 = .ok (.iload_n 1, 1) := by decide +kernel
theorem dC_faulty_2 : decode mC_faulty.2.1 2 = .ok (.putfield 53, 3) := by decide +kernel
theorem dC_faulty_5 : decode mC_faulty.2.1 5 = .ok (.bipush (-10), 2) := by decide +kernel
theorem dC_faulty_7 : decode mC_faulty.2.1 7 = .ok (.iload_n 1, 1) := by decide +kernel
theorem dC_faulty_8 : decode mC_faulty.2.1 8 = .ok (.isub, 1) := by decide +kernel
theorem dC_faulty_9 : decode mC_faulty.2.1 9 = .ok (.ireturn, 1) := by decide +kernel
theorem dC_fewest_0 : decode mC_fewest.2.1 0 = .ok (.iload_n 1, 1) := by decide +kernel
theorem dC_fewest_1 : decode mC_fewest.2.1 1 = .ok (.iconst (-1), 1) := by decide +kernel
theorem dC_fewest_2 : decode mC_fewest.2.1 2 = .ok (.if_icmp .ge 5, 3) := by decide +kernel
theorem dC_fewest_5 : decode mC_fewest.2.1 5 = .ok (.iconst (-1), 1) := by decide +kernel
theorem dC_fewest_6 : decode mC_fewest.2.1 6 = .ok (.ireturn, 1) := by decide +kernel
theorem dC_fewest_7 : decode mC_fewest.2.1 7 = .ok (.aload_n 0, 1) := by decide +kernel
theorem dC_fewest_8 : decode mC_fewest.2.1 8 = .ok (.getfield 12, 3) := by decide +kernel
theorem dC_fewest_11 : decode mC_fewest.2.1 11 = .ok (.invokevirtual 126, 3) := by decide +kernel
theorem dC_fewest_14 : decode mC_fewest.2.1 14 = .ok (.ifCond .ne 6, 3) := by decide +kernel
theorem dC_fewest_17 : decode mC_fewest.2.1 17 = .ok (.bipush (-3), 2) := by decide +kernel
theorem dC_fewest_19 : decode mC_fewest.2.1 19 = .ok (.ireturn, 1) := by decide +kernel
theorem dC_fewest_20 : decode mC_fewest.2.1 20 = .ok (.iload_n 1, 1) := by decide +kernel
theorem dC_fewest_21 : decode mC_fewest.2.1 21 = .ok (.aload_n 0, 1) := by decide +kernel
theorem dC_fewest_22 : decode mC_fewest.2.1 22 = .ok (.getfield 12, 3) := by decide +kernel
theorem dC_fewest_25 : decode mC_fewest.2.1 25 = .ok (.getfield 100, 3) := by decide +kernel
theorem dC_fewest_28 : decode mC_fewest.2.1 28 = .ok (.if_icmp .ge 17, 3) := by decide +kernel
theorem dC_fewest_31 : decode mC_fewest.2.1 31 = .ok (.aload_n 0, 1) := by decide +kernel
theorem dC_fewest_32 : decode mC_fewest.2.1 32 = .ok (.getfield 42, 3) := by decide +kernel
theorem dC_fewest_35 : decode mC_fewest.2.1 35 = .ok (.aload_n 0, 1) := by decide +kernel
theorem dC_fewest_36 : decode mC_fewest.2.1 36 = .ok (.getfield 12, 3) := by decide +kernel
theorem dC_fewest_39 : decode mC_fewest.2.1 39 = .ok (.invokevirtual 173, 3) := by decide +kernel
theorem dC_fewest_42 : decode mC_fewest.2.1 42 = .ok (.ifCond .ne 6, 3) := by decide +kernel
theorem dC_fewest_45 : decode mC_fewest.2.1 45 = .ok (.bipush (-9), 2) := by decide +kernel
theorem dC_fewest_47 : decode mC_fewest.2.1 47 = .ok (.ireturn, 1) := by decide +kernel
theorem dC_fewest_48 : decode mC_fewest.2.1 48 = .ok (.iload_n 1, 1) := by decide +kernel
theorem dC_fewest_49 : decode mC_fewest.2.1 49 = .ok (.ifCond .ge 13, 3) := by decide +kernel
theorem dC_fewest_52 : decode mC_fewest.2.1 52 = .ok (.aload_n 0, 1) := by decide +kernel
theorem dC_fewest_53 : decode mC_fewest.2.1 53 = .ok (.getfield 42, 3) := by decide +kernel
theorem dC_fewest_56 : decode mC_fewest.2.1 56 = .ok (.getfield 177, 3) := by decide +kernel
theorem dC_fewest_59 : decode mC_fewest.2.1 59 = .ok (.goto 12, 3) := by decide +kernel
theorem dC_fewest_62 : decode mC_fewest.2.1 62 = .ok (.aload_n 0, 1) := by decide +kernel
theorem dC_fewest_63 : decode mC_fewest.2.1 63 = .ok (.getfield 42, 3) := by decide +kernel
theorem dC_fewest_66 : decode mC_fewest.2.1 66 = .ok (.getfield 180, 3) := by decide +kernel
theorem dC_fewest_69 : decode mC_fewest.2.1 69 = .ok (.iload_n 1, 1) := by decide +kernel
theorem dC_fewest_70 : decode mC_fewest.2.1 70 = .ok (.iaload, 1) := by decide +kernel
theorem dC_fewest_71 : decode mC_fewest.2.1 71 = .ok (.ireturn, 1) := by decide +kernel
theorem dC_firstOf_0 : decode mC_firstOf.2.1 0 = .ok (.iconst 0, 1) := by decide +kernel
theorem dC_firstOf_1 : decode mC_firstOf.2.1 1 = .ok (.istore_n 1, 1) := by decide +kernel
theorem dC_firstOf_2 : decode mC_firstOf.2.1 2 = .ok (.iload_n 1, 1) := by decide +kernel
theorem dC_firstOf_3 : decode mC_firstOf.2.1 3 = .ok (.bipush 6, 2) := by decide +kernel
theorem dC_firstOf_5 : decode mC_firstOf.2.1 5 = .ok (.if_icmp .ge 17, 3) := by decide +kernel
theorem dC_firstOf_8 : decode mC_firstOf.2.1 8 = .ok (.iload_n 0, 1) := by decide +kernel
theorem dC_firstOf_9 : decode mC_firstOf.2.1 9 = .ok (.iload_n 1, 1) := by decide +kernel
theorem dC_firstOf_10 : decode mC_firstOf.2.1 10 = .ok (.ishr, 1) := by decide +kernel
theorem dC_firstOf_11 : decode mC_firstOf.2.1 11 = .ok (.iconst 1, 1) := by decide +kernel
theorem dC_firstOf_12 : decode mC_firstOf.2.1 12 = .ok (.iand, 1) := by decide +kernel
theorem dC_firstOf_13 : decode mC_firstOf.2.1 13 = .ok (.ifCond .ne 9, 3) := by decide +kernel
theorem dC_firstOf_16 : decode mC_firstOf.2.1 16 = .ok (.iinc 1 1, 3) := by decide +kernel
theorem dC_firstOf_19 : decode mC_firstOf.2.1 19 = .ok (.goto (-17), 3) := by decide +kernel
theorem dC_firstOf_22 : decode mC_firstOf.2.1 22 = .ok (.iload_n 1, 1) := by decide +kernel
theorem dC_firstOf_23 : decode mC_firstOf.2.1 23 = .ok (.ireturn, 1) := by decide +kernel
theorem dC_fitting_0 : decode mC_fitting.2.1 0 = .ok (.aload_n 1, 1) := by decide +kernel
theorem dC_fitting_1 : decode mC_fitting.2.1 1 = .ok (.iload_n 2, 1) := by decide +kernel
theorem dC_fitting_2 : decode mC_fitting.2.1 2 = .ok (.iaload, 1) := by decide +kernel
theorem dC_fitting_3 : decode mC_fitting.2.1 3 = .ok (.istore 4, 2) := by decide +kernel
theorem dC_fitting_5 : decode mC_fitting.2.1 5 = .ok (.iconst 0, 1) := by decide +kernel
theorem dC_fitting_6 : decode mC_fitting.2.1 6 = .ok (.istore 5, 2) := by decide +kernel
theorem dC_fitting_8 : decode mC_fitting.2.1 8 = .ok (.iconst 0, 1) := by decide +kernel
theorem dC_fitting_9 : decode mC_fitting.2.1 9 = .ok (.istore 6, 2) := by decide +kernel
theorem dC_fitting_11 : decode mC_fitting.2.1 11 = .ok (.iload 6, 2) := by decide +kernel
theorem dC_fitting_13 : decode mC_fitting.2.1 13 = .ok (.iload_n 3, 1) := by decide +kernel
theorem dC_fitting_14 : decode mC_fitting.2.1 14 = .ok (.if_icmp .ge 37, 3) := by decide +kernel
theorem dC_fitting_17 : decode mC_fitting.2.1 17 = .ok (.aload_n 1, 1) := by decide +kernel
theorem dC_fitting_18 : decode mC_fitting.2.1 18 = .ok (.iload_n 2, 1) := by decide +kernel
theorem dC_fitting_19 : decode mC_fitting.2.1 19 = .ok (.iload 6, 2) := by decide +kernel
theorem dC_fitting_21 : decode mC_fitting.2.1 21 = .ok (.iastore, 1) := by decide +kernel
theorem dC_fitting_22 : decode mC_fitting.2.1 22 = .ok (.aload_n 0, 1) := by decide +kernel
theorem dC_fitting_23 : decode mC_fitting.2.1 23 = .ok (.getfield 49, 3) := by decide +kernel
theorem dC_fitting_26 : decode mC_fitting.2.1 26 = .ok (.aload_n 0, 1) := by decide +kernel
theorem dC_fitting_27 : decode mC_fitting.2.1 27 = .ok (.getfield 12, 3) := by decide +kernel
theorem dC_fitting_30 : decode mC_fitting.2.1 30 = .ok (.invokevirtual 187, 3) := by decide +kernel
theorem dC_fitting_33 : decode mC_fitting.2.1 33 = .ok (.ifCond .eq 12, 3) := by decide +kernel
theorem dC_fitting_36 : decode mC_fitting.2.1 36 = .ok (.iload 5, 2) := by decide +kernel
theorem dC_fitting_38 : decode mC_fitting.2.1 38 = .ok (.iconst 1, 1) := by decide +kernel
theorem dC_fitting_39 : decode mC_fitting.2.1 39 = .ok (.iload 6, 2) := by decide +kernel
theorem dC_fitting_41 : decode mC_fitting.2.1 41 = .ok (.ishl, 1) := by decide +kernel
theorem dC_fitting_42 : decode mC_fitting.2.1 42 = .ok (.ior, 1) := by decide +kernel
theorem dC_fitting_43 : decode mC_fitting.2.1 43 = .ok (.istore 5, 2) := by decide +kernel
theorem dC_fitting_45 : decode mC_fitting.2.1 45 = .ok (.iinc 6 1, 3) := by decide +kernel
theorem dC_fitting_48 : decode mC_fitting.2.1 48 = .ok (.goto (-37), 3) := by decide +kernel
theorem dC_fitting_51 : decode mC_fitting.2.1 51 = .ok (.aload_n 1, 1) := by decide +kernel
theorem dC_fitting_52 : decode mC_fitting.2.1 52 = .ok (.iload_n 2, 1) := by decide +kernel
theorem dC_fitting_53 : decode mC_fitting.2.1 53 = .ok (.iload 4, 2) := by decide +kernel
theorem dC_fitting_55 : decode mC_fitting.2.1 55 = .ok (.iastore, 1) := by decide +kernel
theorem dC_fitting_56 : decode mC_fitting.2.1 56 = .ok (.iload 5, 2) := by decide +kernel
theorem dC_fitting_58 : decode mC_fitting.2.1 58 = .ok (.ireturn, 1) := by decide +kernel
theorem dC_greet_0 : decode mC_greet.2.1 0 = .ok (.aload_n 0, 1) := by decide +kernel
theorem dC_greet_1 : decode mC_greet.2.1 1 = .ok (.getfield 12, 3) := by decide +kernel
theorem dC_greet_4 : decode mC_greet.2.1 4 = .ok (.iload_n 1, 1) := by decide +kernel
theorem dC_greet_5 : decode mC_greet.2.1 5 = .ok (.invokevirtual 101, 3) := by decide +kernel
theorem dC_greet_8 : decode mC_greet.2.1 8 = .ok (.ifCond .ne 5, 3) := by decide +kernel
theorem dC_greet_11 : decode mC_greet.2.1 11 = .ok (.iconst (-1), 1) := by decide +kernel
theorem dC_greet_12 : decode mC_greet.2.1 12 = .ok (.ireturn, 1) := by decide +kernel
theorem dC_greet_13 : decode mC_greet.2.1 13 = .ok (.aload_n 0, 1) := by decide +kernel
theorem dC_greet_14 : decode mC_greet.2.1 14 = .ok (.getfield 12, 3) := by decide +kernel
theorem dC_greet_17 : decode mC_greet.2.1 17 = .ok (.getfield 104, 3) := by decide +kernel
theorem dC_greet_20 : decode mC_greet.2.1 20 = .ok (.iload_n 1, 1) := by decide +kernel
theorem dC_greet_21 : decode mC_greet.2.1 21 = .ok (.iaload, 1) := by decide +kernel
theorem dC_greet_22 : decode mC_greet.2.1 22 = .ok (.iconst 2, 1) := by decide +kernel
theorem dC_greet_23 : decode mC_greet.2.1 23 = .ok (.if_icmp .ne 11, 3) := by decide +kernel
theorem dC_greet_26 : decode mC_greet.2.1 26 = .ok (.aload_n 0, 1) := by decide +kernel
theorem dC_greet_27 : decode mC_greet.2.1 27 = .ok (.iconst 5, 1) := by decide +kernel
theorem dC_greet_28 : decode mC_greet.2.1 28 = .ok (.invokevirtual 232, 3) := by decide +kernel
theorem dC_greet_31 : decode mC_greet.2.1 31 = .ok (.bipush 50, 2) := by decide +kernel
theorem dC_greet_33 : decode mC_greet.2.1 33 = .ok (.ireturn, 1) := by decide +kernel
theorem dC_greet_34 : decode mC_greet.2.1 34 = .ok (.aload_n 0, 1) := by decide +kernel
theorem dC_greet_35 : decode mC_greet.2.1 35 = .ok (.iconst 4, 1) := by decide +kernel
theorem dC_greet_36 : decode mC_greet.2.1 36 = .ok (.invokevirtual 232, 3) := by decide +kernel
theorem dC_greet_39 : decode mC_greet.2.1 39 = .ok (.iload_n 1, 1) := by decide +kernel
theorem dC_greet_40 : decode mC_greet.2.1 40 = .ok (.ireturn, 1) := by decide +kernel
theorem dC_hotel_0 : decode mC_hotel.2.1 0 = .ok (.aload_n 0, 1) := by decide +kernel
theorem dC_hotel_1 : decode mC_hotel.2.1 1 = .ok (.iconst 0, 1) := by decide +kernel
theorem dC_hotel_2 : decode mC_hotel.2.1 2 = .ok (.putfield 53, 3) := by decide +kernel
theorem dC_hotel_5 : decode mC_hotel.2.1 5 = .ok (.aload_n 0, 1) := by decide +kernel
theorem dC_hotel_6 : decode mC_hotel.2.1 6 = .ok (.getfield 21, 3) := by decide +kernel
theorem dC_hotel_9 : decode mC_hotel.2.1 9 = .ok (.iload_n 1, 1) := by decide +kernel
theorem dC_hotel_10 : decode mC_hotel.2.1 10 = .ok (.invokevirtual 57, 3) := by decide +kernel
theorem dC_hotel_13 : decode mC_hotel.2.1 13 = .ok (.ifCond .ne 5, 3) := by decide +kernel
theorem dC_hotel_16 : decode mC_hotel.2.1 16 = .ok (.iconst (-1), 1) := by decide +kernel
theorem dC_hotel_17 : decode mC_hotel.2.1 17 = .ok (.ireturn, 1) := by decide +kernel
theorem dC_hotel_18 : decode mC_hotel.2.1 18 = .ok (.iload_n 2, 1) := by decide +kernel
theorem dC_hotel_19 : decode mC_hotel.2.1 19 = .ok (.invokestatic 61, 3) := by decide +kernel
theorem dC_hotel_22 : decode mC_hotel.2.1 22 = .ok (.ifCond .ne 6, 3) := by decide +kernel
theorem dC_hotel_25 : decode mC_hotel.2.1 25 = .ok (.bipush (-2), 2) := by decide +kernel
theorem dC_hotel_27 : decode mC_hotel.2.1 27 = .ok (.ireturn, 1) := by decide +kernel
theorem dC_hotel_28 : decode mC_hotel.2.1 28 = .ok (.aload_n 0, 1) := by decide +kernel
theorem dC_hotel_29 : decode mC_hotel.2.1 29 = .ok (.getfield 21, 3) := by decide +kernel
theorem dC_hotel_32 : decode mC_hotel.2.1 32 = .ok (.iload_n 1, 1) := by decide +kernel
theorem dC_hotel_33 : decode mC_hotel.2.1 33 = .ok (.iload_n 2, 1) := by decide +kernel
theorem dC_hotel_34 : decode mC_hotel.2.1 34 = .ok (.invokevirtual 64, 3) := by decide +kernel
theorem dC_hotel_37 : decode mC_hotel.2.1 37 = .ok (.istore 5, 2) := by decide +kernel
theorem dC_hotel_39 : decode mC_hotel.2.1 39 = .ok (.iload 5, 2) := by decide +kernel
theorem dC_hotel_41 : decode mC_hotel.2.1 41 = .ok (.ifCond .eq 10, 3) := by decide +kernel
theorem dC_hotel_44 : decode mC_hotel.2.1 44 = .ok (.aload_n 0, 1) := by decide +kernel
theorem dC_hotel_45 : decode mC_hotel.2.1 45 = .ok (.iload 5, 2) := by decide +kernel
theorem dC_hotel_47 : decode mC_hotel.2.1 47 = .ok (.invokevirtual 68, 3) := by decide +kernel
theorem dC_hotel_50 : decode mC_hotel.2.1 50 = .ok (.ireturn, 1) := by decide +kernel
theorem dC_hotel_51 : decode mC_hotel.2.1 51 = .ok (.iload 4, 2) := by decide +kernel
theorem dC_hotel_53 : decode mC_hotel.2.1 53 = .ok (.ifCond .ge 9, 3) := by decide +kernel
theorem dC_hotel_56 : decode mC_hotel.2.1 56 = .ok (.aload_n 0, 1) := by decide +kernel
theorem dC_hotel_57 : decode mC_hotel.2.1 57 = .ok (.iconst 4, 1) := by decide +kernel
theorem dC_hotel_58 : decode mC_hotel.2.1 58 = .ok (.invokevirtual 68, 3) := by decide +kernel
theorem dC_hotel_61 : decode mC_hotel.2.1 61 = .ok (.ireturn, 1) := by decide +kernel
theorem dC_hotel_62 : decode mC_hotel.2.1 62 = .ok (.aload_n 0, 1) := by decide +kernel
theorem dC_hotel_63 : decode mC_hotel.2.1 63 = .ok (.getfield 21, 3) := by decide +kernel
theorem dC_hotel_66 : decode mC_hotel.2.1 66 = .ok (.iload_n 1, 1) := by decide +kernel
theorem dC_hotel_67 : decode mC_hotel.2.1 67 = .ok (.iload_n 3, 1) := by decide +kernel
theorem dC_hotel_68 : decode mC_hotel.2.1 68 = .ok (.iload 4, 2) := by decide +kernel
theorem dC_hotel_70 : decode mC_hotel.2.1 70 = .ok (.invokevirtual 72, 3) := by decide +kernel
theorem dC_hotel_73 : decode mC_hotel.2.1 73 = .ok (.ifCond .ne 9, 3) := by decide +kernel
theorem dC_hotel_76 : decode mC_hotel.2.1 76 = .ok (.aload_n 0, 1) := by decide +kernel
theorem dC_hotel_77 : decode mC_hotel.2.1 77 = .ok (.iconst 3, 1) := by decide +kernel
theorem dC_hotel_78 : decode mC_hotel.2.1 78 = .ok (.invokevirtual 68, 3) := by decide +kernel
theorem dC_hotel_81 : decode mC_hotel.2.1 81 = .ok (.ireturn, 1) := by decide +kernel
theorem dC_hotel_82 : decode mC_hotel.2.1 82 = .ok (.aload_n 0, 1) := by decide +kernel
theorem dC_hotel_83 : decode mC_hotel.2.1 83 = .ok (.getfield 21, 3) := by decide +kernel
theorem dC_hotel_86 : decode mC_hotel.2.1 86 = .ok (.getfield 76, 3) := by decide +kernel
theorem dC_hotel_89 : decode mC_hotel.2.1 89 = .ok (.iload_n 1, 1) := by decide +kernel
theorem dC_hotel_90 : decode mC_hotel.2.1 90 = .ok (.aaload, 1) := by decide +kernel
theorem dC_hotel_91 : decode mC_hotel.2.1 91 = .ok (.astore 6, 2) := by decide +kernel
theorem dC_hotel_93 : decode mC_hotel.2.1 93 = .ok (.aload_n 0, 1) := by decide +kernel
theorem dC_hotel_94 : decode mC_hotel.2.1 94 = .ok (.getfield 28, 3) := by decide +kernel
theorem dC_hotel_97 : decode mC_hotel.2.1 97 = .ok (.aload 6, 2) := by decide +kernel
theorem dC_hotel_99 : decode mC_hotel.2.1 99 = .ok (.iload_n 3, 1) := by decide +kernel
theorem dC_hotel_100 : decode mC_hotel.2.1 100 = .ok (.iload 4, 2) := by decide +kernel
theorem dC_hotel_102 : decode mC_hotel.2.1 102 = .ok (.invokevirtual 80, 3) := by decide +kernel
theorem dC_hotel_105 : decode mC_hotel.2.1 105 = .ok (.ifCond .ne 14, 3) := by decide +kernel
theorem dC_hotel_108 : decode mC_hotel.2.1 108 = .ok (.bipush (-100), 2) := by decide +kernel
theorem dC_hotel_110 : decode mC_hotel.2.1 110 = .ok (.aload_n 0, 1) := by decide +kernel
theorem dC_hotel_111 : decode mC_hotel.2.1 111 = .ok (.getfield 28, 3) := by decide +kernel
theorem dC_hotel_114 : decode mC_hotel.2.1 114 = .ok (.getfield 84, 3) := by decide +kernel
theorem dC_hotel_117 : decode mC_hotel.2.1 117 = .ok (.isub, 1) := by decide +kernel
theorem dC_hotel_118 : decode mC_hotel.2.1 118 = .ok (.ireturn, 1) := by decide +kernel
theorem dC_hotel_119 : decode mC_hotel.2.1 119 = .ok (.aload_n 0, 1) := by decide +kernel
theorem dC_hotel_120 : decode mC_hotel.2.1 120 = .ok (.getfield 12, 3) := by decide +kernel
theorem dC_hotel_123 : decode mC_hotel.2.1 123 = .ok (.aload 6, 2) := by decide +kernel
theorem dC_hotel_125 : decode mC_hotel.2.1 125 = .ok (.iload_n 3, 1) := by decide +kernel
theorem dC_hotel_126 : decode mC_hotel.2.1 126 = .ok (.aload_n 0, 1) := by decide +kernel
theorem dC_hotel_127 : decode mC_hotel.2.1 127 = .ok (.getfield 28, 3) := by decide +kernel
theorem dC_hotel_130 : decode mC_hotel.2.1 130 = .ok (.getfield 87, 3) := by decide +kernel
theorem dC_hotel_133 : decode mC_hotel.2.1 133 = .ok (.aload_n 0, 1) := by decide +kernel
theorem dC_hotel_134 : decode mC_hotel.2.1 134 = .ok (.getfield 28, 3) := by decide +kernel
theorem dC_hotel_137 : decode mC_hotel.2.1 137 = .ok (.getfield 90, 3) := by decide +kernel
theorem dC_hotel_140 : decode mC_hotel.2.1 140 = .ok (.invokevirtual 93, 3) := by decide +kernel
theorem dC_hotel_143 : decode mC_hotel.2.1 143 = .ok (.aload_n 0, 1) := by decide +kernel
theorem dC_hotel_144 : decode mC_hotel.2.1 144 = .ok (.getfield 49, 3) := by decide +kernel
theorem dC_hotel_147 : decode mC_hotel.2.1 147 = .ok (.iconst 0, 1) := by decide +kernel
theorem dC_hotel_148 : decode mC_hotel.2.1 148 = .ok (.putfield 97, 3) := by decide +kernel
theorem dC_hotel_151 : decode mC_hotel.2.1 151 = .ok (.aload_n 0, 1) := by decide +kernel
theorem dC_hotel_152 : decode mC_hotel.2.1 152 = .ok (.getfield 12, 3) := by decide +kernel
theorem dC_hotel_155 : decode mC_hotel.2.1 155 = .ok (.getfield 100, 3) := by decide +kernel
theorem dC_hotel_158 : decode mC_hotel.2.1 158 = .ok (.ireturn, 1) := by decide +kernel
theorem dC_init_0 : decode mC_init.2.1 0 = .ok (.aload_n 0, 1) := by decide +kernel
theorem dC_init_1 : decode mC_init.2.1 1 = .ok (.invokespecial 3, 3) := by decide +kernel
theorem dC_init_4 : decode mC_init.2.1 4 = .ok (.aload_n 0, 1) := by decide +kernel
theorem dC_init_5 : decode mC_init.2.1 5 = .ok (.new 9, 3) := by decide +kernel
theorem dC_init_8 : decode mC_init.2.1 8 = .ok (.dup, 1) := by decide +kernel
theorem dC_init_9 : decode mC_init.2.1 9 = .ok (.invokespecial 11, 3) := by decide +kernel
theorem dC_init_12 : decode mC_init.2.1 12 = .ok (.putfield 12, 3) := by decide +kernel
theorem dC_init_15 : decode mC_init.2.1 15 = .ok (.aload_n 0, 1) := by decide +kernel
theorem dC_init_16 : decode mC_init.2.1 16 = .ok (.new 18, 3) := by decide +kernel
theorem dC_init_19 : decode mC_init.2.1 19 = .ok (.dup, 1) := by decide +kernel
theorem dC_init_20 : decode mC_init.2.1 20 = .ok (.invokespecial 20, 3) := by decide +kernel
theorem dC_init_23 : decode mC_init.2.1 23 = .ok (.putfield 21, 3) := by decide +kernel
theorem dC_init_26 : decode mC_init.2.1 26 = .ok (.aload_n 0, 1) := by decide +kernel
theorem dC_init_27 : decode mC_init.2.1 27 = .ok (.new 25, 3) := by decide +kernel
theorem dC_init_30 : decode mC_init.2.1 30 = .ok (.dup, 1) := by decide +kernel
theorem dC_init_31 : decode mC_init.2.1 31 = .ok (.invokespecial 27, 3) := by decide +kernel
theorem dC_init_34 : decode mC_init.2.1 34 = .ok (.putfield 28, 3) := by decide +kernel
theorem dC_init_37 : decode mC_init.2.1 37 = .ok (.aload_n 0, 1) := by decide +kernel
theorem dC_init_38 : decode mC_init.2.1 38 = .ok (.new 32, 3) := by decide +kernel
theorem dC_init_41 : decode mC_init.2.1 41 = .ok (.dup, 1) := by decide +kernel
theorem dC_init_42 : decode mC_init.2.1 42 = .ok (.invokespecial 34, 3) := by decide +kernel
theorem dC_init_45 : decode mC_init.2.1 45 = .ok (.putfield 35, 3) := by decide +kernel
theorem dC_init_48 : decode mC_init.2.1 48 = .ok (.aload_n 0, 1) := by decide +kernel
theorem dC_init_49 : decode mC_init.2.1 49 = .ok (.new 39, 3) := by decide +kernel
theorem dC_init_52 : decode mC_init.2.1 52 = .ok (.dup, 1) := by decide +kernel
theorem dC_init_53 : decode mC_init.2.1 53 = .ok (.invokespecial 41, 3) := by decide +kernel
theorem dC_init_56 : decode mC_init.2.1 56 = .ok (.putfield 42, 3) := by decide +kernel
theorem dC_init_59 : decode mC_init.2.1 59 = .ok (.aload_n 0, 1) := by decide +kernel
theorem dC_init_60 : decode mC_init.2.1 60 = .ok (.new 46, 3) := by decide +kernel
theorem dC_init_63 : decode mC_init.2.1 63 = .ok (.dup, 1) := by decide +kernel
theorem dC_init_64 : decode mC_init.2.1 64 = .ok (.invokespecial 48, 3) := by decide +kernel
theorem dC_init_67 : decode mC_init.2.1 67 = .ok (.putfield 49, 3) := by decide +kernel
theorem dC_init_70 : decode mC_init.2.1 70 = .ok (.return_, 1) := by decide +kernel
theorem dC_isLane_0 : decode mC_isLane.2.1 0 = .ok (.iload_n 0, 1) := by decide +kernel
theorem dC_isLane_1 : decode mC_isLane.2.1 1 = .ok (.ifCond .lt 12, 3) := by decide +kernel
theorem dC_isLane_4 : decode mC_isLane.2.1 4 = .ok (.iload_n 0, 1) := by decide +kernel
theorem dC_isLane_5 : decode mC_isLane.2.1 5 = .ok (.iconst 3, 1) := by decide +kernel
theorem dC_isLane_6 : decode mC_isLane.2.1 6 = .ok (.if_icmp .ge 7, 3) := by decide +kernel
theorem dC_isLane_9 : decode mC_isLane.2.1 9 = .ok (.iconst 1, 1) := by decide +kernel
theorem dC_isLane_10 : decode mC_isLane.2.1 10 = .ok (.goto 4, 3) := by decide +kernel
theorem dC_isLane_13 : decode mC_isLane.2.1 13 = .ok (.iconst 0, 1) := by decide +kernel
theorem dC_isLane_14 : decode mC_isLane.2.1 14 = .ok (.ireturn, 1) := by decide +kernel
theorem dC_isPairs_0 : decode mC_isPairs.2.1 0 = .ok (.iload_n 0, 1) := by decide +kernel
theorem dC_isPairs_1 : decode mC_isPairs.2.1 1 = .ok (.ifCond .lt 13, 3) := by decide +kernel
theorem dC_isPairs_4 : decode mC_isPairs.2.1 4 = .ok (.iload_n 0, 1) := by decide +kernel
theorem dC_isPairs_5 : decode mC_isPairs.2.1 5 = .ok (.bipush 20, 2) := by decide +kernel
theorem dC_isPairs_7 : decode mC_isPairs.2.1 7 = .ok (.if_icmp .gt 7, 3) := by decide +kernel
theorem dC_isPairs_10 : decode mC_isPairs.2.1 10 = .ok (.iconst 1, 1) := by decide +kernel
theorem dC_isPairs_11 : decode mC_isPairs.2.1 11 = .ok (.goto 4, 3) := by decide +kernel
theorem dC_isPairs_14 : decode mC_isPairs.2.1 14 = .ok (.iconst 0, 1) := by decide +kernel
theorem dC_isPairs_15 : decode mC_isPairs.2.1 15 = .ok (.ireturn, 1) := by decide +kernel
theorem dC_isStars_0 : decode mC_isStars.2.1 0 = .ok (.iload_n 0, 1) := by decide +kernel
theorem dC_isStars_1 : decode mC_isStars.2.1 1 = .ok (.ifCond .lt 12, 3) := by decide +kernel
theorem dC_isStars_4 : decode mC_isStars.2.1 4 = .ok (.iload_n 0, 1) := by decide +kernel
theorem dC_isStars_5 : decode mC_isStars.2.1 5 = .ok (.iconst 5, 1) := by decide +kernel
theorem dC_isStars_6 : decode mC_isStars.2.1 6 = .ok (.if_icmp .gt 7, 3) := by decide +kernel
theorem dC_isStars_9 : decode mC_isStars.2.1 9 = .ok (.iconst 1, 1) := by decide +kernel
theorem dC_isStars_10 : decode mC_isStars.2.1 10 = .ok (.goto 4, 3) := by decide +kernel
theorem dC_isStars_13 : decode mC_isStars.2.1 13 = .ok (.iconst 0, 1) := by decide +kernel
theorem dC_isStars_14 : decode mC_isStars.2.1 14 = .ok (.ireturn, 1) := by decide +kernel
theorem dC_kinds_0 : decode mC_kinds.2.1 0 = .ok (.aload_n 0, 1) := by decide +kernel
theorem dC_kinds_1 : decode mC_kinds.2.1 1 = .ok (.getfield 12, 3) := by decide +kernel
theorem dC_kinds_4 : decode mC_kinds.2.1 4 = .ok (.iload_n 1, 1) := by decide +kernel
theorem dC_kinds_5 : decode mC_kinds.2.1 5 = .ok (.invokevirtual 101, 3) := by decide +kernel
theorem dC_kinds_8 : decode mC_kinds.2.1 8 = .ok (.ifCond .ne 5, 3) := by decide +kernel
theorem dC_kinds_11 : decode mC_kinds.2.1 11 = .ok (.iconst (-1), 1) := by decide +kernel
theorem dC_kinds_12 : decode mC_kinds.2.1 12 = .ok (.ireturn, 1) := by decide +kernel
theorem dC_kinds_13 : decode mC_kinds.2.1 13 = .ok (.aload_n 0, 1) := by decide +kernel
theorem dC_kinds_14 : decode mC_kinds.2.1 14 = .ok (.aload_n 0, 1) := by decide +kernel
theorem dC_kinds_15 : decode mC_kinds.2.1 15 = .ok (.getfield 12, 3) := by decide +kernel
theorem dC_kinds_18 : decode mC_kinds.2.1 18 = .ok (.getfield 104, 3) := by decide +kernel
theorem dC_kinds_21 : decode mC_kinds.2.1 21 = .ok (.iload_n 1, 1) := by decide +kernel
theorem dC_kinds_22 : decode mC_kinds.2.1 22 = .ok (.iconst 3, 1) := by decide +kernel
theorem dC_kinds_23 : decode mC_kinds.2.1 23 = .ok (.invokevirtual 190, 3) := by decide +kernel
theorem dC_kinds_26 : decode mC_kinds.2.1 26 = .ok (.ireturn, 1) := by decide +kernel
theorem dC_leave_0 : decode mC_leave.2.1 0 = .ok (.aload_n 0, 1) := by decide +kernel
theorem dC_leave_1 : decode mC_leave.2.1 1 = .ok (.bipush 31, 2) := by decide +kernel
theorem dC_leave_3 : decode mC_leave.2.1 3 = .ok (.aload_n 0, 1) := by decide +kernel
theorem dC_leave_4 : decode mC_leave.2.1 4 = .ok (.getfield 236, 3) := by decide +kernel
theorem dC_leave_7 : decode mC_leave.2.1 7 = .ok (.imul, 1) := by decide +kernel
theorem dC_leave_8 : decode mC_leave.2.1 8 = .ok (.iload_n 1, 1) := by decide +kernel
theorem dC_leave_9 : decode mC_leave.2.1 9 = .ok (.iadd, 1) := by decide +kernel
theorem dC_leave_10 : decode mC_leave.2.1 10 = .ok (.putfield 236, 3) := by decide +kernel
theorem dC_leave_13 : decode mC_leave.2.1 13 = .ok (.return_, 1) := by decide +kernel
theorem dC_limits_0 : decode mC_limits.2.1 0 = .ok (.aload_n 0, 1) := by decide +kernel
theorem dC_limits_1 : decode mC_limits.2.1 1 = .ok (.getfield 12, 3) := by decide +kernel
theorem dC_limits_4 : decode mC_limits.2.1 4 = .ok (.invokevirtual 126, 3) := by decide +kernel
theorem dC_limits_7 : decode mC_limits.2.1 7 = .ok (.ifCond .ne 6, 3) := by decide +kernel
theorem dC_limits_10 : decode mC_limits.2.1 10 = .ok (.bipush (-3), 2) := by decide +kernel
theorem dC_limits_12 : decode mC_limits.2.1 12 = .ok (.ireturn, 1) := by decide +kernel
theorem dC_limits_13 : decode mC_limits.2.1 13 = .ok (.aload_n 0, 1) := by decide +kernel
theorem dC_limits_14 : decode mC_limits.2.1 14 = .ok (.getfield 12, 3) := by decide +kernel
theorem dC_limits_17 : decode mC_limits.2.1 17 = .ok (.getfield 130, 3) := by decide +kernel
theorem dC_limits_20 : decode mC_limits.2.1 20 = .ok (.istore_n 1, 1) := by decide +kernel
theorem dC_limits_21 : decode mC_limits.2.1 21 = .ok (.iconst 0, 1) := by decide +kernel
theorem dC_limits_22 : decode mC_limits.2.1 22 = .ok (.istore_n 2, 1) := by decide +kernel
theorem dC_limits_23 : decode mC_limits.2.1 23 = .ok (.iconst 1, 1) := by decide +kernel
theorem dC_limits_24 : decode mC_limits.2.1 24 = .ok (.istore_n 3, 1) := by decide +kernel
theorem dC_limits_25 : decode mC_limits.2.1 25 = .ok (.iload_n 3, 1) := by decide +kernel
theorem dC_limits_26 : decode mC_limits.2.1 26 = .ok (.bipush 9, 2) := by decide +kernel
theorem dC_limits_28 : decode mC_limits.2.1 28 = .ok (.if_icmp .gt 37, 3) := by decide +kernel
theorem dC_limits_31 : decode mC_limits.2.1 31 = .ok (.aload_n 0, 1) := by decide +kernel
theorem dC_limits_32 : decode mC_limits.2.1 32 = .ok (.getfield 12, 3) := by decide +kernel
theorem dC_limits_35 : decode mC_limits.2.1 35 = .ok (.iload_n 3, 1) := by decide +kernel
theorem dC_limits_36 : decode mC_limits.2.1 36 = .ok (.putfield 130, 3) := by decide +kernel
theorem dC_limits_39 : decode mC_limits.2.1 39 = .ok (.aload_n 0, 1) := by decide +kernel
theorem dC_limits_40 : decode mC_limits.2.1 40 = .ok (.getfield 49, 3) := by decide +kernel
theorem dC_limits_43 : decode mC_limits.2.1 43 = .ok (.aload_n 0, 1) := by decide +kernel
theorem dC_limits_44 : decode mC_limits.2.1 44 = .ok (.getfield 12, 3) := by decide +kernel
theorem dC_limits_47 : decode mC_limits.2.1 47 = .ok (.invokevirtual 187, 3) := by decide +kernel
theorem dC_limits_50 : decode mC_limits.2.1 50 = .ok (.ifCond .eq 9, 3) := by decide +kernel
theorem dC_limits_53 : decode mC_limits.2.1 53 = .ok (.iload_n 2, 1) := by decide +kernel
theorem dC_limits_54 : decode mC_limits.2.1 54 = .ok (.iconst 1, 1) := by decide +kernel
theorem dC_limits_55 : decode mC_limits.2.1 55 = .ok (.iload_n 3, 1) := by decide +kernel
theorem dC_limits_56 : decode mC_limits.2.1 56 = .ok (.ishl, 1) := by decide +kernel
theorem dC_limits_57 : decode mC_limits.2.1 57 = .ok (.ior, 1) := by decide +kernel
theorem dC_limits_58 : decode mC_limits.2.1 58 = .ok (.istore_n 2, 1) := by decide +kernel
theorem dC_limits_59 : decode mC_limits.2.1 59 = .ok (.iinc 3 1, 3) := by decide +kernel
theorem dC_limits_62 : decode mC_limits.2.1 62 = .ok (.goto (-37), 3) := by decide +kernel
theorem dC_limits_65 : decode mC_limits.2.1 65 = .ok (.aload_n 0, 1) := by decide +kernel
theorem dC_limits_66 : decode mC_limits.2.1 66 = .ok (.getfield 12, 3) := by decide +kernel
theorem dC_limits_69 : decode mC_limits.2.1 69 = .ok (.iload_n 1, 1) := by decide +kernel
theorem dC_limits_70 : decode mC_limits.2.1 70 = .ok (.putfield 130, 3) := by decide +kernel
theorem dC_limits_73 : decode mC_limits.2.1 73 = .ok (.iload_n 2, 1) := by decide +kernel
theorem dC_limits_74 : decode mC_limits.2.1 74 = .ok (.ireturn, 1) := by decide +kernel
theorem dC_lose_0 : decode mC_lose.2.1 0 = .ok (.aload_n 0, 1) := by decide +kernel
theorem dC_lose_1 : decode mC_lose.2.1 1 = .ok (.getfield 21, 3) := by decide +kernel
theorem dC_lose_4 : decode mC_lose.2.1 4 = .ok (.iload_n 1, 1) := by decide +kernel
theorem dC_lose_5 : decode mC_lose.2.1 5 = .ok (.invokevirtual 57, 3) := by decide +kernel
theorem dC_lose_8 : decode mC_lose.2.1 8 = .ok (.ifCond .ne 5, 3) := by decide +kernel
theorem dC_lose_11 : decode mC_lose.2.1 11 = .ok (.iconst (-1), 1) := by decide +kernel
theorem dC_lose_12 : decode mC_lose.2.1 12 = .ok (.ireturn, 1) := by decide +kernel
theorem dC_lose_13 : decode mC_lose.2.1 13 = .ok (.aload_n 0, 1) := by decide +kernel
theorem dC_lose_14 : decode mC_lose.2.1 14 = .ok (.getfield 21, 3) := by decide +kernel
theorem dC_lose_17 : decode mC_lose.2.1 17 = .ok (.getfield 203, 3) := by decide +kernel
theorem dC_lose_20 : decode mC_lose.2.1 20 = .ok (.iload_n 1, 1) := by decide +kernel
theorem dC_lose_21 : decode mC_lose.2.1 21 = .ok (.baload, 1) := by decide +kernel
theorem dC_lose_22 : decode mC_lose.2.1 22 = .ok (.ifCond .eq 7, 3) := by decide +kernel
theorem dC_lose_25 : decode mC_lose.2.1 25 = .ok (.iconst 1, 1) := by decide +kernel
theorem dC_lose_26 : decode mC_lose.2.1 26 = .ok (.goto 4, 3) := by decide +kernel
theorem dC_lose_29 : decode mC_lose.2.1 29 = .ok (.iconst 0, 1) := by decide +kernel
theorem dC_lose_30 : decode mC_lose.2.1 30 = .ok (.istore_n 2, 1) := by decide +kernel
theorem dC_lose_31 : decode mC_lose.2.1 31 = .ok (.aload_n 0, 1) := by decide +kernel
theorem dC_lose_32 : decode mC_lose.2.1 32 = .ok (.getfield 21, 3) := by decide +kernel
theorem dC_lose_35 : decode mC_lose.2.1 35 = .ok (.getfield 203, 3) := by decide +kernel
theorem dC_lose_38 : decode mC_lose.2.1 38 = .ok (.iload_n 1, 1) := by decide +kernel
theorem dC_lose_39 : decode mC_lose.2.1 39 = .ok (.iconst 0, 1) := by decide +kernel
theorem dC_lose_40 : decode mC_lose.2.1 40 = .ok (.bastore, 1) := by decide +kernel
theorem dC_lose_41 : decode mC_lose.2.1 41 = .ok (.iload_n 2, 1) := by decide +kernel
theorem dC_lose_42 : decode mC_lose.2.1 42 = .ok (.ireturn, 1) := by decide +kernel
theorem dC_many_0 : decode mC_many.2.1 0 = .ok (.iload_n 1, 1) := by decide +kernel
theorem dC_many_1 : decode mC_many.2.1 1 = .ok (.tableswitch 75 0 4 #[35, 43, 51, 59, 67], 35) := by decide +kernel
theorem dC_many_36 : decode mC_many.2.1 36 = .ok (.aload_n 0, 1) := by decide +kernel
theorem dC_many_37 : decode mC_many.2.1 37 = .ok (.getfield 12, 3) := by decide +kernel
theorem dC_many_40 : decode mC_many.2.1 40 = .ok (.getfield 100, 3) := by decide +kernel
theorem dC_many_43 : decode mC_many.2.1 43 = .ok (.ireturn, 1) := by decide +kernel
theorem dC_many_44 : decode mC_many.2.1 44 = .ok (.aload_n 0, 1) := by decide +kernel
theorem dC_many_45 : decode mC_many.2.1 45 = .ok (.getfield 12, 3) := by decide +kernel
theorem dC_many_48 : decode mC_many.2.1 48 = .ok (.getfield 169, 3) := by decide +kernel
theorem dC_many_51 : decode mC_many.2.1 51 = .ok (.ireturn, 1) := by decide +kernel
theorem dC_many_52 : decode mC_many.2.1 52 = .ok (.aload_n 0, 1) := by decide +kernel
theorem dC_many_53 : decode mC_many.2.1 53 = .ok (.getfield 12, 3) := by decide +kernel
theorem dC_many_56 : decode mC_many.2.1 56 = .ok (.getfield 136, 3) := by decide +kernel
theorem dC_many_59 : decode mC_many.2.1 59 = .ok (.ireturn, 1) := by decide +kernel
theorem dC_many_60 : decode mC_many.2.1 60 = .ok (.aload_n 0, 1) := by decide +kernel
theorem dC_many_61 : decode mC_many.2.1 61 = .ok (.getfield 12, 3) := by decide +kernel
theorem dC_many_64 : decode mC_many.2.1 64 = .ok (.getfield 130, 3) := by decide +kernel
theorem dC_many_67 : decode mC_many.2.1 67 = .ok (.ireturn, 1) := by decide +kernel
theorem dC_many_68 : decode mC_many.2.1 68 = .ok (.aload_n 0, 1) := by decide +kernel
theorem dC_many_69 : decode mC_many.2.1 69 = .ok (.getfield 49, 3) := by decide +kernel
theorem dC_many_72 : decode mC_many.2.1 72 = .ok (.getfield 97, 3) := by decide +kernel
theorem dC_many_75 : decode mC_many.2.1 75 = .ok (.ireturn, 1) := by decide +kernel
theorem dC_many_76 : decode mC_many.2.1 76 = .ok (.bipush (-2), 2) := by decide +kernel
theorem dC_many_78 : decode mC_many.2.1 78 = .ok (.ireturn, 1) := by decide +kernel
theorem dC_may_0 : decode mC_may.2.1 0 = .ok (.aload_n 0, 1) := by decide +kernel
theorem dC_may_1 : decode mC_may.2.1 1 = .ok (.iconst 0, 1) := by decide +kernel
theorem dC_may_2 : decode mC_may.2.1 2 = .ok (.putfield 53, 3) := by decide +kernel
theorem dC_may_5 : decode mC_may.2.1 5 = .ok (.aload_n 0, 1) := by decide +kernel
theorem dC_may_6 : decode mC_may.2.1 6 = .ok (.iload_n 1, 1) := by decide +kernel
theorem dC_may_7 : decode mC_may.2.1 7 = .ok (.iload_n 2, 1) := by decide +kernel
theorem dC_may_8 : decode mC_may.2.1 8 = .ok (.iload_n 3, 1) := by decide +kernel
theorem dC_may_9 : decode mC_may.2.1 9 = .ok (.iload 4, 2) := by decide +kernel
theorem dC_may_11 : decode mC_may.2.1 11 = .ok (.iload 5, 2) := by decide +kernel
theorem dC_may_13 : decode mC_may.2.1 13 = .ok (.invokevirtual 165, 3) := by decide +kernel
theorem dC_may_16 : decode mC_may.2.1 16 = .ok (.istore 6, 2) := by decide +kernel
theorem dC_may_18 : decode mC_may.2.1 18 = .ok (.iload 6, 2) := by decide +kernel
theorem dC_may_20 : decode mC_may.2.1 20 = .ok (.ifCond .eq 6, 3) := by decide +kernel
theorem dC_may_23 : decode mC_may.2.1 23 = .ok (.iload 6, 2) := by decide +kernel
theorem dC_may_25 : decode mC_may.2.1 25 = .ok (.ireturn, 1) := by decide +kernel
theorem dC_may_26 : decode mC_may.2.1 26 = .ok (.aload_n 0, 1) := by decide +kernel
theorem dC_may_27 : decode mC_may.2.1 27 = .ok (.getfield 21, 3) := by decide +kernel
theorem dC_may_30 : decode mC_may.2.1 30 = .ok (.getfield 76, 3) := by decide +kernel
theorem dC_may_33 : decode mC_may.2.1 33 = .ok (.iload_n 1, 1) := by decide +kernel
theorem dC_may_34 : decode mC_may.2.1 34 = .ok (.aaload, 1) := by decide +kernel
theorem dC_may_35 : decode mC_may.2.1 35 = .ok (.astore 7, 2) := by decide +kernel
theorem dC_may_37 : decode mC_may.2.1 37 = .ok (.iconst 0, 1) := by decide +kernel
theorem dC_may_38 : decode mC_may.2.1 38 = .ok (.istore 8, 2) := by decide +kernel
theorem dC_may_40 : decode mC_may.2.1 40 = .ok (.iconst 0, 1) := by decide +kernel
theorem dC_may_41 : decode mC_may.2.1 41 = .ok (.istore 9, 2) := by decide +kernel
theorem dC_may_43 : decode mC_may.2.1 43 = .ok (.iload 9, 2) := by decide +kernel
theorem dC_may_45 : decode mC_may.2.1 45 = .ok (.aload_n 0, 1) := by decide +kernel
theorem dC_may_46 : decode mC_may.2.1 46 = .ok (.getfield 12, 3) := by decide +kernel
theorem dC_may_49 : decode mC_may.2.1 49 = .ok (.getfield 100, 3) := by decide +kernel
theorem dC_may_52 : decode mC_may.2.1 52 = .ok (.if_icmp .ge 71, 3) := by decide +kernel
theorem dC_may_55 : decode mC_may.2.1 55 = .ok (.aload_n 0, 1) := by decide +kernel
theorem dC_may_56 : decode mC_may.2.1 56 = .ok (.getfield 35, 3) := by decide +kernel
theorem dC_may_59 : decode mC_may.2.1 59 = .ok (.aload_n 0, 1) := by decide +kernel
theorem dC_may_60 : decode mC_may.2.1 60 = .ok (.getfield 12, 3) := by decide +kernel
theorem dC_may_63 : decode mC_may.2.1 63 = .ok (.aload 7, 2) := by decide +kernel
theorem dC_may_65 : decode mC_may.2.1 65 = .ok (.iload_n 3, 1) := by decide +kernel
theorem dC_may_66 : decode mC_may.2.1 66 = .ok (.iload 4, 2) := by decide +kernel
theorem dC_may_68 : decode mC_may.2.1 68 = .ok (.iload 9, 2) := by decide +kernel
theorem dC_may_70 : decode mC_may.2.1 70 = .ok (.invokevirtual 149, 3) := by decide +kernel
theorem dC_may_73 : decode mC_may.2.1 73 = .ok (.aload_n 0, 1) := by decide +kernel
theorem dC_may_74 : decode mC_may.2.1 74 = .ok (.getfield 35, 3) := by decide +kernel
theorem dC_may_77 : decode mC_may.2.1 77 = .ok (.getfield 153, 3) := by decide +kernel
theorem dC_may_80 : decode mC_may.2.1 80 = .ok (.bipush (-9), 2) := by decide +kernel
theorem dC_may_82 : decode mC_may.2.1 82 = .ok (.if_icmp .eq 14, 3) := by decide +kernel
theorem dC_may_85 : decode mC_may.2.1 85 = .ok (.bipush (-100), 2) := by decide +kernel
theorem dC_may_87 : decode mC_may.2.1 87 = .ok (.aload_n 0, 1) := by decide +kernel
theorem dC_may_88 : decode mC_may.2.1 88 = .ok (.getfield 35, 3) := by decide +kernel
theorem dC_may_91 : decode mC_may.2.1 91 = .ok (.getfield 153, 3) := by decide +kernel
theorem dC_may_94 : decode mC_may.2.1 94 = .ok (.isub, 1) := by decide +kernel
theorem dC_may_95 : decode mC_may.2.1 95 = .ok (.ireturn, 1) := by decide +kernel
theorem dC_may_96 : decode mC_may.2.1 96 = .ok (.aload_n 0, 1) := by decide +kernel
theorem dC_may_97 : decode mC_may.2.1 97 = .ok (.getfield 35, 3) := by decide +kernel
theorem dC_may_100 : decode mC_may.2.1 100 = .ok (.getfield 156, 3) := by decide +kernel
theorem dC_may_103 : decode mC_may.2.1 103 = .ok (.iload 5, 2) := by decide +kernel
theorem dC_may_105 : decode mC_may.2.1 105 = .ok (.if_icmp .ne 12, 3) := by decide +kernel
theorem dC_may_108 : decode mC_may.2.1 108 = .ok (.iload 8, 2) := by decide +kernel
theorem dC_may_110 : decode mC_may.2.1 110 = .ok (.iconst 1, 1) := by decide +kernel
theorem dC_may_111 : decode mC_may.2.1 111 = .ok (.iload 9, 2) := by decide +kernel
theorem dC_may_113 : decode mC_may.2.1 113 = .ok (.ishl, 1) := by decide +kernel
theorem dC_may_114 : decode mC_may.2.1 114 = .ok (.ior, 1) := by decide +kernel
theorem dC_may_115 : decode mC_may.2.1 115 = .ok (.istore 8, 2) := by decide +kernel
theorem dC_may_117 : decode mC_may.2.1 117 = .ok (.iinc 9 1, 3) := by decide +kernel
theorem dC_may_120 : decode mC_may.2.1 120 = .ok (.goto (-77), 3) := by decide +kernel
theorem dC_may_123 : decode mC_may.2.1 123 = .ok (.iload 8, 2) := by decide +kernel
theorem dC_may_125 : decode mC_may.2.1 125 = .ok (.ireturn, 1) := by decide +kernel
theorem dC_odds_0 : decode mC_odds.2.1 0 = .ok (.aload_n 0, 1) := by decide +kernel
theorem dC_odds_1 : decode mC_odds.2.1 1 = .ok (.iconst 0, 1) := by decide +kernel
theorem dC_odds_2 : decode mC_odds.2.1 2 = .ok (.putfield 53, 3) := by decide +kernel
theorem dC_odds_5 : decode mC_odds.2.1 5 = .ok (.aload_n 0, 1) := by decide +kernel
theorem dC_odds_6 : decode mC_odds.2.1 6 = .ok (.iload_n 1, 1) := by decide +kernel
theorem dC_odds_7 : decode mC_odds.2.1 7 = .ok (.iload_n 2, 1) := by decide +kernel
theorem dC_odds_8 : decode mC_odds.2.1 8 = .ok (.iload_n 3, 1) := by decide +kernel
theorem dC_odds_9 : decode mC_odds.2.1 9 = .ok (.iload 4, 2) := by decide +kernel
theorem dC_odds_11 : decode mC_odds.2.1 11 = .ok (.iload 5, 2) := by decide +kernel
theorem dC_odds_13 : decode mC_odds.2.1 13 = .ok (.invokevirtual 165, 3) := by decide +kernel
theorem dC_odds_16 : decode mC_odds.2.1 16 = .ok (.ifCond .eq 7, 3) := by decide +kernel
theorem dC_odds_19 : decode mC_odds.2.1 19 = .ok (.ldc2_w 194, 3) := by decide +kernel
theorem dC_odds_22 : decode mC_odds.2.1 22 = .ok (.lreturn, 1) := by decide +kernel
theorem dC_odds_23 : decode mC_odds.2.1 23 = .ok (.iload 6, 2) := by decide +kernel
theorem dC_odds_25 : decode mC_odds.2.1 25 = .ok (.ifCond .lt 9, 3) := by decide +kernel
theorem dC_odds_28 : decode mC_odds.2.1 28 = .ok (.iload 6, 2) := by decide +kernel
theorem dC_odds_30 : decode mC_odds.2.1 30 = .ok (.iconst 1, 1) := by decide +kernel
theorem dC_odds_31 : decode mC_odds.2.1 31 = .ok (.if_icmp .le 7, 3) := by decide +kernel
theorem dC_odds_34 : decode mC_odds.2.1 34 = .ok (.ldc2_w 194, 3) := by decide +kernel
theorem dC_odds_37 : decode mC_odds.2.1 37 = .ok (.lreturn, 1) := by decide +kernel
theorem dC_odds_38 : decode mC_odds.2.1 38 = .ok (.aload_n 0, 1) := by decide +kernel
theorem dC_odds_39 : decode mC_odds.2.1 39 = .ok (.getfield 21, 3) := by decide +kernel
theorem dC_odds_42 : decode mC_odds.2.1 42 = .ok (.getfield 76, 3) := by decide +kernel
theorem dC_odds_45 : decode mC_odds.2.1 45 = .ok (.iload_n 1, 1) := by decide +kernel
theorem dC_odds_46 : decode mC_odds.2.1 46 = .ok (.aaload, 1) := by decide +kernel
theorem dC_odds_47 : decode mC_odds.2.1 47 = .ok (.astore 7, 2) := by decide +kernel
theorem dC_odds_49 : decode mC_odds.2.1 49 = .ok (.iconst 0, 1) := by decide +kernel
theorem dC_odds_50 : decode mC_odds.2.1 50 = .ok (.istore 8, 2) := by decide +kernel
theorem dC_odds_52 : decode mC_odds.2.1 52 = .ok (.iconst 0, 1) := by decide +kernel
theorem dC_odds_53 : decode mC_odds.2.1 53 = .ok (.istore 9, 2) := by decide +kernel
theorem dC_odds_55 : decode mC_odds.2.1 55 = .ok (.iload 9, 2) := by decide +kernel
theorem dC_odds_57 : decode mC_odds.2.1 57 = .ok (.aload_n 0, 1) := by decide +kernel
theorem dC_odds_58 : decode mC_odds.2.1 58 = .ok (.getfield 12, 3) := by decide +kernel
theorem dC_odds_61 : decode mC_odds.2.1 61 = .ok (.getfield 100, 3) := by decide +kernel
theorem dC_odds_64 : decode mC_odds.2.1 64 = .ok (.if_icmp .ge 58, 3) := by decide +kernel
theorem dC_odds_67 : decode mC_odds.2.1 67 = .ok (.aload_n 0, 1) := by decide +kernel
theorem dC_odds_68 : decode mC_odds.2.1 68 = .ok (.getfield 35, 3) := by decide +kernel
theorem dC_odds_71 : decode mC_odds.2.1 71 = .ok (.aload_n 0, 1) := by decide +kernel
theorem dC_odds_72 : decode mC_odds.2.1 72 = .ok (.getfield 12, 3) := by decide +kernel
theorem dC_odds_75 : decode mC_odds.2.1 75 = .ok (.aload 7, 2) := by decide +kernel
theorem dC_odds_77 : decode mC_odds.2.1 77 = .ok (.iload_n 3, 1) := by decide +kernel
theorem dC_odds_78 : decode mC_odds.2.1 78 = .ok (.iload 4, 2) := by decide +kernel
theorem dC_odds_80 : decode mC_odds.2.1 80 = .ok (.iload 9, 2) := by decide +kernel
theorem dC_odds_82 : decode mC_odds.2.1 82 = .ok (.invokevirtual 149, 3) := by decide +kernel
theorem dC_odds_85 : decode mC_odds.2.1 85 = .ok (.aload_n 0, 1) := by decide +kernel
theorem dC_odds_86 : decode mC_odds.2.1 86 = .ok (.getfield 35, 3) := by decide +kernel
theorem dC_odds_89 : decode mC_odds.2.1 89 = .ok (.getfield 153, 3) := by decide +kernel
theorem dC_odds_92 : decode mC_odds.2.1 92 = .ok (.bipush (-9), 2) := by decide +kernel
theorem dC_odds_94 : decode mC_odds.2.1 94 = .ok (.if_icmp .eq 7, 3) := by decide +kernel
theorem dC_odds_97 : decode mC_odds.2.1 97 = .ok (.ldc2_w 194, 3) := by decide +kernel
theorem dC_odds_100 : decode mC_odds.2.1 100 = .ok (.lreturn, 1) := by decide +kernel
theorem dC_odds_101 : decode mC_odds.2.1 101 = .ok (.aload_n 0, 1) := by decide +kernel
theorem dC_odds_102 : decode mC_odds.2.1 102 = .ok (.getfield 35, 3) := by decide +kernel
theorem dC_odds_105 : decode mC_odds.2.1 105 = .ok (.getfield 156, 3) := by decide +kernel
theorem dC_odds_108 : decode mC_odds.2.1 108 = .ok (.iload 5, 2) := by decide +kernel
theorem dC_odds_110 : decode mC_odds.2.1 110 = .ok (.if_icmp .lt 6, 3) := by decide +kernel
theorem dC_odds_113 : decode mC_odds.2.1 113 = .ok (.iinc 8 1, 3) := by decide +kernel
theorem dC_odds_116 : decode mC_odds.2.1 116 = .ok (.iinc 9 1, 3) := by decide +kernel
theorem dC_odds_119 : decode mC_odds.2.1 119 = .ok (.goto (-64), 3) := by decide +kernel
theorem dC_odds_122 : decode mC_odds.2.1 122 = .ok (.iload 8, 2) := by decide +kernel
theorem dC_odds_124 : decode mC_odds.2.1 124 = .ok (.aload_n 0, 1) := by decide +kernel
theorem dC_odds_125 : decode mC_odds.2.1 125 = .ok (.getfield 12, 3) := by decide +kernel
theorem dC_odds_128 : decode mC_odds.2.1 128 = .ok (.getfield 100, 3) := by decide +kernel
theorem dC_odds_131 : decode mC_odds.2.1 131 = .ok (.invokestatic 196, 3) := by decide +kernel
theorem dC_odds_134 : decode mC_odds.2.1 134 = .ok (.istore 9, 2) := by decide +kernel
theorem dC_odds_136 : decode mC_odds.2.1 136 = .ok (.iload 9, 2) := by decide +kernel
theorem dC_odds_138 : decode mC_odds.2.1 138 = .ok (.ifCond .ne 7, 3) := by decide +kernel
theorem dC_odds_141 : decode mC_odds.2.1 141 = .ok (.ldc2_w 194, 3) := by decide +kernel
theorem dC_odds_144 : decode mC_odds.2.1 144 = .ok (.lreturn, 1) := by decide +kernel
theorem dC_odds_145 : decode mC_odds.2.1 145 = .ok (.iload 6, 2) := by decide +kernel
theorem dC_odds_147 : decode mC_odds.2.1 147 = .ok (.ifCond .ne 12, 3) := by decide +kernel
theorem dC_odds_150 : decode mC_odds.2.1 150 = .ok (.iload 8, 2) := by decide +kernel
theorem dC_odds_152 : decode mC_odds.2.1 152 = .ok (.iload 9, 2) := by decide +kernel
theorem dC_odds_154 : decode mC_odds.2.1 154 = .ok (.idiv, 1) := by decide +kernel
theorem dC_odds_155 : decode mC_odds.2.1 155 = .ok (.i2l, 1) := by decide +kernel
theorem dC_odds_156 : decode mC_odds.2.1 156 = .ok (.goto 14, 3) := by decide +kernel
theorem dC_odds_159 : decode mC_odds.2.1 159 = .ok (.aload_n 0, 1) := by decide +kernel
theorem dC_odds_160 : decode mC_odds.2.1 160 = .ok (.getfield 12, 3) := by decide +kernel
theorem dC_odds_163 : decode mC_odds.2.1 163 = .ok (.getfield 100, 3) := by decide +kernel
theorem dC_odds_166 : decode mC_odds.2.1 166 = .ok (.iload 9, 2) := by decide +kernel
theorem dC_odds_168 : decode mC_odds.2.1 168 = .ok (.idiv, 1) := by decide +kernel
theorem dC_odds_169 : decode mC_odds.2.1 169 = .ok (.i2l, 1) := by decide +kernel
theorem dC_odds_170 : decode mC_odds.2.1 170 = .ok (.lreturn, 1) := by decide +kernel
theorem dC_ofDoing_0 : decode mC_ofDoing.2.1 0 = .ok (.aload_n 0, 1) := by decide +kernel
theorem dC_ofDoing_1 : decode mC_ofDoing.2.1 1 = .ok (.getfield 12, 3) := by decide +kernel
theorem dC_ofDoing_4 : decode mC_ofDoing.2.1 4 = .ok (.iload_n 1, 1) := by decide +kernel
theorem dC_ofDoing_5 : decode mC_ofDoing.2.1 5 = .ok (.invokevirtual 114, 3) := by decide +kernel
theorem dC_ofDoing_8 : decode mC_ofDoing.2.1 8 = .ok (.ifCond .ne 5, 3) := by decide +kernel
theorem dC_ofDoing_11 : decode mC_ofDoing.2.1 11 = .ok (.iconst (-1), 1) := by decide +kernel
theorem dC_ofDoing_12 : decode mC_ofDoing.2.1 12 = .ok (.ireturn, 1) := by decide +kernel
theorem dC_ofDoing_13 : decode mC_ofDoing.2.1 13 = .ok (.iload_n 2, 1) := by decide +kernel
theorem dC_ofDoing_14 : decode mC_ofDoing.2.1 14 = .ok (.tableswitch 55 0 2 #[26, 36, 46], 26) := by decide +kernel
theorem dC_ofDoing_40 : decode mC_ofDoing.2.1 40 = .ok (.aload_n 0, 1) := by decide +kernel
theorem dC_ofDoing_41 : decode mC_ofDoing.2.1 41 = .ok (.getfield 12, 3) := by decide +kernel
theorem dC_ofDoing_44 : decode mC_ofDoing.2.1 44 = .ok (.getfield 117, 3) := by decide +kernel
theorem dC_ofDoing_47 : decode mC_ofDoing.2.1 47 = .ok (.iload_n 1, 1) := by decide +kernel
theorem dC_ofDoing_48 : decode mC_ofDoing.2.1 48 = .ok (.iaload, 1) := by decide +kernel
theorem dC_ofDoing_49 : decode mC_ofDoing.2.1 49 = .ok (.ireturn, 1) := by decide +kernel
theorem dC_ofDoing_50 : decode mC_ofDoing.2.1 50 = .ok (.aload_n 0, 1) := by decide +kernel
theorem dC_ofDoing_51 : decode mC_ofDoing.2.1 51 = .ok (.getfield 12, 3) := by decide +kernel
theorem dC_ofDoing_54 : decode mC_ofDoing.2.1 54 = .ok (.getfield 120, 3) := by decide +kernel
theorem dC_ofDoing_57 : decode mC_ofDoing.2.1 57 = .ok (.iload_n 1, 1) := by decide +kernel
theorem dC_ofDoing_58 : decode mC_ofDoing.2.1 58 = .ok (.iaload, 1) := by decide +kernel
theorem dC_ofDoing_59 : decode mC_ofDoing.2.1 59 = .ok (.ireturn, 1) := by decide +kernel
theorem dC_ofDoing_60 : decode mC_ofDoing.2.1 60 = .ok (.aload_n 0, 1) := by decide +kernel
theorem dC_ofDoing_61 : decode mC_ofDoing.2.1 61 = .ok (.getfield 12, 3) := by decide +kernel
theorem dC_ofDoing_64 : decode mC_ofDoing.2.1 64 = .ok (.iload_n 1, 1) := by decide +kernel
theorem dC_ofDoing_65 : decode mC_ofDoing.2.1 65 = .ok (.invokevirtual 123, 3) := by decide +kernel
theorem dC_ofDoing_68 : decode mC_ofDoing.2.1 68 = .ok (.ireturn, 1) := by decide +kernel
theorem dC_ofDoing_69 : decode mC_ofDoing.2.1 69 = .ok (.bipush (-2), 2) := by decide +kernel
theorem dC_ofDoing_71 : decode mC_ofDoing.2.1 71 = .ok (.ireturn, 1) := by decide +kernel
theorem dC_ofGuest_0 : decode mC_ofGuest.2.1 0 = .ok (.aload_n 0, 1) := by decide +kernel
theorem dC_ofGuest_1 : decode mC_ofGuest.2.1 1 = .ok (.getfield 12, 3) := by decide +kernel
theorem dC_ofGuest_4 : decode mC_ofGuest.2.1 4 = .ok (.iload_n 1, 1) := by decide +kernel
theorem dC_ofGuest_5 : decode mC_ofGuest.2.1 5 = .ok (.invokevirtual 101, 3) := by decide +kernel
theorem dC_ofGuest_8 : decode mC_ofGuest.2.1 8 = .ok (.ifCond .ne 5, 3) := by decide +kernel
theorem dC_ofGuest_11 : decode mC_ofGuest.2.1 11 = .ok (.iconst (-1), 1) := by decide +kernel
theorem dC_ofGuest_12 : decode mC_ofGuest.2.1 12 = .ok (.ireturn, 1) := by decide +kernel
theorem dC_ofGuest_13 : decode mC_ofGuest.2.1 13 = .ok (.iload_n 2, 1) := by decide +kernel
theorem dC_ofGuest_14 : decode mC_ofGuest.2.1 14 = .ok (.tableswitch 56 0 2 #[26, 36, 46], 26) := by decide +kernel
theorem dC_ofGuest_40 : decode mC_ofGuest.2.1 40 = .ok (.aload_n 0, 1) := by decide +kernel
theorem dC_ofGuest_41 : decode mC_ofGuest.2.1 41 = .ok (.getfield 12, 3) := by decide +kernel
theorem dC_ofGuest_44 : decode mC_ofGuest.2.1 44 = .ok (.getfield 104, 3) := by decide +kernel
theorem dC_ofGuest_47 : decode mC_ofGuest.2.1 47 = .ok (.iload_n 1, 1) := by decide +kernel
theorem dC_ofGuest_48 : decode mC_ofGuest.2.1 48 = .ok (.iaload, 1) := by decide +kernel
theorem dC_ofGuest_49 : decode mC_ofGuest.2.1 49 = .ok (.ireturn, 1) := by decide +kernel
theorem dC_ofGuest_50 : decode mC_ofGuest.2.1 50 = .ok (.aload_n 0, 1) := by decide +kernel
theorem dC_ofGuest_51 : decode mC_ofGuest.2.1 51 = .ok (.getfield 12, 3) := by decide +kernel
theorem dC_ofGuest_54 : decode mC_ofGuest.2.1 54 = .ok (.getfield 108, 3) := by decide +kernel
theorem dC_ofGuest_57 : decode mC_ofGuest.2.1 57 = .ok (.iload_n 1, 1) := by decide +kernel
theorem dC_ofGuest_58 : decode mC_ofGuest.2.1 58 = .ok (.iaload, 1) := by decide +kernel
theorem dC_ofGuest_59 : decode mC_ofGuest.2.1 59 = .ok (.ireturn, 1) := by decide +kernel
theorem dC_ofGuest_60 : decode mC_ofGuest.2.1 60 = .ok (.aload_n 0, 1) := by decide +kernel
theorem dC_ofGuest_61 : decode mC_ofGuest.2.1 61 = .ok (.getfield 12, 3) := by decide +kernel
theorem dC_ofGuest_64 : decode mC_ofGuest.2.1 64 = .ok (.getfield 111, 3) := by decide +kernel
theorem dC_ofGuest_67 : decode mC_ofGuest.2.1 67 = .ok (.iload_n 1, 1) := by decide +kernel
theorem dC_ofGuest_68 : decode mC_ofGuest.2.1 68 = .ok (.iaload, 1) := by decide +kernel
theorem dC_ofGuest_69 : decode mC_ofGuest.2.1 69 = .ok (.ireturn, 1) := by decide +kernel
theorem dC_ofGuest_70 : decode mC_ofGuest.2.1 70 = .ok (.bipush (-2), 2) := by decide +kernel
theorem dC_ofGuest_72 : decode mC_ofGuest.2.1 72 = .ok (.ireturn, 1) := by decide +kernel
theorem dC_pleased_0 : decode mC_pleased.2.1 0 = .ok (.aload_n 0, 1) := by decide +kernel
theorem dC_pleased_1 : decode mC_pleased.2.1 1 = .ok (.getfield 12, 3) := by decide +kernel
theorem dC_pleased_4 : decode mC_pleased.2.1 4 = .ok (.iload_n 1, 1) := by decide +kernel
theorem dC_pleased_5 : decode mC_pleased.2.1 5 = .ok (.invokevirtual 101, 3) := by decide +kernel
theorem dC_pleased_8 : decode mC_pleased.2.1 8 = .ok (.ifCond .eq 14, 3) := by decide +kernel
theorem dC_pleased_11 : decode mC_pleased.2.1 11 = .ok (.aload_n 0, 1) := by decide +kernel
theorem dC_pleased_12 : decode mC_pleased.2.1 12 = .ok (.getfield 12, 3) := by decide +kernel
theorem dC_pleased_15 : decode mC_pleased.2.1 15 = .ok (.iload_n 2, 1) := by decide +kernel
theorem dC_pleased_16 : decode mC_pleased.2.1 16 = .ok (.invokevirtual 114, 3) := by decide +kernel
theorem dC_pleased_19 : decode mC_pleased.2.1 19 = .ok (.ifCond .ne 5, 3) := by decide +kernel
theorem dC_pleased_22 : decode mC_pleased.2.1 22 = .ok (.iconst (-1), 1) := by decide +kernel
theorem dC_pleased_23 : decode mC_pleased.2.1 23 = .ok (.ireturn, 1) := by decide +kernel
theorem dC_pleased_24 : decode mC_pleased.2.1 24 = .ok (.aload_n 0, 1) := by decide +kernel
theorem dC_pleased_25 : decode mC_pleased.2.1 25 = .ok (.getfield 12, 3) := by decide +kernel
theorem dC_pleased_28 : decode mC_pleased.2.1 28 = .ok (.iload_n 1, 1) := by decide +kernel
theorem dC_pleased_29 : decode mC_pleased.2.1 29 = .ok (.iload_n 2, 1) := by decide +kernel
theorem dC_pleased_30 : decode mC_pleased.2.1 30 = .ok (.invokevirtual 139, 3) := by decide +kernel
theorem dC_pleased_33 : decode mC_pleased.2.1 33 = .ok (.ireturn, 1) := by decide +kernel
theorem dC_put_0 : decode mC_put.2.1 0 = .ok (.aload_n 0, 1) := by decide +kernel
theorem dC_put_1 : decode mC_put.2.1 1 = .ok (.iconst 0, 1) := by decide +kernel
theorem dC_put_2 : decode mC_put.2.1 2 = .ok (.putfield 53, 3) := by decide +kernel
theorem dC_put_5 : decode mC_put.2.1 5 = .ok (.aload_n 0, 1) := by decide +kernel
theorem dC_put_6 : decode mC_put.2.1 6 = .ok (.getfield 21, 3) := by decide +kernel
theorem dC_put_9 : decode mC_put.2.1 9 = .ok (.iload_n 1, 1) := by decide +kernel
theorem dC_put_10 : decode mC_put.2.1 10 = .ok (.invokevirtual 57, 3) := by decide +kernel
theorem dC_put_13 : decode mC_put.2.1 13 = .ok (.ifCond .ne 5, 3) := by decide +kernel
theorem dC_put_16 : decode mC_put.2.1 16 = .ok (.iconst (-1), 1) := by decide +kernel
theorem dC_put_17 : decode mC_put.2.1 17 = .ok (.ireturn, 1) := by decide +kernel
theorem dC_put_18 : decode mC_put.2.1 18 = .ok (.aload_n 0, 1) := by decide +kernel
theorem dC_put_19 : decode mC_put.2.1 19 = .ok (.getfield 21, 3) := by decide +kernel
theorem dC_put_22 : decode mC_put.2.1 22 = .ok (.getfield 203, 3) := by decide +kernel
theorem dC_put_25 : decode mC_put.2.1 25 = .ok (.iload_n 1, 1) := by decide +kernel
theorem dC_put_26 : decode mC_put.2.1 26 = .ok (.baload, 1) := by decide +kernel
theorem dC_put_27 : decode mC_put.2.1 27 = .ok (.ifCond .ne 9, 3) := by decide +kernel
theorem dC_put_30 : decode mC_put.2.1 30 = .ok (.aload_n 0, 1) := by decide +kernel
theorem dC_put_31 : decode mC_put.2.1 31 = .ok (.iconst 1, 1) := by decide +kernel
theorem dC_put_32 : decode mC_put.2.1 32 = .ok (.invokevirtual 68, 3) := by decide +kernel
theorem dC_put_35 : decode mC_put.2.1 35 = .ok (.ireturn, 1) := by decide +kernel
theorem dC_put_36 : decode mC_put.2.1 36 = .ok (.aload_n 0, 1) := by decide +kernel
theorem dC_put_37 : decode mC_put.2.1 37 = .ok (.getfield 21, 3) := by decide +kernel
theorem dC_put_40 : decode mC_put.2.1 40 = .ok (.iload_n 1, 1) := by decide +kernel
theorem dC_put_41 : decode mC_put.2.1 41 = .ok (.iload_n 2, 1) := by decide +kernel
theorem dC_put_42 : decode mC_put.2.1 42 = .ok (.invokevirtual 207, 3) := by decide +kernel
theorem dC_put_45 : decode mC_put.2.1 45 = .ok (.ifCond .ne 9, 3) := by decide +kernel
theorem dC_put_48 : decode mC_put.2.1 48 = .ok (.aload_n 0, 1) := by decide +kernel
theorem dC_put_49 : decode mC_put.2.1 49 = .ok (.iconst 3, 1) := by decide +kernel
theorem dC_put_50 : decode mC_put.2.1 50 = .ok (.invokevirtual 68, 3) := by decide +kernel
theorem dC_put_53 : decode mC_put.2.1 53 = .ok (.ireturn, 1) := by decide +kernel
theorem dC_put_54 : decode mC_put.2.1 54 = .ok (.aload_n 0, 1) := by decide +kernel
theorem dC_put_55 : decode mC_put.2.1 55 = .ok (.getfield 21, 3) := by decide +kernel
theorem dC_put_58 : decode mC_put.2.1 58 = .ok (.getfield 76, 3) := by decide +kernel
theorem dC_put_61 : decode mC_put.2.1 61 = .ok (.iload_n 1, 1) := by decide +kernel
theorem dC_put_62 : decode mC_put.2.1 62 = .ok (.aaload, 1) := by decide +kernel
theorem dC_put_63 : decode mC_put.2.1 63 = .ok (.iload_n 2, 1) := by decide +kernel
theorem dC_put_64 : decode mC_put.2.1 64 = .ok (.iload_n 3, 1) := by decide +kernel
theorem dC_put_65 : decode mC_put.2.1 65 = .ok (.aload_n 0, 1) := by decide +kernel
theorem dC_put_66 : decode mC_put.2.1 66 = .ok (.getfield 21, 3) := by decide +kernel
theorem dC_put_69 : decode mC_put.2.1 69 = .ok (.getfield 211, 3) := by decide +kernel
theorem dC_put_72 : decode mC_put.2.1 72 = .ok (.iload_n 1, 1) := by decide +kernel
theorem dC_put_73 : decode mC_put.2.1 73 = .ok (.iaload, 1) := by decide +kernel
theorem dC_put_74 : decode mC_put.2.1 74 = .ok (.invokestatic 214, 3) := by decide +kernel
theorem dC_put_77 : decode mC_put.2.1 77 = .ok (.iastore, 1) := by decide +kernel
theorem dC_put_78 : decode mC_put.2.1 78 = .ok (.iconst 1, 1) := by decide +kernel
theorem dC_put_79 : decode mC_put.2.1 79 = .ok (.ireturn, 1) := by decide +kernel
theorem dC_reading_0 : decode mC_reading.2.1 0 = .ok (.aload_n 0, 1) := by decide +kernel
theorem dC_reading_1 : decode mC_reading.2.1 1 = .ok (.getfield 12, 3) := by decide +kernel
theorem dC_reading_4 : decode mC_reading.2.1 4 = .ok (.iload_n 1, 1) := by decide +kernel
theorem dC_reading_5 : decode mC_reading.2.1 5 = .ok (.invokevirtual 101, 3) := by decide +kernel
theorem dC_reading_8 : decode mC_reading.2.1 8 = .ok (.ifCond .eq 14, 3) := by decide +kernel
theorem dC_reading_11 : decode mC_reading.2.1 11 = .ok (.aload_n 0, 1) := by decide +kernel
theorem dC_reading_12 : decode mC_reading.2.1 12 = .ok (.getfield 12, 3) := by decide +kernel
theorem dC_reading_15 : decode mC_reading.2.1 15 = .ok (.iload_n 2, 1) := by decide +kernel
theorem dC_reading_16 : decode mC_reading.2.1 16 = .ok (.invokevirtual 114, 3) := by decide +kernel
theorem dC_reading_19 : decode mC_reading.2.1 19 = .ok (.ifCond .ne 5, 3) := by decide +kernel
theorem dC_reading_22 : decode mC_reading.2.1 22 = .ok (.iconst (-1), 1) := by decide +kernel
theorem dC_reading_23 : decode mC_reading.2.1 23 = .ok (.ireturn, 1) := by decide +kernel
theorem dC_reading_24 : decode mC_reading.2.1 24 = .ok (.aload_n 0, 1) := by decide +kernel
theorem dC_reading_25 : decode mC_reading.2.1 25 = .ok (.getfield 49, 3) := by decide +kernel
theorem dC_reading_28 : decode mC_reading.2.1 28 = .ok (.getfield 97, 3) := by decide +kernel
theorem dC_reading_31 : decode mC_reading.2.1 31 = .ok (.bipush 8, 2) := by decide +kernel
theorem dC_reading_33 : decode mC_reading.2.1 33 = .ok (.if_icmp .lt 6, 3) := by decide +kernel
theorem dC_reading_36 : decode mC_reading.2.1 36 = .ok (.bipush (-4), 2) := by decide +kernel
theorem dC_reading_38 : decode mC_reading.2.1 38 = .ok (.ireturn, 1) := by decide +kernel
theorem dC_reading_39 : decode mC_reading.2.1 39 = .ok (.aload_n 0, 1) := by decide +kernel
theorem dC_reading_40 : decode mC_reading.2.1 40 = .ok (.getfield 49, 3) := by decide +kernel
theorem dC_reading_43 : decode mC_reading.2.1 43 = .ok (.iload_n 1, 1) := by decide +kernel
theorem dC_reading_44 : decode mC_reading.2.1 44 = .ok (.iload_n 2, 1) := by decide +kernel
theorem dC_reading_45 : decode mC_reading.2.1 45 = .ok (.iload_n 3, 1) := by decide +kernel
theorem dC_reading_46 : decode mC_reading.2.1 46 = .ok (.invokevirtual 183, 3) := by decide +kernel
theorem dC_reading_49 : decode mC_reading.2.1 49 = .ok (.ireturn, 1) := by decide +kernel
theorem dC_refusedPairs_0 : decode mC_refusedPairs.2.1 0 = .ok (.aload_n 0, 1) := by decide +kernel
theorem dC_refusedPairs_1 : decode mC_refusedPairs.2.1 1 = .ok (.getfield 21, 3) := by decide +kernel
theorem dC_refusedPairs_4 : decode mC_refusedPairs.2.1 4 = .ok (.iload_n 1, 1) := by decide +kernel
theorem dC_refusedPairs_5 : decode mC_refusedPairs.2.1 5 = .ok (.iload_n 2, 1) := by decide +kernel
theorem dC_refusedPairs_6 : decode mC_refusedPairs.2.1 6 = .ok (.invokevirtual 64, 3) := by decide +kernel
theorem dC_refusedPairs_9 : decode mC_refusedPairs.2.1 9 = .ok (.istore 5, 2) := by decide +kernel
theorem dC_refusedPairs_11 : decode mC_refusedPairs.2.1 11 = .ok (.iload 5, 2) := by decide +kernel
theorem dC_refusedPairs_13 : decode mC_refusedPairs.2.1 13 = .ok (.ifCond .eq 10, 3) := by decide +kernel
theorem dC_refusedPairs_16 : decode mC_refusedPairs.2.1 16 = .ok (.aload_n 0, 1) := by decide +kernel
theorem dC_refusedPairs_17 : decode mC_refusedPairs.2.1 17 = .ok (.iload 5, 2) := by decide +kernel
theorem dC_refusedPairs_19 : decode mC_refusedPairs.2.1 19 = .ok (.invokevirtual 68, 3) := by decide +kernel
theorem dC_refusedPairs_22 : decode mC_refusedPairs.2.1 22 = .ok (.ireturn, 1) := by decide +kernel
theorem dC_refusedPairs_23 : decode mC_refusedPairs.2.1 23 = .ok (.aload_n 0, 1) := by decide +kernel
theorem dC_refusedPairs_24 : decode mC_refusedPairs.2.1 24 = .ok (.getfield 21, 3) := by decide +kernel
theorem dC_refusedPairs_27 : decode mC_refusedPairs.2.1 27 = .ok (.iload_n 1, 1) := by decide +kernel
theorem dC_refusedPairs_28 : decode mC_refusedPairs.2.1 28 = .ok (.iload_n 3, 1) := by decide +kernel
theorem dC_refusedPairs_29 : decode mC_refusedPairs.2.1 29 = .ok (.iconst 2, 1) := by decide +kernel
theorem dC_refusedPairs_30 : decode mC_refusedPairs.2.1 30 = .ok (.iload 4, 2) := by decide +kernel
theorem dC_refusedPairs_32 : decode mC_refusedPairs.2.1 32 = .ok (.imul, 1) := by decide +kernel
theorem dC_refusedPairs_33 : decode mC_refusedPairs.2.1 33 = .ok (.invokevirtual 72, 3) := by decide +kernel
theorem dC_refusedPairs_36 : decode mC_refusedPairs.2.1 36 = .ok (.ifCond .ne 9, 3) := by decide +kernel
theorem dC_refusedPairs_39 : decode mC_refusedPairs.2.1 39 = .ok (.aload_n 0, 1) := by decide +kernel
theorem dC_refusedPairs_40 : decode mC_refusedPairs.2.1 40 = .ok (.iconst 3, 1) := by decide +kernel
theorem dC_refusedPairs_41 : decode mC_refusedPairs.2.1 41 = .ok (.invokevirtual 68, 3) := by decide +kernel
theorem dC_refusedPairs_44 : decode mC_refusedPairs.2.1 44 = .ok (.ireturn, 1) := by decide +kernel
theorem dC_refusedPairs_45 : decode mC_refusedPairs.2.1 45 = .ok (.aload_n 0, 1) := by decide +kernel
theorem dC_refusedPairs_46 : decode mC_refusedPairs.2.1 46 = .ok (.getfield 21, 3) := by decide +kernel
theorem dC_refusedPairs_49 : decode mC_refusedPairs.2.1 49 = .ok (.getfield 76, 3) := by decide +kernel
theorem dC_refusedPairs_52 : decode mC_refusedPairs.2.1 52 = .ok (.iload_n 1, 1) := by decide +kernel
theorem dC_refusedPairs_53 : decode mC_refusedPairs.2.1 53 = .ok (.aaload, 1) := by decide +kernel
theorem dC_refusedPairs_54 : decode mC_refusedPairs.2.1 54 = .ok (.astore 6, 2) := by decide +kernel
theorem dC_refusedPairs_56 : decode mC_refusedPairs.2.1 56 = .ok (.iconst 0, 1) := by decide +kernel
theorem dC_refusedPairs_57 : decode mC_refusedPairs.2.1 57 = .ok (.istore 7, 2) := by decide +kernel
theorem dC_refusedPairs_59 : decode mC_refusedPairs.2.1 59 = .ok (.iload 7, 2) := by decide +kernel
theorem dC_refusedPairs_61 : decode mC_refusedPairs.2.1 61 = .ok (.iload 4, 2) := by decide +kernel
theorem dC_refusedPairs_63 : decode mC_refusedPairs.2.1 63 = .ok (.if_icmp .ge 51, 3) := by decide +kernel
theorem dC_refusedPairs_66 : decode mC_refusedPairs.2.1 66 = .ok (.aload_n 0, 1) := by decide +kernel
theorem dC_refusedPairs_67 : decode mC_refusedPairs.2.1 67 = .ok (.getfield 12, 3) := by decide +kernel
theorem dC_refusedPairs_70 : decode mC_refusedPairs.2.1 70 = .ok (.aload 6, 2) := by decide +kernel
theorem dC_refusedPairs_72 : decode mC_refusedPairs.2.1 72 = .ok (.iload_n 3, 1) := by decide +kernel
theorem dC_refusedPairs_73 : decode mC_refusedPairs.2.1 73 = .ok (.iconst 2, 1) := by decide +kernel
theorem dC_refusedPairs_74 : decode mC_refusedPairs.2.1 74 = .ok (.iload 7, 2) := by decide +kernel
theorem dC_refusedPairs_76 : decode mC_refusedPairs.2.1 76 = .ok (.imul, 1) := by decide +kernel
theorem dC_refusedPairs_77 : decode mC_refusedPairs.2.1 77 = .ok (.iadd, 1) := by decide +kernel
theorem dC_refusedPairs_78 : decode mC_refusedPairs.2.1 78 = .ok (.iaload, 1) := by decide +kernel
theorem dC_refusedPairs_79 : decode mC_refusedPairs.2.1 79 = .ok (.invokevirtual 101, 3) := by decide +kernel
theorem dC_refusedPairs_82 : decode mC_refusedPairs.2.1 82 = .ok (.ifCond .eq 24, 3) := by decide +kernel
theorem dC_refusedPairs_85 : decode mC_refusedPairs.2.1 85 = .ok (.aload_n 0, 1) := by decide +kernel
theorem dC_refusedPairs_86 : decode mC_refusedPairs.2.1 86 = .ok (.getfield 12, 3) := by decide +kernel
theorem dC_refusedPairs_89 : decode mC_refusedPairs.2.1 89 = .ok (.aload 6, 2) := by decide +kernel
theorem dC_refusedPairs_91 : decode mC_refusedPairs.2.1 91 = .ok (.iload_n 3, 1) := by decide +kernel
theorem dC_refusedPairs_92 : decode mC_refusedPairs.2.1 92 = .ok (.iconst 2, 1) := by decide +kernel
theorem dC_refusedPairs_93 : decode mC_refusedPairs.2.1 93 = .ok (.iload 7, 2) := by decide +kernel
theorem dC_refusedPairs_95 : decode mC_refusedPairs.2.1 95 = .ok (.imul, 1) := by decide +kernel
theorem dC_refusedPairs_96 : decode mC_refusedPairs.2.1 96 = .ok (.iadd, 1) := by decide +kernel
theorem dC_refusedPairs_97 : decode mC_refusedPairs.2.1 97 = .ok (.iconst 1, 1) := by decide +kernel
theorem dC_refusedPairs_98 : decode mC_refusedPairs.2.1 98 = .ok (.iadd, 1) := by decide +kernel
theorem dC_refusedPairs_99 : decode mC_refusedPairs.2.1 99 = .ok (.iaload, 1) := by decide +kernel
theorem dC_refusedPairs_100 : decode mC_refusedPairs.2.1 100 = .ok (.invokevirtual 114, 3) := by decide +kernel
theorem dC_refusedPairs_103 : decode mC_refusedPairs.2.1 103 = .ok (.ifCond .ne 5, 3) := by decide +kernel
theorem dC_refusedPairs_106 : decode mC_refusedPairs.2.1 106 = .ok (.iconst (-1), 1) := by decide +kernel
theorem dC_refusedPairs_107 : decode mC_refusedPairs.2.1 107 = .ok (.ireturn, 1) := by decide +kernel
theorem dC_refusedPairs_108 : decode mC_refusedPairs.2.1 108 = .ok (.iinc 7 1, 3) := by decide +kernel
theorem dC_refusedPairs_111 : decode mC_refusedPairs.2.1 111 = .ok (.goto (-52), 3) := by decide +kernel
theorem dC_refusedPairs_114 : decode mC_refusedPairs.2.1 114 = .ok (.iconst 0, 1) := by decide +kernel
theorem dC_refusedPairs_115 : decode mC_refusedPairs.2.1 115 = .ok (.ireturn, 1) := by decide +kernel
theorem dC_refusedSeason_0 : decode mC_refusedSeason.2.1 0 = .ok (.aload_n 0, 1) := by decide +kernel
theorem dC_refusedSeason_1 : decode mC_refusedSeason.2.1 1 = .ok (.getfield 21, 3) := by decide +kernel
theorem dC_refusedSeason_4 : decode mC_refusedSeason.2.1 4 = .ok (.iload_n 1, 1) := by decide +kernel
theorem dC_refusedSeason_5 : decode mC_refusedSeason.2.1 5 = .ok (.invokevirtual 57, 3) := by decide +kernel
theorem dC_refusedSeason_8 : decode mC_refusedSeason.2.1 8 = .ok (.ifCond .ne 5, 3) := by decide +kernel
theorem dC_refusedSeason_11 : decode mC_refusedSeason.2.1 11 = .ok (.iconst (-1), 1) := by decide +kernel
theorem dC_refusedSeason_12 : decode mC_refusedSeason.2.1 12 = .ok (.ireturn, 1) := by decide +kernel
theorem dC_refusedSeason_13 : decode mC_refusedSeason.2.1 13 = .ok (.iload_n 2, 1) := by decide +kernel
theorem dC_refusedSeason_14 : decode mC_refusedSeason.2.1 14 = .ok (.invokestatic 61, 3) := by decide +kernel
theorem dC_refusedSeason_17 : decode mC_refusedSeason.2.1 17 = .ok (.ifCond .eq 19, 3) := by decide +kernel
theorem dC_refusedSeason_20 : decode mC_refusedSeason.2.1 20 = .ok (.iload 4, 2) := by decide +kernel
theorem dC_refusedSeason_22 : decode mC_refusedSeason.2.1 22 = .ok (.invokestatic 142, 3) := by decide +kernel
theorem dC_refusedSeason_25 : decode mC_refusedSeason.2.1 25 = .ok (.ifCond .eq 11, 3) := by decide +kernel
theorem dC_refusedSeason_28 : decode mC_refusedSeason.2.1 28 = .ok (.iload 5, 2) := by decide +kernel
theorem dC_refusedSeason_30 : decode mC_refusedSeason.2.1 30 = .ok (.invokestatic 133, 3) := by decide +kernel
theorem dC_refusedSeason_33 : decode mC_refusedSeason.2.1 33 = .ok (.ifCond .ne 6, 3) := by decide +kernel
theorem dC_refusedSeason_36 : decode mC_refusedSeason.2.1 36 = .ok (.bipush (-2), 2) := by decide +kernel
theorem dC_refusedSeason_38 : decode mC_refusedSeason.2.1 38 = .ok (.ireturn, 1) := by decide +kernel
theorem dC_refusedSeason_39 : decode mC_refusedSeason.2.1 39 = .ok (.aload_n 0, 1) := by decide +kernel
theorem dC_refusedSeason_40 : decode mC_refusedSeason.2.1 40 = .ok (.getfield 12, 3) := by decide +kernel
theorem dC_refusedSeason_43 : decode mC_refusedSeason.2.1 43 = .ok (.invokevirtual 126, 3) := by decide +kernel
theorem dC_refusedSeason_46 : decode mC_refusedSeason.2.1 46 = .ok (.ifCond .ne 6, 3) := by decide +kernel
theorem dC_refusedSeason_49 : decode mC_refusedSeason.2.1 49 = .ok (.bipush (-3), 2) := by decide +kernel
theorem dC_refusedSeason_51 : decode mC_refusedSeason.2.1 51 = .ok (.ireturn, 1) := by decide +kernel
theorem dC_refusedSeason_52 : decode mC_refusedSeason.2.1 52 = .ok (.aload_n 0, 1) := by decide +kernel
theorem dC_refusedSeason_53 : decode mC_refusedSeason.2.1 53 = .ok (.iload_n 1, 1) := by decide +kernel
theorem dC_refusedSeason_54 : decode mC_refusedSeason.2.1 54 = .ok (.iload_n 2, 1) := by decide +kernel
theorem dC_refusedSeason_55 : decode mC_refusedSeason.2.1 55 = .ok (.iload_n 3, 1) := by decide +kernel
theorem dC_refusedSeason_56 : decode mC_refusedSeason.2.1 56 = .ok (.iload 4, 2) := by decide +kernel
theorem dC_refusedSeason_58 : decode mC_refusedSeason.2.1 58 = .ok (.invokevirtual 145, 3) := by decide +kernel
theorem dC_refusedSeason_61 : decode mC_refusedSeason.2.1 61 = .ok (.ireturn, 1) := by decide +kernel
theorem dC_season_0 : decode mC_season.2.1 0 = .ok (.aload_n 0, 1) := by decide +kernel
theorem dC_season_1 : decode mC_season.2.1 1 = .ok (.iconst 0, 1) := by decide +kernel
theorem dC_season_2 : decode mC_season.2.1 2 = .ok (.putfield 53, 3) := by decide +kernel
theorem dC_season_5 : decode mC_season.2.1 5 = .ok (.aload_n 0, 1) := by decide +kernel
theorem dC_season_6 : decode mC_season.2.1 6 = .ok (.getfield 12, 3) := by decide +kernel
theorem dC_season_9 : decode mC_season.2.1 9 = .ok (.iload_n 1, 1) := by decide +kernel
theorem dC_season_10 : decode mC_season.2.1 10 = .ok (.invokevirtual 101, 3) := by decide +kernel
theorem dC_season_13 : decode mC_season.2.1 13 = .ok (.ifCond .eq 14, 3) := by decide +kernel
theorem dC_season_16 : decode mC_season.2.1 16 = .ok (.aload_n 0, 1) := by decide +kernel
theorem dC_season_17 : decode mC_season.2.1 17 = .ok (.getfield 21, 3) := by decide +kernel
theorem dC_season_20 : decode mC_season.2.1 20 = .ok (.iload_n 2, 1) := by decide +kernel
theorem dC_season_21 : decode mC_season.2.1 21 = .ok (.invokevirtual 57, 3) := by decide +kernel
theorem dC_season_24 : decode mC_season.2.1 24 = .ok (.ifCond .ne 5, 3) := by decide +kernel
theorem dC_season_27 : decode mC_season.2.1 27 = .ok (.iconst (-1), 1) := by decide +kernel
theorem dC_season_28 : decode mC_season.2.1 28 = .ok (.ireturn, 1) := by decide +kernel
theorem dC_season_29 : decode mC_season.2.1 29 = .ok (.iload_n 3, 1) := by decide +kernel
theorem dC_season_30 : decode mC_season.2.1 30 = .ok (.invokestatic 61, 3) := by decide +kernel
theorem dC_season_33 : decode mC_season.2.1 33 = .ok (.ifCond .eq 22, 3) := by decide +kernel
theorem dC_season_36 : decode mC_season.2.1 36 = .ok (.iload 5, 2) := by decide +kernel
theorem dC_season_38 : decode mC_season.2.1 38 = .ok (.invokestatic 142, 3) := by decide +kernel
theorem dC_season_41 : decode mC_season.2.1 41 = .ok (.ifCond .eq 14, 3) := by decide +kernel
theorem dC_season_44 : decode mC_season.2.1 44 = .ok (.iload 6, 2) := by decide +kernel
theorem dC_season_46 : decode mC_season.2.1 46 = .ok (.ifCond .lt 9, 3) := by decide +kernel
theorem dC_season_49 : decode mC_season.2.1 49 = .ok (.iload 6, 2) := by decide +kernel
theorem dC_season_51 : decode mC_season.2.1 51 = .ok (.iconst 4, 1) := by decide +kernel
theorem dC_season_52 : decode mC_season.2.1 52 = .ok (.if_icmp .le 6, 3) := by decide +kernel
theorem dC_season_55 : decode mC_season.2.1 55 = .ok (.bipush (-2), 2) := by decide +kernel
theorem dC_season_57 : decode mC_season.2.1 57 = .ok (.ireturn, 1) := by decide +kernel
theorem dC_season_58 : decode mC_season.2.1 58 = .ok (.aload_n 0, 1) := by decide +kernel
theorem dC_season_59 : decode mC_season.2.1 59 = .ok (.iload_n 2, 1) := by decide +kernel
theorem dC_season_60 : decode mC_season.2.1 60 = .ok (.iload_n 3, 1) := by decide +kernel
theorem dC_season_61 : decode mC_season.2.1 61 = .ok (.iload 4, 2) := by decide +kernel
theorem dC_season_63 : decode mC_season.2.1 63 = .ok (.iload 5, 2) := by decide +kernel
theorem dC_season_65 : decode mC_season.2.1 65 = .ok (.invokevirtual 145, 3) := by decide +kernel
theorem dC_season_68 : decode mC_season.2.1 68 = .ok (.istore 7, 2) := by decide +kernel
theorem dC_season_70 : decode mC_season.2.1 70 = .ok (.iload 7, 2) := by decide +kernel
theorem dC_season_72 : decode mC_season.2.1 72 = .ok (.ifCond .eq 6, 3) := by decide +kernel
theorem dC_season_75 : decode mC_season.2.1 75 = .ok (.iload 7, 2) := by decide +kernel
theorem dC_season_77 : decode mC_season.2.1 77 = .ok (.ireturn, 1) := by decide +kernel
theorem dC_season_78 : decode mC_season.2.1 78 = .ok (.aload_n 0, 1) := by decide +kernel
theorem dC_season_79 : decode mC_season.2.1 79 = .ok (.getfield 35, 3) := by decide +kernel
theorem dC_season_82 : decode mC_season.2.1 82 = .ok (.aload_n 0, 1) := by decide +kernel
theorem dC_season_83 : decode mC_season.2.1 83 = .ok (.getfield 12, 3) := by decide +kernel
theorem dC_season_86 : decode mC_season.2.1 86 = .ok (.aload_n 0, 1) := by decide +kernel
theorem dC_season_87 : decode mC_season.2.1 87 = .ok (.getfield 21, 3) := by decide +kernel
theorem dC_season_90 : decode mC_season.2.1 90 = .ok (.getfield 76, 3) := by decide +kernel
theorem dC_season_93 : decode mC_season.2.1 93 = .ok (.iload_n 2, 1) := by decide +kernel
theorem dC_season_94 : decode mC_season.2.1 94 = .ok (.aaload, 1) := by decide +kernel
theorem dC_season_95 : decode mC_season.2.1 95 = .ok (.iload 4, 2) := by decide +kernel
theorem dC_season_97 : decode mC_season.2.1 97 = .ok (.iload 5, 2) := by decide +kernel
theorem dC_season_99 : decode mC_season.2.1 99 = .ok (.iload_n 1, 1) := by decide +kernel
theorem dC_season_100 : decode mC_season.2.1 100 = .ok (.invokevirtual 149, 3) := by decide +kernel
theorem dC_season_103 : decode mC_season.2.1 103 = .ok (.iload 6, 2) := by decide +kernel
theorem dC_season_105 : decode mC_season.2.1 105 = .ok (.iconst 1, 1) := by decide +kernel
theorem dC_season_106 : decode mC_season.2.1 106 = .ok (.if_icmp .ne 11, 3) := by decide +kernel
theorem dC_season_109 : decode mC_season.2.1 109 = .ok (.aload_n 0, 1) := by decide +kernel
theorem dC_season_110 : decode mC_season.2.1 110 = .ok (.getfield 35, 3) := by decide +kernel
theorem dC_season_113 : decode mC_season.2.1 113 = .ok (.getfield 153, 3) := by decide +kernel
theorem dC_season_116 : decode mC_season.2.1 116 = .ok (.ireturn, 1) := by decide +kernel
theorem dC_season_117 : decode mC_season.2.1 117 = .ok (.aload_n 0, 1) := by decide +kernel
theorem dC_season_118 : decode mC_season.2.1 118 = .ok (.getfield 35, 3) := by decide +kernel
theorem dC_season_121 : decode mC_season.2.1 121 = .ok (.getfield 153, 3) := by decide +kernel
theorem dC_season_124 : decode mC_season.2.1 124 = .ok (.bipush (-9), 2) := by decide +kernel
theorem dC_season_126 : decode mC_season.2.1 126 = .ok (.if_icmp .eq 14, 3) := by decide +kernel
theorem dC_season_129 : decode mC_season.2.1 129 = .ok (.bipush (-100), 2) := by decide +kernel
theorem dC_season_131 : decode mC_season.2.1 131 = .ok (.aload_n 0, 1) := by decide +kernel
theorem dC_season_132 : decode mC_season.2.1 132 = .ok (.getfield 35, 3) := by decide +kernel
theorem dC_season_135 : decode mC_season.2.1 135 = .ok (.getfield 153, 3) := by decide +kernel
theorem dC_season_138 : decode mC_season.2.1 138 = .ok (.isub, 1) := by decide +kernel
theorem dC_season_139 : decode mC_season.2.1 139 = .ok (.ireturn, 1) := by decide +kernel
theorem dC_season_140 : decode mC_season.2.1 140 = .ok (.iload 6, 2) := by decide +kernel
theorem dC_season_142 : decode mC_season.2.1 142 = .ok (.tableswitch 54 0 3 #[30, 54, 38, 46], 30) := by decide +kernel
theorem dC_season_172 : decode mC_season.2.1 172 = .ok (.aload_n 0, 1) := by decide +kernel
theorem dC_season_173 : decode mC_season.2.1 173 = .ok (.getfield 35, 3) := by decide +kernel
theorem dC_season_176 : decode mC_season.2.1 176 = .ok (.getfield 156, 3) := by decide +kernel
theorem dC_season_179 : decode mC_season.2.1 179 = .ok (.ireturn, 1) := by decide +kernel
theorem dC_season_180 : decode mC_season.2.1 180 = .ok (.aload_n 0, 1) := by decide +kernel
theorem dC_season_181 : decode mC_season.2.1 181 = .ok (.getfield 35, 3) := by decide +kernel
theorem dC_season_184 : decode mC_season.2.1 184 = .ok (.getfield 157, 3) := by decide +kernel
theorem dC_season_187 : decode mC_season.2.1 187 = .ok (.ireturn, 1) := by decide +kernel
theorem dC_season_188 : decode mC_season.2.1 188 = .ok (.aload_n 0, 1) := by decide +kernel
theorem dC_season_189 : decode mC_season.2.1 189 = .ok (.getfield 35, 3) := by decide +kernel
theorem dC_season_192 : decode mC_season.2.1 192 = .ok (.getfield 160, 3) := by decide +kernel
theorem dC_season_195 : decode mC_season.2.1 195 = .ok (.ireturn, 1) := by decide +kernel
theorem dC_season_196 : decode mC_season.2.1 196 = .ok (.aload_n 0, 1) := by decide +kernel
theorem dC_season_197 : decode mC_season.2.1 197 = .ok (.getfield 35, 3) := by decide +kernel
theorem dC_season_200 : decode mC_season.2.1 200 = .ok (.getfield 163, 3) := by decide +kernel
theorem dC_season_203 : decode mC_season.2.1 203 = .ok (.ireturn, 1) := by decide +kernel
theorem dC_sheet_0 : decode mC_sheet.2.1 0 = .ok (.aload_n 0, 1) := by decide +kernel
theorem dC_sheet_1 : decode mC_sheet.2.1 1 = .ok (.iconst 0, 1) := by decide +kernel
theorem dC_sheet_2 : decode mC_sheet.2.1 2 = .ok (.putfield 53, 3) := by decide +kernel
theorem dC_sheet_5 : decode mC_sheet.2.1 5 = .ok (.aload_n 0, 1) := by decide +kernel
theorem dC_sheet_6 : decode mC_sheet.2.1 6 = .ok (.getfield 21, 3) := by decide +kernel
theorem dC_sheet_9 : decode mC_sheet.2.1 9 = .ok (.iload_n 1, 1) := by decide +kernel
theorem dC_sheet_10 : decode mC_sheet.2.1 10 = .ok (.invokevirtual 57, 3) := by decide +kernel
theorem dC_sheet_13 : decode mC_sheet.2.1 13 = .ok (.ifCond .ne 5, 3) := by decide +kernel
theorem dC_sheet_16 : decode mC_sheet.2.1 16 = .ok (.iconst (-1), 1) := by decide +kernel
theorem dC_sheet_17 : decode mC_sheet.2.1 17 = .ok (.ireturn, 1) := by decide +kernel
theorem dC_sheet_18 : decode mC_sheet.2.1 18 = .ok (.iload_n 2, 1) := by decide +kernel
theorem dC_sheet_19 : decode mC_sheet.2.1 19 = .ok (.invokestatic 61, 3) := by decide +kernel
theorem dC_sheet_22 : decode mC_sheet.2.1 22 = .ok (.ifCond .eq 9, 3) := by decide +kernel
theorem dC_sheet_25 : decode mC_sheet.2.1 25 = .ok (.iload_n 3, 1) := by decide +kernel
theorem dC_sheet_26 : decode mC_sheet.2.1 26 = .ok (.bipush 60, 2) := by decide +kernel
theorem dC_sheet_28 : decode mC_sheet.2.1 28 = .ok (.if_icmp .le 6, 3) := by decide +kernel
theorem dC_sheet_31 : decode mC_sheet.2.1 31 = .ok (.bipush (-2), 2) := by decide +kernel
theorem dC_sheet_33 : decode mC_sheet.2.1 33 = .ok (.ireturn, 1) := by decide +kernel
theorem dC_sheet_34 : decode mC_sheet.2.1 34 = .ok (.iload_n 3, 1) := by decide +kernel
theorem dC_sheet_35 : decode mC_sheet.2.1 35 = .ok (.ifCond .ge 9, 3) := by decide +kernel
theorem dC_sheet_38 : decode mC_sheet.2.1 38 = .ok (.aload_n 0, 1) := by decide +kernel
theorem dC_sheet_39 : decode mC_sheet.2.1 39 = .ok (.iconst 4, 1) := by decide +kernel
theorem dC_sheet_40 : decode mC_sheet.2.1 40 = .ok (.invokevirtual 68, 3) := by decide +kernel
theorem dC_sheet_43 : decode mC_sheet.2.1 43 = .ok (.ireturn, 1) := by decide +kernel
theorem dC_sheet_44 : decode mC_sheet.2.1 44 = .ok (.aload_n 0, 1) := by decide +kernel
theorem dC_sheet_45 : decode mC_sheet.2.1 45 = .ok (.getfield 21, 3) := by decide +kernel
theorem dC_sheet_48 : decode mC_sheet.2.1 48 = .ok (.iload_n 1, 1) := by decide +kernel
theorem dC_sheet_49 : decode mC_sheet.2.1 49 = .ok (.iload_n 2, 1) := by decide +kernel
theorem dC_sheet_50 : decode mC_sheet.2.1 50 = .ok (.iload_n 3, 1) := by decide +kernel
theorem dC_sheet_51 : decode mC_sheet.2.1 51 = .ok (.invokevirtual 199, 3) := by decide +kernel
theorem dC_sheet_54 : decode mC_sheet.2.1 54 = .ok (.iconst 1, 1) := by decide +kernel
theorem dC_sheet_55 : decode mC_sheet.2.1 55 = .ok (.ireturn, 1) := by decide +kernel
theorem dC_stars_0 : decode mC_stars.2.1 0 = .ok (.iload_n 1, 1) := by decide +kernel
theorem dC_stars_1 : decode mC_stars.2.1 1 = .ok (.invokestatic 133, 3) := by decide +kernel
theorem dC_stars_4 : decode mC_stars.2.1 4 = .ok (.ifCond .ne 6, 3) := by decide +kernel
theorem dC_stars_7 : decode mC_stars.2.1 7 = .ok (.bipush (-2), 2) := by decide +kernel
theorem dC_stars_9 : decode mC_stars.2.1 9 = .ok (.ireturn, 1) := by decide +kernel
theorem dC_stars_10 : decode mC_stars.2.1 10 = .ok (.aload_n 0, 1) := by decide +kernel
theorem dC_stars_11 : decode mC_stars.2.1 11 = .ok (.getfield 12, 3) := by decide +kernel
theorem dC_stars_14 : decode mC_stars.2.1 14 = .ok (.invokevirtual 126, 3) := by decide +kernel
theorem dC_stars_17 : decode mC_stars.2.1 17 = .ok (.ifCond .ne 6, 3) := by decide +kernel
theorem dC_stars_20 : decode mC_stars.2.1 20 = .ok (.bipush (-3), 2) := by decide +kernel
theorem dC_stars_22 : decode mC_stars.2.1 22 = .ok (.ireturn, 1) := by decide +kernel
theorem dC_stars_23 : decode mC_stars.2.1 23 = .ok (.aload_n 0, 1) := by decide +kernel
theorem dC_stars_24 : decode mC_stars.2.1 24 = .ok (.getfield 12, 3) := by decide +kernel
theorem dC_stars_27 : decode mC_stars.2.1 27 = .ok (.getfield 136, 3) := by decide +kernel
theorem dC_stars_30 : decode mC_stars.2.1 30 = .ok (.istore_n 2, 1) := by decide +kernel
theorem dC_stars_31 : decode mC_stars.2.1 31 = .ok (.aload_n 0, 1) := by decide +kernel
theorem dC_stars_32 : decode mC_stars.2.1 32 = .ok (.getfield 12, 3) := by decide +kernel
theorem dC_stars_35 : decode mC_stars.2.1 35 = .ok (.iload_n 1, 1) := by decide +kernel
theorem dC_stars_36 : decode mC_stars.2.1 36 = .ok (.putfield 136, 3) := by decide +kernel
theorem dC_stars_39 : decode mC_stars.2.1 39 = .ok (.iload_n 2, 1) := by decide +kernel
theorem dC_stars_40 : decode mC_stars.2.1 40 = .ok (.ireturn, 1) := by decide +kernel
theorem dC_strict_0 : decode mC_strict.2.1 0 = .ok (.iload_n 1, 1) := by decide +kernel
theorem dC_strict_1 : decode mC_strict.2.1 1 = .ok (.iconst 1, 1) := by decide +kernel
theorem dC_strict_2 : decode mC_strict.2.1 2 = .ok (.if_icmp .lt 9, 3) := by decide +kernel
theorem dC_strict_5 : decode mC_strict.2.1 5 = .ok (.iload_n 1, 1) := by decide +kernel
theorem dC_strict_6 : decode mC_strict.2.1 6 = .ok (.bipush 9, 2) := by decide +kernel
theorem dC_strict_8 : decode mC_strict.2.1 8 = .ok (.if_icmp .le 6, 3) := by decide +kernel
theorem dC_strict_11 : decode mC_strict.2.1 11 = .ok (.bipush (-2), 2) := by decide +kernel
theorem dC_strict_13 : decode mC_strict.2.1 13 = .ok (.ireturn, 1) := by decide +kernel
theorem dC_strict_14 : decode mC_strict.2.1 14 = .ok (.aload_n 0, 1) := by decide +kernel
theorem dC_strict_15 : decode mC_strict.2.1 15 = .ok (.getfield 12, 3) := by decide +kernel
theorem dC_strict_18 : decode mC_strict.2.1 18 = .ok (.invokevirtual 126, 3) := by decide +kernel
theorem dC_strict_21 : decode mC_strict.2.1 21 = .ok (.ifCond .ne 6, 3) := by decide +kernel
theorem dC_strict_24 : decode mC_strict.2.1 24 = .ok (.bipush (-3), 2) := by decide +kernel
theorem dC_strict_26 : decode mC_strict.2.1 26 = .ok (.ireturn, 1) := by decide +kernel
theorem dC_strict_27 : decode mC_strict.2.1 27 = .ok (.aload_n 0, 1) := by decide +kernel
theorem dC_strict_28 : decode mC_strict.2.1 28 = .ok (.getfield 12, 3) := by decide +kernel
theorem dC_strict_31 : decode mC_strict.2.1 31 = .ok (.getfield 130, 3) := by decide +kernel
theorem dC_strict_34 : decode mC_strict.2.1 34 = .ok (.istore_n 2, 1) := by decide +kernel
theorem dC_strict_35 : decode mC_strict.2.1 35 = .ok (.aload_n 0, 1) := by decide +kernel
theorem dC_strict_36 : decode mC_strict.2.1 36 = .ok (.getfield 12, 3) := by decide +kernel
theorem dC_strict_39 : decode mC_strict.2.1 39 = .ok (.iload_n 1, 1) := by decide +kernel
theorem dC_strict_40 : decode mC_strict.2.1 40 = .ok (.putfield 130, 3) := by decide +kernel
theorem dC_strict_43 : decode mC_strict.2.1 43 = .ok (.iload_n 2, 1) := by decide +kernel
theorem dC_strict_44 : decode mC_strict.2.1 44 = .ok (.ireturn, 1) := by decide +kernel
theorem dC_tastes_0 : decode mC_tastes.2.1 0 = .ok (.aload_n 0, 1) := by decide +kernel
theorem dC_tastes_1 : decode mC_tastes.2.1 1 = .ok (.getfield 12, 3) := by decide +kernel
theorem dC_tastes_4 : decode mC_tastes.2.1 4 = .ok (.iload_n 1, 1) := by decide +kernel
theorem dC_tastes_5 : decode mC_tastes.2.1 5 = .ok (.invokevirtual 101, 3) := by decide +kernel
theorem dC_tastes_8 : decode mC_tastes.2.1 8 = .ok (.ifCond .ne 5, 3) := by decide +kernel
theorem dC_tastes_11 : decode mC_tastes.2.1 11 = .ok (.iconst (-1), 1) := by decide +kernel
theorem dC_tastes_12 : decode mC_tastes.2.1 12 = .ok (.ireturn, 1) := by decide +kernel
theorem dC_tastes_13 : decode mC_tastes.2.1 13 = .ok (.aload_n 0, 1) := by decide +kernel
theorem dC_tastes_14 : decode mC_tastes.2.1 14 = .ok (.aload_n 0, 1) := by decide +kernel
theorem dC_tastes_15 : decode mC_tastes.2.1 15 = .ok (.getfield 12, 3) := by decide +kernel
theorem dC_tastes_18 : decode mC_tastes.2.1 18 = .ok (.getfield 108, 3) := by decide +kernel
theorem dC_tastes_21 : decode mC_tastes.2.1 21 = .ok (.iload_n 1, 1) := by decide +kernel
theorem dC_tastes_22 : decode mC_tastes.2.1 22 = .ok (.bipush 10, 2) := by decide +kernel
theorem dC_tastes_24 : decode mC_tastes.2.1 24 = .ok (.invokevirtual 190, 3) := by decide +kernel
theorem dC_tastes_27 : decode mC_tastes.2.1 27 = .ok (.ireturn, 1) := by decide +kernel
theorem dC_tell_0 : decode mC_tell.2.1 0 = .ok (.aload_n 0, 1) := by decide +kernel
theorem dC_tell_1 : decode mC_tell.2.1 1 = .ok (.getfield 12, 3) := by decide +kernel
theorem dC_tell_4 : decode mC_tell.2.1 4 = .ok (.iload_n 1, 1) := by decide +kernel
theorem dC_tell_5 : decode mC_tell.2.1 5 = .ok (.invokevirtual 101, 3) := by decide +kernel
theorem dC_tell_8 : decode mC_tell.2.1 8 = .ok (.ifCond .ne 5, 3) := by decide +kernel
theorem dC_tell_11 : decode mC_tell.2.1 11 = .ok (.iconst (-1), 1) := by decide +kernel
theorem dC_tell_12 : decode mC_tell.2.1 12 = .ok (.ireturn, 1) := by decide +kernel
theorem dC_tell_13 : decode mC_tell.2.1 13 = .ok (.aload_n 0, 1) := by decide +kernel
theorem dC_tell_14 : decode mC_tell.2.1 14 = .ok (.getfield 12, 3) := by decide +kernel
theorem dC_tell_17 : decode mC_tell.2.1 17 = .ok (.getfield 104, 3) := by decide +kernel
theorem dC_tell_20 : decode mC_tell.2.1 20 = .ok (.iload_n 1, 1) := by decide +kernel
theorem dC_tell_21 : decode mC_tell.2.1 21 = .ok (.iaload, 1) := by decide +kernel
theorem dC_tell_22 : decode mC_tell.2.1 22 = .ok (.lookupswitch 38 #[(1, 32), (2, 26)], 26) := by decide +kernel
theorem dC_tell_48 : decode mC_tell.2.1 48 = .ok (.aload_n 0, 1) := by decide +kernel
theorem dC_tell_49 : decode mC_tell.2.1 49 = .ok (.iload_n 1, 1) := by decide +kernel
theorem dC_tell_50 : decode mC_tell.2.1 50 = .ok (.invokevirtual 223, 3) := by decide +kernel
theorem dC_tell_53 : decode mC_tell.2.1 53 = .ok (.ireturn, 1) := by decide +kernel
theorem dC_tell_54 : decode mC_tell.2.1 54 = .ok (.aload_n 0, 1) := by decide +kernel
theorem dC_tell_55 : decode mC_tell.2.1 55 = .ok (.iload_n 1, 1) := by decide +kernel
theorem dC_tell_56 : decode mC_tell.2.1 56 = .ok (.invokevirtual 226, 3) := by decide +kernel
theorem dC_tell_59 : decode mC_tell.2.1 59 = .ok (.ireturn, 1) := by decide +kernel
theorem dC_tell_60 : decode mC_tell.2.1 60 = .ok (.aload_n 0, 1) := by decide +kernel
theorem dC_tell_61 : decode mC_tell.2.1 61 = .ok (.iload_n 1, 1) := by decide +kernel
theorem dC_tell_62 : decode mC_tell.2.1 62 = .ok (.invokevirtual 229, 3) := by decide +kernel
theorem dC_tell_65 : decode mC_tell.2.1 65 = .ok (.ireturn, 1) := by decide +kernel
theorem dC_tellAsCritic_0 : decode mC_tellAsCritic.2.1 0 = .ok (.aload_n 0, 1) := by decide +kernel
theorem dC_tellAsCritic_1 : decode mC_tellAsCritic.2.1 1 = .ok (.iconst 2, 1) := by decide +kernel
theorem dC_tellAsCritic_2 : decode mC_tellAsCritic.2.1 2 = .ok (.invokevirtual 232, 3) := by decide +kernel
theorem dC_tellAsCritic_5 : decode mC_tellAsCritic.2.1 5 = .ok (.aload_n 0, 1) := by decide +kernel
theorem dC_tellAsCritic_6 : decode mC_tellAsCritic.2.1 6 = .ok (.iload_n 1, 1) := by decide +kernel
theorem dC_tellAsCritic_7 : decode mC_tellAsCritic.2.1 7 = .ok (.invokevirtual 229, 3) := by decide +kernel
theorem dC_tellAsCritic_10 : decode mC_tellAsCritic.2.1 10 = .ok (.bipush 100, 2) := by decide +kernel
theorem dC_tellAsCritic_12 : decode mC_tellAsCritic.2.1 12 = .ok (.iadd, 1) := by decide +kernel
theorem dC_tellAsCritic_13 : decode mC_tellAsCritic.2.1 13 = .ok (.ireturn, 1) := by decide +kernel
theorem dC_tellAsGuest_0 : decode mC_tellAsGuest.2.1 0 = .ok (.aload_n 0, 1) := by decide +kernel
theorem dC_tellAsGuest_1 : decode mC_tellAsGuest.2.1 1 = .ok (.iconst 1, 1) := by decide +kernel
theorem dC_tellAsGuest_2 : decode mC_tellAsGuest.2.1 2 = .ok (.invokevirtual 232, 3) := by decide +kernel
theorem dC_tellAsGuest_5 : decode mC_tellAsGuest.2.1 5 = .ok (.aload_n 0, 1) := by decide +kernel
theorem dC_tellAsGuest_6 : decode mC_tellAsGuest.2.1 6 = .ok (.getfield 12, 3) := by decide +kernel
theorem dC_tellAsGuest_9 : decode mC_tellAsGuest.2.1 9 = .ok (.getfield 108, 3) := by decide +kernel
theorem dC_tellAsGuest_12 : decode mC_tellAsGuest.2.1 12 = .ok (.iload_n 1, 1) := by decide +kernel
theorem dC_tellAsGuest_13 : decode mC_tellAsGuest.2.1 13 = .ok (.iaload, 1) := by decide +kernel
theorem dC_tellAsGuest_14 : decode mC_tellAsGuest.2.1 14 = .ok (.ireturn, 1) := by decide +kernel
theorem dC_tellAsPoet_0 : decode mC_tellAsPoet.2.1 0 = .ok (.aload_n 0, 1) := by decide +kernel
theorem dC_tellAsPoet_1 : decode mC_tellAsPoet.2.1 1 = .ok (.iconst 3, 1) := by decide +kernel
theorem dC_tellAsPoet_2 : decode mC_tellAsPoet.2.1 2 = .ok (.invokevirtual 232, 3) := by decide +kernel
theorem dC_tellAsPoet_5 : decode mC_tellAsPoet.2.1 5 = .ok (.aload_n 0, 1) := by decide +kernel
theorem dC_tellAsPoet_6 : decode mC_tellAsPoet.2.1 6 = .ok (.iload_n 1, 1) := by decide +kernel
theorem dC_tellAsPoet_7 : decode mC_tellAsPoet.2.1 7 = .ok (.invokevirtual 226, 3) := by decide +kernel
theorem dC_tellAsPoet_10 : decode mC_tellAsPoet.2.1 10 = .ok (.istore_n 2, 1) := by decide +kernel
theorem dC_tellAsPoet_11 : decode mC_tellAsPoet.2.1 11 = .ok (.iload_n 2, 1) := by decide +kernel
theorem dC_tellAsPoet_12 : decode mC_tellAsPoet.2.1 12 = .ok (.aload_n 0, 1) := by decide +kernel
theorem dC_tellAsPoet_13 : decode mC_tellAsPoet.2.1 13 = .ok (.iload_n 1, 1) := by decide +kernel
theorem dC_tellAsPoet_14 : decode mC_tellAsPoet.2.1 14 = .ok (.invokevirtual 229, 3) := by decide +kernel
theorem dC_tellAsPoet_17 : decode mC_tellAsPoet.2.1 17 = .ok (.iadd, 1) := by decide +kernel
theorem dC_tellAsPoet_18 : decode mC_tellAsPoet.2.1 18 = .ok (.ireturn, 1) := by decide +kernel
theorem dC_trace_0 : decode mC_trace.2.1 0 = .ok (.aload_n 0, 1) := by decide +kernel
theorem dC_trace_1 : decode mC_trace.2.1 1 = .ok (.getfield 236, 3) := by decide +kernel
theorem dC_trace_4 : decode mC_trace.2.1 4 = .ok (.ireturn, 1) := by decide +kernel
theorem dH_init_0 : decode mH_init.2.1 0 = .ok (.aload_n 0, 1) := by decide +kernel
theorem dH_init_1 : decode mH_init.2.1 1 = .ok (.invokespecial 3, 3) := by decide +kernel
theorem dH_init_4 : decode mH_init.2.1 4 = .ok (.aload_n 0, 1) := by decide +kernel
theorem dH_init_5 : decode mH_init.2.1 5 = .ok (.iconst 4, 1) := by decide +kernel
theorem dH_init_6 : decode mH_init.2.1 6 = .ok (.newarray .int, 2) := by decide +kernel
theorem dH_init_8 : decode mH_init.2.1 8 = .ok (.putfield 9, 3) := by decide +kernel
theorem dH_init_11 : decode mH_init.2.1 11 = .ok (.aload_n 0, 1) := by decide +kernel
theorem dH_init_12 : decode mH_init.2.1 12 = .ok (.iconst 4, 1) := by decide +kernel
theorem dH_init_13 : decode mH_init.2.1 13 = .ok (.newarray .int, 2) := by decide +kernel
theorem dH_init_15 : decode mH_init.2.1 15 = .ok (.putfield 15, 3) := by decide +kernel
theorem dH_init_18 : decode mH_init.2.1 18 = .ok (.aload_n 0, 1) := by decide +kernel
theorem dH_init_19 : decode mH_init.2.1 19 = .ok (.bipush 6, 2) := by decide +kernel
theorem dH_init_21 : decode mH_init.2.1 21 = .ok (.newarray .int, 2) := by decide +kernel
theorem dH_init_23 : decode mH_init.2.1 23 = .ok (.putfield 18, 3) := by decide +kernel
theorem dH_init_26 : decode mH_init.2.1 26 = .ok (.aload_n 0, 1) := by decide +kernel
theorem dH_init_27 : decode mH_init.2.1 27 = .ok (.bipush 6, 2) := by decide +kernel
theorem dH_init_29 : decode mH_init.2.1 29 = .ok (.newarray .int, 2) := by decide +kernel
theorem dH_init_31 : decode mH_init.2.1 31 = .ok (.putfield 21, 3) := by decide +kernel
theorem dH_init_34 : decode mH_init.2.1 34 = .ok (.aload_n 0, 1) := by decide +kernel
theorem dH_init_35 : decode mH_init.2.1 35 = .ok (.bipush 6, 2) := by decide +kernel
theorem dH_init_37 : decode mH_init.2.1 37 = .ok (.newarray .int, 2) := by decide +kernel
theorem dH_init_39 : decode mH_init.2.1 39 = .ok (.putfield 24, 3) := by decide +kernel
theorem dH_init_42 : decode mH_init.2.1 42 = .ok (.return_, 1) := by decide +kernel
theorem dH_isDoing_0 : decode mH_isDoing.2.1 0 = .ok (.iload_n 1, 1) := by decide +kernel
theorem dH_isDoing_1 : decode mH_isDoing.2.1 1 = .ok (.ifCond .lt 15, 3) := by decide +kernel
theorem dH_isDoing_4 : decode mH_isDoing.2.1 4 = .ok (.iload_n 1, 1) := by decide +kernel
theorem dH_isDoing_5 : decode mH_isDoing.2.1 5 = .ok (.aload_n 0, 1) := by decide +kernel
theorem dH_isDoing_6 : decode mH_isDoing.2.1 6 = .ok (.getfield 31, 3) := by decide +kernel
theorem dH_isDoing_9 : decode mH_isDoing.2.1 9 = .ok (.if_icmp .ge 7, 3) := by decide +kernel
theorem dH_isDoing_12 : decode mH_isDoing.2.1 12 = .ok (.iconst 1, 1) := by decide +kernel
theorem dH_isDoing_13 : decode mH_isDoing.2.1 13 = .ok (.goto 4, 3) := by decide +kernel
theorem dH_isDoing_16 : decode mH_isDoing.2.1 16 = .ok (.iconst 0, 1) := by decide +kernel
theorem dH_isDoing_17 : decode mH_isDoing.2.1 17 = .ok (.ireturn, 1) := by decide +kernel
theorem dH_isGuest_0 : decode mH_isGuest.2.1 0 = .ok (.iload_n 1, 1) := by decide +kernel
theorem dH_isGuest_1 : decode mH_isGuest.2.1 1 = .ok (.ifCond .lt 15, 3) := by decide +kernel
theorem dH_isGuest_4 : decode mH_isGuest.2.1 4 = .ok (.iload_n 1, 1) := by decide +kernel
theorem dH_isGuest_5 : decode mH_isGuest.2.1 5 = .ok (.aload_n 0, 1) := by decide +kernel
theorem dH_isGuest_6 : decode mH_isGuest.2.1 6 = .ok (.getfield 27, 3) := by decide +kernel
theorem dH_isGuest_9 : decode mH_isGuest.2.1 9 = .ok (.if_icmp .ge 7, 3) := by decide +kernel
theorem dH_isGuest_12 : decode mH_isGuest.2.1 12 = .ok (.iconst 1, 1) := by decide +kernel
theorem dH_isGuest_13 : decode mH_isGuest.2.1 13 = .ok (.goto 4, 3) := by decide +kernel
theorem dH_isGuest_16 : decode mH_isGuest.2.1 16 = .ok (.iconst 0, 1) := by decide +kernel
theorem dH_isGuest_17 : decode mH_isGuest.2.1 17 = .ok (.ireturn, 1) := by decide +kernel
theorem dH_isOpen_0 : decode mH_isOpen.2.1 0 = .ok (.aload_n 0, 1) := by decide +kernel
theorem dH_isOpen_1 : decode mH_isOpen.2.1 1 = .ok (.getfield 27, 3) := by decide +kernel
theorem dH_isOpen_4 : decode mH_isOpen.2.1 4 = .ok (.ifCond .le 7, 3) := by decide +kernel
theorem dH_isOpen_7 : decode mH_isOpen.2.1 7 = .ok (.iconst 1, 1) := by decide +kernel
theorem dH_isOpen_8 : decode mH_isOpen.2.1 8 = .ok (.goto 4, 3) := by decide +kernel
theorem dH_isOpen_11 : decode mH_isOpen.2.1 11 = .ok (.iconst 0, 1) := by decide +kernel
theorem dH_isOpen_12 : decode mH_isOpen.2.1 12 = .ok (.ireturn, 1) := by decide +kernel
theorem dH_isWon_0 : decode mH_isWon.2.1 0 = .ok (.aload_n 0, 1) := by decide +kernel
theorem dH_isWon_1 : decode mH_isWon.2.1 1 = .ok (.iload_n 1, 1) := by decide +kernel
theorem dH_isWon_2 : decode mH_isWon.2.1 2 = .ok (.iload_n 2, 1) := by decide +kernel
theorem dH_isWon_3 : decode mH_isWon.2.1 3 = .ok (.invokevirtual 44, 3) := by decide +kernel
theorem dH_isWon_6 : decode mH_isWon.2.1 6 = .ok (.aload_n 0, 1) := by decide +kernel
theorem dH_isWon_7 : decode mH_isWon.2.1 7 = .ok (.getfield 37, 3) := by decide +kernel
theorem dH_isWon_10 : decode mH_isWon.2.1 10 = .ok (.if_icmp .lt 7, 3) := by decide +kernel
theorem dH_isWon_13 : decode mH_isWon.2.1 13 = .ok (.iconst 1, 1) := by decide +kernel
theorem dH_isWon_14 : decode mH_isWon.2.1 14 = .ok (.goto 4, 3) := by decide +kernel
theorem dH_isWon_17 : decode mH_isWon.2.1 17 = .ok (.iconst 0, 1) := by decide +kernel
theorem dH_isWon_18 : decode mH_isWon.2.1 18 = .ok (.ireturn, 1) := by decide +kernel
theorem dH_kindOf_0 : decode mH_kindOf.2.1 0 = .ok (.iload_n 0, 1) := by decide +kernel
theorem dH_kindOf_1 : decode mH_kindOf.2.1 1 = .ok (.lookupswitch 31 #[(99, 29), (112, 27)], 27) := by decide +kernel
theorem dH_kindOf_28 : decode mH_kindOf.2.1 28 = .ok (.iconst 2, 1) := by decide +kernel
theorem dH_kindOf_29 : decode mH_kindOf.2.1 29 = .ok (.ireturn, 1) := by decide +kernel
theorem dH_kindOf_30 : decode mH_kindOf.2.1 30 = .ok (.iconst 1, 1) := by decide +kernel
theorem dH_kindOf_31 : decode mH_kindOf.2.1 31 = .ok (.ireturn, 1) := by decide +kernel
theorem dH_kindOf_32 : decode mH_kindOf.2.1 32 = .ok (.iconst 0, 1) := by decide +kernel
theorem dH_kindOf_33 : decode mH_kindOf.2.1 33 = .ok (.ireturn, 1) := by decide +kernel
theorem dH_open_0 : decode mH_open.2.1 0 = .ok (.aload_n 0, 1) := by decide +kernel
theorem dH_open_1 : decode mH_open.2.1 1 = .ok (.aload_n 1, 1) := by decide +kernel
theorem dH_open_2 : decode mH_open.2.1 2 = .ok (.iload_n 2, 1) := by decide +kernel
theorem dH_open_3 : decode mH_open.2.1 3 = .ok (.iconst 1, 1) := by decide +kernel
theorem dH_open_4 : decode mH_open.2.1 4 = .ok (.iadd, 1) := by decide +kernel
theorem dH_open_5 : decode mH_open.2.1 5 = .ok (.iaload, 1) := by decide +kernel
theorem dH_open_6 : decode mH_open.2.1 6 = .ok (.bipush 48, 2) := by decide +kernel
theorem dH_open_8 : decode mH_open.2.1 8 = .ok (.isub, 1) := by decide +kernel
theorem dH_open_9 : decode mH_open.2.1 9 = .ok (.putfield 34, 3) := by decide +kernel
theorem dH_open_12 : decode mH_open.2.1 12 = .ok (.aload_n 0, 1) := by decide +kernel
theorem dH_open_13 : decode mH_open.2.1 13 = .ok (.aload_n 1, 1) := by decide +kernel
theorem dH_open_14 : decode mH_open.2.1 14 = .ok (.iload_n 2, 1) := by decide +kernel
theorem dH_open_15 : decode mH_open.2.1 15 = .ok (.iconst 2, 1) := by decide +kernel
theorem dH_open_16 : decode mH_open.2.1 16 = .ok (.iadd, 1) := by decide +kernel
theorem dH_open_17 : decode mH_open.2.1 17 = .ok (.iaload, 1) := by decide +kernel
theorem dH_open_18 : decode mH_open.2.1 18 = .ok (.bipush 48, 2) := by decide +kernel
theorem dH_open_20 : decode mH_open.2.1 20 = .ok (.isub, 1) := by decide +kernel
theorem dH_open_21 : decode mH_open.2.1 21 = .ok (.putfield 37, 3) := by decide +kernel
theorem dH_open_24 : decode mH_open.2.1 24 = .ok (.aload_n 0, 1) := by decide +kernel
theorem dH_open_25 : decode mH_open.2.1 25 = .ok (.iload_n 3, 1) := by decide +kernel
theorem dH_open_26 : decode mH_open.2.1 26 = .ok (.putfield 31, 3) := by decide +kernel
theorem dH_open_29 : decode mH_open.2.1 29 = .ok (.aload_n 0, 1) := by decide +kernel
theorem dH_open_30 : decode mH_open.2.1 30 = .ok (.iload 4, 2) := by decide +kernel
theorem dH_open_32 : decode mH_open.2.1 32 = .ok (.putfield 27, 3) := by decide +kernel
theorem dH_open_35 : decode mH_open.2.1 35 = .ok (.iload_n 2, 1) := by decide +kernel
theorem dH_open_36 : decode mH_open.2.1 36 = .ok (.iconst 3, 1) := by decide +kernel
theorem dH_open_37 : decode mH_open.2.1 37 = .ok (.iadd, 1) := by decide +kernel
theorem dH_open_38 : decode mH_open.2.1 38 = .ok (.istore 5, 2) := by decide +kernel
theorem dH_open_40 : decode mH_open.2.1 40 = .ok (.iconst 0, 1) := by decide +kernel
theorem dH_open_41 : decode mH_open.2.1 41 = .ok (.istore 6, 2) := by decide +kernel
theorem dH_open_43 : decode mH_open.2.1 43 = .ok (.iload 6, 2) := by decide +kernel
theorem dH_open_45 : decode mH_open.2.1 45 = .ok (.aload_n 0, 1) := by decide +kernel
theorem dH_open_46 : decode mH_open.2.1 46 = .ok (.getfield 31, 3) := by decide +kernel
theorem dH_open_49 : decode mH_open.2.1 49 = .ok (.if_icmp .ge 44, 3) := by decide +kernel
theorem dH_open_52 : decode mH_open.2.1 52 = .ok (.aload_n 0, 1) := by decide +kernel
theorem dH_open_53 : decode mH_open.2.1 53 = .ok (.getfield 9, 3) := by decide +kernel
theorem dH_open_56 : decode mH_open.2.1 56 = .ok (.iload 6, 2) := by decide +kernel
theorem dH_open_58 : decode mH_open.2.1 58 = .ok (.aload_n 1, 1) := by decide +kernel
theorem dH_open_59 : decode mH_open.2.1 59 = .ok (.iload 5, 2) := by decide +kernel
theorem dH_open_61 : decode mH_open.2.1 61 = .ok (.iconst 1, 1) := by decide +kernel
theorem dH_open_62 : decode mH_open.2.1 62 = .ok (.iadd, 1) := by decide +kernel
theorem dH_open_63 : decode mH_open.2.1 63 = .ok (.iaload, 1) := by decide +kernel
theorem dH_open_64 : decode mH_open.2.1 64 = .ok (.bipush 48, 2) := by decide +kernel
theorem dH_open_66 : decode mH_open.2.1 66 = .ok (.isub, 1) := by decide +kernel
theorem dH_open_67 : decode mH_open.2.1 67 = .ok (.iastore, 1) := by decide +kernel
theorem dH_open_68 : decode mH_open.2.1 68 = .ok (.aload_n 0, 1) := by decide +kernel
theorem dH_open_69 : decode mH_open.2.1 69 = .ok (.getfield 15, 3) := by decide +kernel
theorem dH_open_72 : decode mH_open.2.1 72 = .ok (.iload 6, 2) := by decide +kernel
theorem dH_open_74 : decode mH_open.2.1 74 = .ok (.aload_n 1, 1) := by decide +kernel
theorem dH_open_75 : decode mH_open.2.1 75 = .ok (.iload 5, 2) := by decide +kernel
theorem dH_open_77 : decode mH_open.2.1 77 = .ok (.iconst 2, 1) := by decide +kernel
theorem dH_open_78 : decode mH_open.2.1 78 = .ok (.iadd, 1) := by decide +kernel
theorem dH_open_79 : decode mH_open.2.1 79 = .ok (.iaload, 1) := by decide +kernel
theorem dH_open_80 : decode mH_open.2.1 80 = .ok (.bipush 48, 2) := by decide +kernel
theorem dH_open_82 : decode mH_open.2.1 82 = .ok (.isub, 1) := by decide +kernel
theorem dH_open_83 : decode mH_open.2.1 83 = .ok (.iastore, 1) := by decide +kernel
theorem dH_open_84 : decode mH_open.2.1 84 = .ok (.iinc 5 3, 3) := by decide +kernel
theorem dH_open_87 : decode mH_open.2.1 87 = .ok (.iinc 6 1, 3) := by decide +kernel
theorem dH_open_90 : decode mH_open.2.1 90 = .ok (.goto (-47), 3) := by decide +kernel
theorem dH_open_93 : decode mH_open.2.1 93 = .ok (.iconst 0, 1) := by decide +kernel
theorem dH_open_94 : decode mH_open.2.1 94 = .ok (.istore 6, 2) := by decide +kernel
theorem dH_open_96 : decode mH_open.2.1 96 = .ok (.iload 6, 2) := by decide +kernel
theorem dH_open_98 : decode mH_open.2.1 98 = .ok (.aload_n 0, 1) := by decide +kernel
theorem dH_open_99 : decode mH_open.2.1 99 = .ok (.getfield 27, 3) := by decide +kernel
theorem dH_open_102 : decode mH_open.2.1 102 = .ok (.if_icmp .ge 60, 3) := by decide +kernel
theorem dH_open_105 : decode mH_open.2.1 105 = .ok (.aload_n 0, 1) := by decide +kernel
theorem dH_open_106 : decode mH_open.2.1 106 = .ok (.getfield 18, 3) := by decide +kernel
theorem dH_open_109 : decode mH_open.2.1 109 = .ok (.iload 6, 2) := by decide +kernel
theorem dH_open_111 : decode mH_open.2.1 111 = .ok (.aload_n 1, 1) := by decide +kernel
theorem dH_open_112 : decode mH_open.2.1 112 = .ok (.iload 5, 2) := by decide +kernel
theorem dH_open_114 : decode mH_open.2.1 114 = .ok (.iconst 1, 1) := by decide +kernel
theorem dH_open_115 : decode mH_open.2.1 115 = .ok (.iadd, 1) := by decide +kernel
theorem dH_open_116 : decode mH_open.2.1 116 = .ok (.iaload, 1) := by decide +kernel
theorem dH_open_117 : decode mH_open.2.1 117 = .ok (.invokestatic 40, 3) := by decide +kernel
theorem dH_open_120 : decode mH_open.2.1 120 = .ok (.iastore, 1) := by decide +kernel
theorem dH_open_121 : decode mH_open.2.1 121 = .ok (.aload_n 0, 1) := by decide +kernel
theorem dH_open_122 : decode mH_open.2.1 122 = .ok (.getfield 21, 3) := by decide +kernel
theorem dH_open_125 : decode mH_open.2.1 125 = .ok (.iload 6, 2) := by decide +kernel
theorem dH_open_127 : decode mH_open.2.1 127 = .ok (.aload_n 1, 1) := by decide +kernel
theorem dH_open_128 : decode mH_open.2.1 128 = .ok (.iload 5, 2) := by decide +kernel
theorem dH_open_130 : decode mH_open.2.1 130 = .ok (.iconst 2, 1) := by decide +kernel
theorem dH_open_131 : decode mH_open.2.1 131 = .ok (.iadd, 1) := by decide +kernel
theorem dH_open_132 : decode mH_open.2.1 132 = .ok (.iaload, 1) := by decide +kernel
theorem dH_open_133 : decode mH_open.2.1 133 = .ok (.bipush 48, 2) := by decide +kernel
theorem dH_open_135 : decode mH_open.2.1 135 = .ok (.isub, 1) := by decide +kernel
theorem dH_open_136 : decode mH_open.2.1 136 = .ok (.iastore, 1) := by decide +kernel
theorem dH_open_137 : decode mH_open.2.1 137 = .ok (.aload_n 0, 1) := by decide +kernel
theorem dH_open_138 : decode mH_open.2.1 138 = .ok (.getfield 24, 3) := by decide +kernel
theorem dH_open_141 : decode mH_open.2.1 141 = .ok (.iload 6, 2) := by decide +kernel
theorem dH_open_143 : decode mH_open.2.1 143 = .ok (.aload_n 1, 1) := by decide +kernel
theorem dH_open_144 : decode mH_open.2.1 144 = .ok (.iload 5, 2) := by decide +kernel
theorem dH_open_146 : decode mH_open.2.1 146 = .ok (.iconst 3, 1) := by decide +kernel
theorem dH_open_147 : decode mH_open.2.1 147 = .ok (.iadd, 1) := by decide +kernel
theorem dH_open_148 : decode mH_open.2.1 148 = .ok (.iaload, 1) := by decide +kernel
theorem dH_open_149 : decode mH_open.2.1 149 = .ok (.bipush 48, 2) := by decide +kernel
theorem dH_open_151 : decode mH_open.2.1 151 = .ok (.isub, 1) := by decide +kernel
theorem dH_open_152 : decode mH_open.2.1 152 = .ok (.iastore, 1) := by decide +kernel
theorem dH_open_153 : decode mH_open.2.1 153 = .ok (.iinc 5 4, 3) := by decide +kernel
theorem dH_open_156 : decode mH_open.2.1 156 = .ok (.iinc 6 1, 3) := by decide +kernel
theorem dH_open_159 : decode mH_open.2.1 159 = .ok (.goto (-63), 3) := by decide +kernel
theorem dH_open_162 : decode mH_open.2.1 162 = .ok (.return_, 1) := by decide +kernel
theorem dH_pleasure_0 : decode mH_pleasure.2.1 0 = .ok (.aload_n 0, 1) := by decide +kernel
theorem dH_pleasure_1 : decode mH_pleasure.2.1 1 = .ok (.getfield 24, 3) := by decide +kernel
theorem dH_pleasure_4 : decode mH_pleasure.2.1 4 = .ok (.iload_n 1, 1) := by decide +kernel
theorem dH_pleasure_5 : decode mH_pleasure.2.1 5 = .ok (.iaload, 1) := by decide +kernel
theorem dH_pleasure_6 : decode mH_pleasure.2.1 6 = .ok (.iload_n 2, 1) := by decide +kernel
theorem dH_pleasure_7 : decode mH_pleasure.2.1 7 = .ok (.if_icmp .ne 7, 3) := by decide +kernel
theorem dH_pleasure_10 : decode mH_pleasure.2.1 10 = .ok (.iconst 1, 1) := by decide +kernel
theorem dH_pleasure_11 : decode mH_pleasure.2.1 11 = .ok (.goto 4, 3) := by decide +kernel
theorem dH_pleasure_14 : decode mH_pleasure.2.1 14 = .ok (.iconst 0, 1) := by decide +kernel
theorem dH_pleasure_15 : decode mH_pleasure.2.1 15 = .ok (.istore_n 3, 1) := by decide +kernel
theorem dH_pleasure_16 : decode mH_pleasure.2.1 16 = .ok (.aload_n 0, 1) := by decide +kernel
theorem dH_pleasure_17 : decode mH_pleasure.2.1 17 = .ok (.getfield 9, 3) := by decide +kernel
theorem dH_pleasure_20 : decode mH_pleasure.2.1 20 = .ok (.iload_n 2, 1) := by decide +kernel
theorem dH_pleasure_21 : decode mH_pleasure.2.1 21 = .ok (.iaload, 1) := by decide +kernel
theorem dH_pleasure_22 : decode mH_pleasure.2.1 22 = .ok (.aload_n 0, 1) := by decide +kernel
theorem dH_pleasure_23 : decode mH_pleasure.2.1 23 = .ok (.getfield 21, 3) := by decide +kernel
theorem dH_pleasure_26 : decode mH_pleasure.2.1 26 = .ok (.iload_n 1, 1) := by decide +kernel
theorem dH_pleasure_27 : decode mH_pleasure.2.1 27 = .ok (.iaload, 1) := by decide +kernel
theorem dH_pleasure_28 : decode mH_pleasure.2.1 28 = .ok (.iadd, 1) := by decide +kernel
theorem dH_pleasure_29 : decode mH_pleasure.2.1 29 = .ok (.iload_n 3, 1) := by decide +kernel
theorem dH_pleasure_30 : decode mH_pleasure.2.1 30 = .ok (.ifCond .eq 7, 3) := by decide +kernel
theorem dH_pleasure_33 : decode mH_pleasure.2.1 33 = .ok (.iconst 3, 1) := by decide +kernel
theorem dH_pleasure_34 : decode mH_pleasure.2.1 34 = .ok (.goto 4, 3) := by decide +kernel
theorem dH_pleasure_37 : decode mH_pleasure.2.1 37 = .ok (.iconst 0, 1) := by decide +kernel
theorem dH_pleasure_38 : decode mH_pleasure.2.1 38 = .ok (.iadd, 1) := by decide +kernel
theorem dH_pleasure_39 : decode mH_pleasure.2.1 39 = .ok (.istore 4, 2) := by decide +kernel
theorem dH_pleasure_41 : decode mH_pleasure.2.1 41 = .ok (.aload_n 0, 1) := by decide +kernel
theorem dH_pleasure_42 : decode mH_pleasure.2.1 42 = .ok (.getfield 18, 3) := by decide +kernel
theorem dH_pleasure_45 : decode mH_pleasure.2.1 45 = .ok (.iload_n 1, 1) := by decide +kernel
theorem dH_pleasure_46 : decode mH_pleasure.2.1 46 = .ok (.iaload, 1) := by decide +kernel
theorem dH_pleasure_47 : decode mH_pleasure.2.1 47 = .ok (.lookupswitch 45 #[(1, 40), (2, 25)], 25) := by decide +kernel
theorem dH_pleasure_72 : decode mH_pleasure.2.1 72 = .ok (.iload_n 3, 1) := by decide +kernel
theorem dH_pleasure_73 : decode mH_pleasure.2.1 73 = .ok (.ifCond .eq 12, 3) := by decide +kernel
theorem dH_pleasure_76 : decode mH_pleasure.2.1 76 = .ok (.iload 4, 2) := by decide +kernel
theorem dH_pleasure_78 : decode mH_pleasure.2.1 78 = .ok (.iconst 2, 1) := by decide +kernel
theorem dH_pleasure_79 : decode mH_pleasure.2.1 79 = .ok (.idiv, 1) := by decide +kernel
theorem dH_pleasure_80 : decode mH_pleasure.2.1 80 = .ok (.iconst 2, 1) := by decide +kernel
theorem dH_pleasure_81 : decode mH_pleasure.2.1 81 = .ok (.iadd, 1) := by decide +kernel
theorem dH_pleasure_82 : decode mH_pleasure.2.1 82 = .ok (.goto 4, 3) := by decide +kernel
theorem dH_pleasure_85 : decode mH_pleasure.2.1 85 = .ok (.iconst 0, 1) := by decide +kernel
theorem dH_pleasure_86 : decode mH_pleasure.2.1 86 = .ok (.ireturn, 1) := by decide +kernel
theorem dH_pleasure_87 : decode mH_pleasure.2.1 87 = .ok (.iload 4, 2) := by decide +kernel
theorem dH_pleasure_89 : decode mH_pleasure.2.1 89 = .ok (.iconst 2, 1) := by decide +kernel
theorem dH_pleasure_90 : decode mH_pleasure.2.1 90 = .ok (.idiv, 1) := by decide +kernel
theorem dH_pleasure_91 : decode mH_pleasure.2.1 91 = .ok (.ireturn, 1) := by decide +kernel
theorem dH_pleasure_92 : decode mH_pleasure.2.1 92 = .ok (.iload 4, 2) := by decide +kernel
theorem dH_pleasure_94 : decode mH_pleasure.2.1 94 = .ok (.ireturn, 1) := by decide +kernel
theorem dH_wonBy_0 : decode mH_wonBy.2.1 0 = .ok (.iconst 0, 1) := by decide +kernel
theorem dH_wonBy_1 : decode mH_wonBy.2.1 1 = .ok (.istore_n 2, 1) := by decide +kernel
theorem dH_wonBy_2 : decode mH_wonBy.2.1 2 = .ok (.iconst 0, 1) := by decide +kernel
theorem dH_wonBy_3 : decode mH_wonBy.2.1 3 = .ok (.istore_n 3, 1) := by decide +kernel
theorem dH_wonBy_4 : decode mH_wonBy.2.1 4 = .ok (.iload_n 3, 1) := by decide +kernel
theorem dH_wonBy_5 : decode mH_wonBy.2.1 5 = .ok (.aload_n 0, 1) := by decide +kernel
theorem dH_wonBy_6 : decode mH_wonBy.2.1 6 = .ok (.getfield 27, 3) := by decide +kernel
theorem dH_wonBy_9 : decode mH_wonBy.2.1 9 = .ok (.if_icmp .ge 24, 3) := by decide +kernel
theorem dH_wonBy_12 : decode mH_wonBy.2.1 12 = .ok (.aload_n 0, 1) := by decide +kernel
theorem dH_wonBy_13 : decode mH_wonBy.2.1 13 = .ok (.iload_n 3, 1) := by decide +kernel
theorem dH_wonBy_14 : decode mH_wonBy.2.1 14 = .ok (.iload_n 1, 1) := by decide +kernel
theorem dH_wonBy_15 : decode mH_wonBy.2.1 15 = .ok (.invokevirtual 48, 3) := by decide +kernel
theorem dH_wonBy_18 : decode mH_wonBy.2.1 18 = .ok (.ifCond .eq 9, 3) := by decide +kernel
theorem dH_wonBy_21 : decode mH_wonBy.2.1 21 = .ok (.iload_n 2, 1) := by decide +kernel
theorem dH_wonBy_22 : decode mH_wonBy.2.1 22 = .ok (.iconst 1, 1) := by decide +kernel
theorem dH_wonBy_23 : decode mH_wonBy.2.1 23 = .ok (.iload_n 3, 1) := by decide +kernel
theorem dH_wonBy_24 : decode mH_wonBy.2.1 24 = .ok (.ishl, 1) := by decide +kernel
theorem dH_wonBy_25 : decode mH_wonBy.2.1 25 = .ok (.ior, 1) := by decide +kernel
theorem dH_wonBy_26 : decode mH_wonBy.2.1 26 = .ok (.istore_n 2, 1) := by decide +kernel
theorem dH_wonBy_27 : decode mH_wonBy.2.1 27 = .ok (.iinc 3 1, 3) := by decide +kernel
theorem dH_wonBy_30 : decode mH_wonBy.2.1 30 = .ok (.goto (-26), 3) := by decide +kernel
theorem dH_wonBy_33 : decode mH_wonBy.2.1 33 = .ok (.iload_n 2, 1) := by decide +kernel
theorem dH_wonBy_34 : decode mH_wonBy.2.1 34 = .ok (.ireturn, 1) := by decide +kernel
theorem dL_add_0 : decode mL_add.2.1 0 = .ok (.aload_n 0, 1) := by decide +kernel
theorem dL_add_1 : decode mL_add.2.1 1 = .ok (.getfield 9, 3) := by decide +kernel
theorem dL_add_4 : decode mL_add.2.1 4 = .ok (.aload_n 0, 1) := by decide +kernel
theorem dL_add_5 : decode mL_add.2.1 5 = .ok (.getfield 22, 3) := by decide +kernel
theorem dL_add_8 : decode mL_add.2.1 8 = .ok (.iload_n 1, 1) := by decide +kernel
theorem dL_add_9 : decode mL_add.2.1 9 = .ok (.iastore, 1) := by decide +kernel
theorem dL_add_10 : decode mL_add.2.1 10 = .ok (.aload_n 0, 1) := by decide +kernel
theorem dL_add_11 : decode mL_add.2.1 11 = .ok (.getfield 15, 3) := by decide +kernel
theorem dL_add_14 : decode mL_add.2.1 14 = .ok (.aload_n 0, 1) := by decide +kernel
theorem dL_add_15 : decode mL_add.2.1 15 = .ok (.getfield 22, 3) := by decide +kernel
theorem dL_add_18 : decode mL_add.2.1 18 = .ok (.iload_n 2, 1) := by decide +kernel
theorem dL_add_19 : decode mL_add.2.1 19 = .ok (.iastore, 1) := by decide +kernel
theorem dL_add_20 : decode mL_add.2.1 20 = .ok (.aload_n 0, 1) := by decide +kernel
theorem dL_add_21 : decode mL_add.2.1 21 = .ok (.getfield 18, 3) := by decide +kernel
theorem dL_add_24 : decode mL_add.2.1 24 = .ok (.aload_n 0, 1) := by decide +kernel
theorem dL_add_25 : decode mL_add.2.1 25 = .ok (.getfield 22, 3) := by decide +kernel
theorem dL_add_28 : decode mL_add.2.1 28 = .ok (.iload_n 3, 1) := by decide +kernel
theorem dL_add_29 : decode mL_add.2.1 29 = .ok (.bastore, 1) := by decide +kernel
theorem dL_add_30 : decode mL_add.2.1 30 = .ok (.aload_n 0, 1) := by decide +kernel
theorem dL_add_31 : decode mL_add.2.1 31 = .ok (.dup, 1) := by decide +kernel
theorem dL_add_32 : decode mL_add.2.1 32 = .ok (.getfield 22, 3) := by decide +kernel
theorem dL_add_35 : decode mL_add.2.1 35 = .ok (.iconst 1, 1) := by decide +kernel
theorem dL_add_36 : decode mL_add.2.1 36 = .ok (.iadd, 1) := by decide +kernel
theorem dL_add_37 : decode mL_add.2.1 37 = .ok (.putfield 22, 3) := by decide +kernel
theorem dL_add_40 : decode mL_add.2.1 40 = .ok (.aload_n 0, 1) := by decide +kernel
theorem dL_add_41 : decode mL_add.2.1 41 = .ok (.getfield 22, 3) := by decide +kernel
theorem dL_add_44 : decode mL_add.2.1 44 = .ok (.iconst 1, 1) := by decide +kernel
theorem dL_add_45 : decode mL_add.2.1 45 = .ok (.isub, 1) := by decide +kernel
theorem dL_add_46 : decode mL_add.2.1 46 = .ok (.ireturn, 1) := by decide +kernel
theorem dL_init_0 : decode mL_init.2.1 0 = .ok (.aload_n 0, 1) := by decide +kernel
theorem dL_init_1 : decode mL_init.2.1 1 = .ok (.invokespecial 3, 3) := by decide +kernel
theorem dL_init_4 : decode mL_init.2.1 4 = .ok (.aload_n 0, 1) := by decide +kernel
theorem dL_init_5 : decode mL_init.2.1 5 = .ok (.bipush 8, 2) := by decide +kernel
theorem dL_init_7 : decode mL_init.2.1 7 = .ok (.newarray .int, 2) := by decide +kernel
theorem dL_init_9 : decode mL_init.2.1 9 = .ok (.putfield 9, 3) := by decide +kernel
theorem dL_init_12 : decode mL_init.2.1 12 = .ok (.aload_n 0, 1) := by decide +kernel
theorem dL_init_13 : decode mL_init.2.1 13 = .ok (.bipush 8, 2) := by decide +kernel
theorem dL_init_15 : decode mL_init.2.1 15 = .ok (.newarray .int, 2) := by decide +kernel
theorem dL_init_17 : decode mL_init.2.1 17 = .ok (.putfield 15, 3) := by decide +kernel
theorem dL_init_20 : decode mL_init.2.1 20 = .ok (.aload_n 0, 1) := by decide +kernel
theorem dL_init_21 : decode mL_init.2.1 21 = .ok (.bipush 8, 2) := by decide +kernel
theorem dL_init_23 : decode mL_init.2.1 23 = .ok (.newarray .boolean, 2) := by decide +kernel
theorem dL_init_25 : decode mL_init.2.1 25 = .ok (.putfield 18, 3) := by decide +kernel
theorem dL_init_28 : decode mL_init.2.1 28 = .ok (.return_, 1) := by decide +kernel
theorem dL_isSo_0 : decode mL_isSo.2.1 0 = .ok (.iconst 0, 1) := by decide +kernel
theorem dL_isSo_1 : decode mL_isSo.2.1 1 = .ok (.istore_n 2, 1) := by decide +kernel
theorem dL_isSo_2 : decode mL_isSo.2.1 2 = .ok (.iload_n 2, 1) := by decide +kernel
theorem dL_isSo_3 : decode mL_isSo.2.1 3 = .ok (.aload_n 0, 1) := by decide +kernel
theorem dL_isSo_4 : decode mL_isSo.2.1 4 = .ok (.getfield 22, 3) := by decide +kernel
theorem dL_isSo_7 : decode mL_isSo.2.1 7 = .ok (.if_icmp .ge 36, 3) := by decide +kernel
theorem dL_isSo_10 : decode mL_isSo.2.1 10 = .ok (.aload_n 1, 1) := by decide +kernel
theorem dL_isSo_11 : decode mL_isSo.2.1 11 = .ok (.aload_n 0, 1) := by decide +kernel
theorem dL_isSo_12 : decode mL_isSo.2.1 12 = .ok (.getfield 9, 3) := by decide +kernel
theorem dL_isSo_15 : decode mL_isSo.2.1 15 = .ok (.iload_n 2, 1) := by decide +kernel
theorem dL_isSo_16 : decode mL_isSo.2.1 16 = .ok (.iaload, 1) := by decide +kernel
theorem dL_isSo_17 : decode mL_isSo.2.1 17 = .ok (.aload_n 0, 1) := by decide +kernel
theorem dL_isSo_18 : decode mL_isSo.2.1 18 = .ok (.getfield 15, 3) := by decide +kernel
theorem dL_isSo_21 : decode mL_isSo.2.1 21 = .ok (.iload_n 2, 1) := by decide +kernel
theorem dL_isSo_22 : decode mL_isSo.2.1 22 = .ok (.iaload, 1) := by decide +kernel
theorem dL_isSo_23 : decode mL_isSo.2.1 23 = .ok (.invokevirtual 26, 3) := by decide +kernel
theorem dL_isSo_26 : decode mL_isSo.2.1 26 = .ok (.aload_n 0, 1) := by decide +kernel
theorem dL_isSo_27 : decode mL_isSo.2.1 27 = .ok (.getfield 18, 3) := by decide +kernel
theorem dL_isSo_30 : decode mL_isSo.2.1 30 = .ok (.iload_n 2, 1) := by decide +kernel
theorem dL_isSo_31 : decode mL_isSo.2.1 31 = .ok (.baload, 1) := by decide +kernel
theorem dL_isSo_32 : decode mL_isSo.2.1 32 = .ok (.if_icmp .eq 5, 3) := by decide +kernel
theorem dL_isSo_35 : decode mL_isSo.2.1 35 = .ok (.iconst 0, 1) := by decide +kernel
theorem dL_isSo_36 : decode mL_isSo.2.1 36 = .ok (.ireturn, 1) := by decide +kernel
theorem dL_isSo_37 : decode mL_isSo.2.1 37 = .ok (.iinc 2 1, 3) := by decide +kernel
theorem dL_isSo_40 : decode mL_isSo.2.1 40 = .ok (.goto (-38), 3) := by decide +kernel
theorem dL_isSo_43 : decode mL_isSo.2.1 43 = .ok (.iconst 1, 1) := by decide +kernel
theorem dL_isSo_44 : decode mL_isSo.2.1 44 = .ok (.ireturn, 1) := by decide +kernel
theorem dO_init_0 : decode mO_init.2.1 0 = .ok (.aload_n 0, 1) := by decide +kernel
theorem dO_init_1 : decode mO_init.2.1 1 = .ok (.invokespecial 3, 3) := by decide +kernel
theorem dO_init_4 : decode mO_init.2.1 4 = .ok (.return_, 1) := by decide +kernel
theorem dO_live_0 : decode mO_live.2.1 0 = .ok (.aload_n 0, 1) := by decide +kernel
theorem dO_live_1 : decode mO_live.2.1 1 = .ok (.aload_n 1, 1) := by decide +kernel
theorem dO_live_2 : decode mO_live.2.1 2 = .ok (.getfield 9, 3) := by decide +kernel
theorem dO_live_5 : decode mO_live.2.1 5 = .ok (.putfield 15, 3) := by decide +kernel
theorem dO_live_8 : decode mO_live.2.1 8 = .ok (.aload_n 0, 1) := by decide +kernel
theorem dO_live_9 : decode mO_live.2.1 9 = .ok (.bipush (-9), 2) := by decide +kernel
theorem dO_live_11 : decode mO_live.2.1 11 = .ok (.putfield 18, 3) := by decide +kernel
theorem dO_live_14 : decode mO_live.2.1 14 = .ok (.aload_n 0, 1) := by decide +kernel
theorem dO_live_15 : decode mO_live.2.1 15 = .ok (.bipush (-9), 2) := by decide +kernel
theorem dO_live_17 : decode mO_live.2.1 17 = .ok (.putfield 21, 3) := by decide +kernel
theorem dO_live_20 : decode mO_live.2.1 20 = .ok (.aload_n 0, 1) := by decide +kernel
theorem dO_live_21 : decode mO_live.2.1 21 = .ok (.bipush 12, 2) := by decide +kernel
theorem dO_live_23 : decode mO_live.2.1 23 = .ok (.putfield 24, 3) := by decide +kernel
theorem dO_live_26 : decode mO_live.2.1 26 = .ok (.aload_n 0, 1) := by decide +kernel
theorem dO_live_27 : decode mO_live.2.1 27 = .ok (.iconst 0, 1) := by decide +kernel
theorem dO_live_28 : decode mO_live.2.1 28 = .ok (.putfield 27, 3) := by decide +kernel
theorem dO_live_31 : decode mO_live.2.1 31 = .ok (.iconst 0, 1) := by decide +kernel
theorem dO_live_32 : decode mO_live.2.1 32 = .ok (.istore 6, 2) := by decide +kernel
theorem dO_live_34 : decode mO_live.2.1 34 = .ok (.iload 6, 2) := by decide +kernel
theorem dO_live_36 : decode mO_live.2.1 36 = .ok (.iload 4, 2) := by decide +kernel
theorem dO_live_38 : decode mO_live.2.1 38 = .ok (.if_icmp .ge 86, 3) := by decide +kernel
theorem dO_live_41 : decode mO_live.2.1 41 = .ok (.aload_n 0, 1) := by decide +kernel
theorem dO_live_42 : decode mO_live.2.1 42 = .ok (.getfield 18, 3) := by decide +kernel
theorem dO_live_45 : decode mO_live.2.1 45 = .ok (.bipush (-9), 2) := by decide +kernel
theorem dO_live_47 : decode mO_live.2.1 47 = .ok (.if_icmp .ne 77, 3) := by decide +kernel
theorem dO_live_50 : decode mO_live.2.1 50 = .ok (.aload_n 2, 1) := by decide +kernel
theorem dO_live_51 : decode mO_live.2.1 51 = .ok (.iload_n 3, 1) := by decide +kernel
theorem dO_live_52 : decode mO_live.2.1 52 = .ok (.iconst 2, 1) := by decide +kernel
theorem dO_live_53 : decode mO_live.2.1 53 = .ok (.iload 6, 2) := by decide +kernel
theorem dO_live_55 : decode mO_live.2.1 55 = .ok (.imul, 1) := by decide +kernel
theorem dO_live_56 : decode mO_live.2.1 56 = .ok (.iadd, 1) := by decide +kernel
theorem dO_live_57 : decode mO_live.2.1 57 = .ok (.iaload, 1) := by decide +kernel
theorem dO_live_58 : decode mO_live.2.1 58 = .ok (.istore 7, 2) := by decide +kernel
theorem dO_live_60 : decode mO_live.2.1 60 = .ok (.aload_n 2, 1) := by decide +kernel
theorem dO_live_61 : decode mO_live.2.1 61 = .ok (.iload_n 3, 1) := by decide +kernel
theorem dO_live_62 : decode mO_live.2.1 62 = .ok (.iconst 2, 1) := by decide +kernel
theorem dO_live_63 : decode mO_live.2.1 63 = .ok (.iload 6, 2) := by decide +kernel
theorem dO_live_65 : decode mO_live.2.1 65 = .ok (.imul, 1) := by decide +kernel
theorem dO_live_66 : decode mO_live.2.1 66 = .ok (.iadd, 1) := by decide +kernel
theorem dO_live_67 : decode mO_live.2.1 67 = .ok (.iconst 1, 1) := by decide +kernel
theorem dO_live_68 : decode mO_live.2.1 68 = .ok (.iadd, 1) := by decide +kernel
theorem dO_live_69 : decode mO_live.2.1 69 = .ok (.iaload, 1) := by decide +kernel
theorem dO_live_70 : decode mO_live.2.1 70 = .ok (.istore 8, 2) := by decide +kernel
theorem dO_live_72 : decode mO_live.2.1 72 = .ok (.aload_n 1, 1) := by decide +kernel
theorem dO_live_73 : decode mO_live.2.1 73 = .ok (.getfield 30, 3) := by decide +kernel
theorem dO_live_76 : decode mO_live.2.1 76 = .ok (.iload 8, 2) := by decide +kernel
theorem dO_live_78 : decode mO_live.2.1 78 = .ok (.iaload, 1) := by decide +kernel
theorem dO_live_79 : decode mO_live.2.1 79 = .ok (.aload_n 0, 1) := by decide +kernel
theorem dO_live_80 : decode mO_live.2.1 80 = .ok (.getfield 24, 3) := by decide +kernel
theorem dO_live_83 : decode mO_live.2.1 83 = .ok (.if_icmp .le 12, 3) := by decide +kernel
theorem dO_live_86 : decode mO_live.2.1 86 = .ok (.aload_n 0, 1) := by decide +kernel
theorem dO_live_87 : decode mO_live.2.1 87 = .ok (.iload 6, 2) := by decide +kernel
theorem dO_live_89 : decode mO_live.2.1 89 = .ok (.putfield 18, 3) := by decide +kernel
theorem dO_live_92 : decode mO_live.2.1 92 = .ok (.goto 26, 3) := by decide +kernel
theorem dO_live_95 : decode mO_live.2.1 95 = .ok (.aload_n 0, 1) := by decide +kernel
theorem dO_live_96 : decode mO_live.2.1 96 = .ok (.aload_n 1, 1) := by decide +kernel
theorem dO_live_97 : decode mO_live.2.1 97 = .ok (.iload 6, 2) := by decide +kernel
theorem dO_live_99 : decode mO_live.2.1 99 = .ok (.iload 7, 2) := by decide +kernel
theorem dO_live_101 : decode mO_live.2.1 101 = .ok (.iload 8, 2) := by decide +kernel
theorem dO_live_103 : decode mO_live.2.1 103 = .ok (.iload 7, 2) := by decide +kernel
theorem dO_live_105 : decode mO_live.2.1 105 = .ok (.iload 5, 2) := by decide +kernel
theorem dO_live_107 : decode mO_live.2.1 107 = .ok (.if_icmp .ne 7, 3) := by decide +kernel
theorem dO_live_110 : decode mO_live.2.1 110 = .ok (.iconst 1, 1) := by decide +kernel
theorem dO_live_111 : decode mO_live.2.1 111 = .ok (.goto 4, 3) := by decide +kernel
theorem dO_live_114 : decode mO_live.2.1 114 = .ok (.iconst 0, 1) := by decide +kernel
theorem dO_live_115 : decode mO_live.2.1 115 = .ok (.invokevirtual 34, 3) := by decide +kernel
theorem dO_live_118 : decode mO_live.2.1 118 = .ok (.iinc 6 1, 3) := by decide +kernel
theorem dO_live_121 : decode mO_live.2.1 121 = .ok (.goto (-87), 3) := by decide +kernel
theorem dO_live_124 : decode mO_live.2.1 124 = .ok (.return_, 1) := by decide +kernel
theorem dO_pay_0 : decode mO_pay.2.1 0 = .ok (.aload_n 0, 1) := by decide +kernel
theorem dO_pay_1 : decode mO_pay.2.1 1 = .ok (.dup, 1) := by decide +kernel
theorem dO_pay_2 : decode mO_pay.2.1 2 = .ok (.getfield 24, 3) := by decide +kernel
theorem dO_pay_5 : decode mO_pay.2.1 5 = .ok (.aload_n 1, 1) := by decide +kernel
theorem dO_pay_6 : decode mO_pay.2.1 6 = .ok (.getfield 30, 3) := by decide +kernel
theorem dO_pay_9 : decode mO_pay.2.1 9 = .ok (.iload 4, 2) := by decide +kernel
theorem dO_pay_11 : decode mO_pay.2.1 11 = .ok (.iaload, 1) := by decide +kernel
theorem dO_pay_12 : decode mO_pay.2.1 12 = .ok (.isub, 1) := by decide +kernel
theorem dO_pay_13 : decode mO_pay.2.1 13 = .ok (.putfield 24, 3) := by decide +kernel
theorem dO_pay_16 : decode mO_pay.2.1 16 = .ok (.aload_n 0, 1) := by decide +kernel
theorem dO_pay_17 : decode mO_pay.2.1 17 = .ok (.dup, 1) := by decide +kernel
theorem dO_pay_18 : decode mO_pay.2.1 18 = .ok (.getfield 27, 3) := by decide +kernel
theorem dO_pay_21 : decode mO_pay.2.1 21 = .ok (.aload_n 1, 1) := by decide +kernel
theorem dO_pay_22 : decode mO_pay.2.1 22 = .ok (.iload_n 3, 1) := by decide +kernel
theorem dO_pay_23 : decode mO_pay.2.1 23 = .ok (.iload 4, 2) := by decide +kernel
theorem dO_pay_25 : decode mO_pay.2.1 25 = .ok (.invokevirtual 38, 3) := by decide +kernel
theorem dO_pay_28 : decode mO_pay.2.1 28 = .ok (.iadd, 1) := by decide +kernel
theorem dO_pay_29 : decode mO_pay.2.1 29 = .ok (.putfield 27, 3) := by decide +kernel
theorem dO_pay_32 : decode mO_pay.2.1 32 = .ok (.iload 5, 2) := by decide +kernel
theorem dO_pay_34 : decode mO_pay.2.1 34 = .ok (.ifCond .eq 42, 3) := by decide +kernel
theorem dO_pay_37 : decode mO_pay.2.1 37 = .ok (.aload_n 0, 1) := by decide +kernel
theorem dO_pay_38 : decode mO_pay.2.1 38 = .ok (.getfield 15, 3) := by decide +kernel
theorem dO_pay_41 : decode mO_pay.2.1 41 = .ok (.ifCond .le 35, 3) := by decide +kernel
theorem dO_pay_44 : decode mO_pay.2.1 44 = .ok (.aload_n 1, 1) := by decide +kernel
theorem dO_pay_45 : decode mO_pay.2.1 45 = .ok (.iload_n 3, 1) := by decide +kernel
theorem dO_pay_46 : decode mO_pay.2.1 46 = .ok (.iload 4, 2) := by decide +kernel
theorem dO_pay_48 : decode mO_pay.2.1 48 = .ok (.invokevirtual 41, 3) := by decide +kernel
theorem dO_pay_51 : decode mO_pay.2.1 51 = .ok (.ifCond .eq 25, 3) := by decide +kernel
theorem dO_pay_54 : decode mO_pay.2.1 54 = .ok (.aload_n 0, 1) := by decide +kernel
theorem dO_pay_55 : decode mO_pay.2.1 55 = .ok (.dup, 1) := by decide +kernel
theorem dO_pay_56 : decode mO_pay.2.1 56 = .ok (.getfield 15, 3) := by decide +kernel
theorem dO_pay_59 : decode mO_pay.2.1 59 = .ok (.iconst 1, 1) := by decide +kernel
theorem dO_pay_60 : decode mO_pay.2.1 60 = .ok (.isub, 1) := by decide +kernel
theorem dO_pay_61 : decode mO_pay.2.1 61 = .ok (.putfield 15, 3) := by decide +kernel
theorem dO_pay_64 : decode mO_pay.2.1 64 = .ok (.aload_n 0, 1) := by decide +kernel
theorem dO_pay_65 : decode mO_pay.2.1 65 = .ok (.getfield 15, 3) := by decide +kernel
theorem dO_pay_68 : decode mO_pay.2.1 68 = .ok (.ifCond .ne 8, 3) := by decide +kernel
theorem dO_pay_71 : decode mO_pay.2.1 71 = .ok (.aload_n 0, 1) := by decide +kernel
theorem dO_pay_72 : decode mO_pay.2.1 72 = .ok (.iload_n 2, 1) := by decide +kernel
theorem dO_pay_73 : decode mO_pay.2.1 73 = .ok (.putfield 21, 3) := by decide +kernel
theorem dO_pay_76 : decode mO_pay.2.1 76 = .ok (.return_, 1) := by decide +kernel
theorem dP_choose_0 : decode mP_choose.2.1 0 = .ok (.bipush 12, 2) := by decide +kernel
theorem dP_choose_2 : decode mP_choose.2.1 2 = .ok (.istore_n 2, 1) := by decide +kernel
theorem dP_choose_3 : decode mP_choose.2.1 3 = .ok (.aload_n 0, 1) := by decide +kernel
theorem dP_choose_4 : decode mP_choose.2.1 4 = .ok (.iconst 0, 1) := by decide +kernel
theorem dP_choose_5 : decode mP_choose.2.1 5 = .ok (.putfield 58, 3) := by decide +kernel
theorem dP_choose_8 : decode mP_choose.2.1 8 = .ok (.iconst 0, 1) := by decide +kernel
theorem dP_choose_9 : decode mP_choose.2.1 9 = .ok (.istore_n 3, 1) := by decide +kernel
theorem dP_choose_10 : decode mP_choose.2.1 10 = .ok (.iload_n 3, 1) := by decide +kernel
theorem dP_choose_11 : decode mP_choose.2.1 11 = .ok (.aload_n 1, 1) := by decide +kernel
theorem dP_choose_12 : decode mP_choose.2.1 12 = .ok (.getfield 20, 3) := by decide +kernel
theorem dP_choose_15 : decode mP_choose.2.1 15 = .ok (.if_icmp .ge 56, 3) := by decide +kernel
theorem dP_choose_18 : decode mP_choose.2.1 18 = .ok (.aload_n 0, 1) := by decide +kernel
theorem dP_choose_19 : decode mP_choose.2.1 19 = .ok (.aload_n 1, 1) := by decide +kernel
theorem dP_choose_20 : decode mP_choose.2.1 20 = .ok (.iload_n 3, 1) := by decide +kernel
theorem dP_choose_21 : decode mP_choose.2.1 21 = .ok (.iload_n 2, 1) := by decide +kernel
theorem dP_choose_22 : decode mP_choose.2.1 22 = .ok (.invokevirtual 61, 3) := by decide +kernel
theorem dP_choose_25 : decode mP_choose.2.1 25 = .ok (.istore 4, 2) := by decide +kernel
theorem dP_choose_27 : decode mP_choose.2.1 27 = .ok (.aload_n 0, 1) := by decide +kernel
theorem dP_choose_28 : decode mP_choose.2.1 28 = .ok (.getfield 16, 3) := by decide +kernel
theorem dP_choose_31 : decode mP_choose.2.1 31 = .ok (.iload_n 3, 1) := by decide +kernel
theorem dP_choose_32 : decode mP_choose.2.1 32 = .ok (.iload 4, 2) := by decide +kernel
theorem dP_choose_34 : decode mP_choose.2.1 34 = .ok (.iastore, 1) := by decide +kernel
theorem dP_choose_35 : decode mP_choose.2.1 35 = .ok (.iload_n 2, 1) := by decide +kernel
theorem dP_choose_36 : decode mP_choose.2.1 36 = .ok (.aload_n 1, 1) := by decide +kernel
theorem dP_choose_37 : decode mP_choose.2.1 37 = .ok (.getfield 48, 3) := by decide +kernel
theorem dP_choose_40 : decode mP_choose.2.1 40 = .ok (.iload 4, 2) := by decide +kernel
theorem dP_choose_42 : decode mP_choose.2.1 42 = .ok (.iaload, 1) := by decide +kernel
theorem dP_choose_43 : decode mP_choose.2.1 43 = .ok (.isub, 1) := by decide +kernel
theorem dP_choose_44 : decode mP_choose.2.1 44 = .ok (.istore_n 2, 1) := by decide +kernel
theorem dP_choose_45 : decode mP_choose.2.1 45 = .ok (.aload_n 1, 1) := by decide +kernel
theorem dP_choose_46 : decode mP_choose.2.1 46 = .ok (.iload_n 3, 1) := by decide +kernel
theorem dP_choose_47 : decode mP_choose.2.1 47 = .ok (.iload 4, 2) := by decide +kernel
theorem dP_choose_49 : decode mP_choose.2.1 49 = .ok (.invokevirtual 51, 3) := by decide +kernel
theorem dP_choose_52 : decode mP_choose.2.1 52 = .ok (.ifCond .eq 13, 3) := by decide +kernel
theorem dP_choose_55 : decode mP_choose.2.1 55 = .ok (.aload_n 0, 1) := by decide +kernel
theorem dP_choose_56 : decode mP_choose.2.1 56 = .ok (.dup, 1) := by decide +kernel
theorem dP_choose_57 : decode mP_choose.2.1 57 = .ok (.getfield 58, 3) := by decide +kernel
theorem dP_choose_60 : decode mP_choose.2.1 60 = .ok (.iconst 1, 1) := by decide +kernel
theorem dP_choose_61 : decode mP_choose.2.1 61 = .ok (.iadd, 1) := by decide +kernel
theorem dP_choose_62 : decode mP_choose.2.1 62 = .ok (.putfield 58, 3) := by decide +kernel
theorem dP_choose_65 : decode mP_choose.2.1 65 = .ok (.iinc 3 1, 3) := by decide +kernel
theorem dP_choose_68 : decode mP_choose.2.1 68 = .ok (.goto (-58), 3) := by decide +kernel
theorem dP_choose_71 : decode mP_choose.2.1 71 = .ok (.return_, 1) := by decide +kernel
theorem dP_firstBest_0 : decode mP_firstBest.2.1 0 = .ok (.iconst 0, 1) := by decide +kernel
theorem dP_firstBest_1 : decode mP_firstBest.2.1 1 = .ok (.istore 4, 2) := by decide +kernel
theorem dP_firstBest_3 : decode mP_firstBest.2.1 3 = .ok (.iload 4, 2) := by decide +kernel
theorem dP_firstBest_5 : decode mP_firstBest.2.1 5 = .ok (.aload_n 1, 1) := by decide +kernel
theorem dP_firstBest_6 : decode mP_firstBest.2.1 6 = .ok (.getfield 35, 3) := by decide +kernel
theorem dP_firstBest_9 : decode mP_firstBest.2.1 9 = .ok (.if_icmp .ge 32, 3) := by decide +kernel
theorem dP_firstBest_12 : decode mP_firstBest.2.1 12 = .ok (.aload_n 0, 1) := by decide +kernel
theorem dP_firstBest_13 : decode mP_firstBest.2.1 13 = .ok (.aload_n 1, 1) := by decide +kernel
theorem dP_firstBest_14 : decode mP_firstBest.2.1 14 = .ok (.iload_n 2, 1) := by decide +kernel
theorem dP_firstBest_15 : decode mP_firstBest.2.1 15 = .ok (.iload 4, 2) := by decide +kernel
theorem dP_firstBest_17 : decode mP_firstBest.2.1 17 = .ok (.iload_n 3, 1) := by decide +kernel
theorem dP_firstBest_18 : decode mP_firstBest.2.1 18 = .ok (.invokevirtual 38, 3) := by decide +kernel
theorem dP_firstBest_21 : decode mP_firstBest.2.1 21 = .ok (.aload_n 0, 1) := by decide +kernel
theorem dP_firstBest_22 : decode mP_firstBest.2.1 22 = .ok (.getfield 11, 3) := by decide +kernel
theorem dP_firstBest_25 : decode mP_firstBest.2.1 25 = .ok (.iload_n 2, 1) := by decide +kernel
theorem dP_firstBest_26 : decode mP_firstBest.2.1 26 = .ok (.aaload, 1) := by decide +kernel
theorem dP_firstBest_27 : decode mP_firstBest.2.1 27 = .ok (.iload_n 3, 1) := by decide +kernel
theorem dP_firstBest_28 : decode mP_firstBest.2.1 28 = .ok (.iaload, 1) := by decide +kernel
theorem dP_firstBest_29 : decode mP_firstBest.2.1 29 = .ok (.if_icmp .ne 6, 3) := by decide +kernel
theorem dP_firstBest_32 : decode mP_firstBest.2.1 32 = .ok (.iload 4, 2) := by decide +kernel
theorem dP_firstBest_34 : decode mP_firstBest.2.1 34 = .ok (.ireturn, 1) := by decide +kernel
theorem dP_firstBest_35 : decode mP_firstBest.2.1 35 = .ok (.iinc 4 1, 3) := by decide +kernel
theorem dP_firstBest_38 : decode mP_firstBest.2.1 38 = .ok (.goto (-35), 3) := by decide +kernel
theorem dP_firstBest_41 : decode mP_firstBest.2.1 41 = .ok (.iconst 0, 1) := by decide +kernel
theorem dP_firstBest_42 : decode mP_firstBest.2.1 42 = .ok (.ireturn, 1) := by decide +kernel
theorem dP_init_0 : decode mP_init.2.1 0 = .ok (.aload_n 0, 1) := by decide +kernel
theorem dP_init_1 : decode mP_init.2.1 1 = .ok (.invokespecial 3, 3) := by decide +kernel
theorem dP_init_4 : decode mP_init.2.1 4 = .ok (.aload_n 0, 1) := by decide +kernel
theorem dP_init_5 : decode mP_init.2.1 5 = .ok (.bipush 7, 2) := by decide +kernel
theorem dP_init_7 : decode mP_init.2.1 7 = .ok (.bipush 13, 2) := by decide +kernel
theorem dP_init_9 : decode mP_init.2.1 9 = .ok (.multianewarray 9 2, 4) := by decide +kernel
theorem dP_init_13 : decode mP_init.2.1 13 = .ok (.putfield 11, 3) := by decide +kernel
theorem dP_init_16 : decode mP_init.2.1 16 = .ok (.aload_n 0, 1) := by decide +kernel
theorem dP_init_17 : decode mP_init.2.1 17 = .ok (.bipush 6, 2) := by decide +kernel
theorem dP_init_19 : decode mP_init.2.1 19 = .ok (.newarray .int, 2) := by decide +kernel
theorem dP_init_21 : decode mP_init.2.1 21 = .ok (.putfield 16, 3) := by decide +kernel
theorem dP_init_24 : decode mP_init.2.1 24 = .ok (.return_, 1) := by decide +kernel
theorem dP_isMade_0 : decode mP_isMade.2.1 0 = .ok (.iconst 0, 1) := by decide +kernel
theorem dP_isMade_1 : decode mP_isMade.2.1 1 = .ok (.istore_n 2, 1) := by decide +kernel
theorem dP_isMade_2 : decode mP_isMade.2.1 2 = .ok (.iload_n 2, 1) := by decide +kernel
theorem dP_isMade_3 : decode mP_isMade.2.1 3 = .ok (.bipush 12, 2) := by decide +kernel
theorem dP_isMade_5 : decode mP_isMade.2.1 5 = .ok (.if_icmp .gt 21, 3) := by decide +kernel
theorem dP_isMade_8 : decode mP_isMade.2.1 8 = .ok (.aload_n 0, 1) := by decide +kernel
theorem dP_isMade_9 : decode mP_isMade.2.1 9 = .ok (.getfield 11, 3) := by decide +kernel
theorem dP_isMade_12 : decode mP_isMade.2.1 12 = .ok (.aload_n 1, 1) := by decide +kernel
theorem dP_isMade_13 : decode mP_isMade.2.1 13 = .ok (.getfield 20, 3) := by decide +kernel
theorem dP_isMade_16 : decode mP_isMade.2.1 16 = .ok (.aaload, 1) := by decide +kernel
theorem dP_isMade_17 : decode mP_isMade.2.1 17 = .ok (.iload_n 2, 1) := by decide +kernel
theorem dP_isMade_18 : decode mP_isMade.2.1 18 = .ok (.iconst 0, 1) := by decide +kernel
theorem dP_isMade_19 : decode mP_isMade.2.1 19 = .ok (.iastore, 1) := by decide +kernel
theorem dP_isMade_20 : decode mP_isMade.2.1 20 = .ok (.iinc 2 1, 3) := by decide +kernel
theorem dP_isMade_23 : decode mP_isMade.2.1 23 = .ok (.goto (-21), 3) := by decide +kernel
theorem dP_isMade_26 : decode mP_isMade.2.1 26 = .ok (.aload_n 1, 1) := by decide +kernel
theorem dP_isMade_27 : decode mP_isMade.2.1 27 = .ok (.getfield 20, 3) := by decide +kernel
theorem dP_isMade_30 : decode mP_isMade.2.1 30 = .ok (.iconst 1, 1) := by decide +kernel
theorem dP_isMade_31 : decode mP_isMade.2.1 31 = .ok (.isub, 1) := by decide +kernel
theorem dP_isMade_32 : decode mP_isMade.2.1 32 = .ok (.istore_n 2, 1) := by decide +kernel
theorem dP_isMade_33 : decode mP_isMade.2.1 33 = .ok (.iload_n 2, 1) := by decide +kernel
theorem dP_isMade_34 : decode mP_isMade.2.1 34 = .ok (.ifCond .lt 38, 3) := by decide +kernel
theorem dP_isMade_37 : decode mP_isMade.2.1 37 = .ok (.iconst 0, 1) := by decide +kernel
theorem dP_isMade_38 : decode mP_isMade.2.1 38 = .ok (.istore_n 3, 1) := by decide +kernel
theorem dP_isMade_39 : decode mP_isMade.2.1 39 = .ok (.iload_n 3, 1) := by decide +kernel
theorem dP_isMade_40 : decode mP_isMade.2.1 40 = .ok (.bipush 12, 2) := by decide +kernel
theorem dP_isMade_42 : decode mP_isMade.2.1 42 = .ok (.if_icmp .gt 24, 3) := by decide +kernel
theorem dP_isMade_45 : decode mP_isMade.2.1 45 = .ok (.aload_n 0, 1) := by decide +kernel
theorem dP_isMade_46 : decode mP_isMade.2.1 46 = .ok (.getfield 11, 3) := by decide +kernel
theorem dP_isMade_49 : decode mP_isMade.2.1 49 = .ok (.iload_n 2, 1) := by decide +kernel
theorem dP_isMade_50 : decode mP_isMade.2.1 50 = .ok (.aaload, 1) := by decide +kernel
theorem dP_isMade_51 : decode mP_isMade.2.1 51 = .ok (.iload_n 3, 1) := by decide +kernel
theorem dP_isMade_52 : decode mP_isMade.2.1 52 = .ok (.aload_n 0, 1) := by decide +kernel
theorem dP_isMade_53 : decode mP_isMade.2.1 53 = .ok (.aload_n 1, 1) := by decide +kernel
theorem dP_isMade_54 : decode mP_isMade.2.1 54 = .ok (.iload_n 2, 1) := by decide +kernel
theorem dP_isMade_55 : decode mP_isMade.2.1 55 = .ok (.iload_n 3, 1) := by decide +kernel
theorem dP_isMade_56 : decode mP_isMade.2.1 56 = .ok (.invokevirtual 26, 3) := by decide +kernel
theorem dP_isMade_59 : decode mP_isMade.2.1 59 = .ok (.iastore, 1) := by decide +kernel
theorem dP_isMade_60 : decode mP_isMade.2.1 60 = .ok (.iinc 3 1, 3) := by decide +kernel
theorem dP_isMade_63 : decode mP_isMade.2.1 63 = .ok (.goto (-24), 3) := by decide +kernel
theorem dP_isMade_66 : decode mP_isMade.2.1 66 = .ok (.iinc 2 (-1), 3) := by decide +kernel
theorem dP_isMade_69 : decode mP_isMade.2.1 69 = .ok (.goto (-36), 3) := by decide +kernel
theorem dP_isMade_72 : decode mP_isMade.2.1 72 = .ok (.aload_n 0, 1) := by decide +kernel
theorem dP_isMade_73 : decode mP_isMade.2.1 73 = .ok (.getfield 11, 3) := by decide +kernel
theorem dP_isMade_76 : decode mP_isMade.2.1 76 = .ok (.iconst 0, 1) := by decide +kernel
theorem dP_isMade_77 : decode mP_isMade.2.1 77 = .ok (.aaload, 1) := by decide +kernel
theorem dP_isMade_78 : decode mP_isMade.2.1 78 = .ok (.bipush 12, 2) := by decide +kernel
theorem dP_isMade_80 : decode mP_isMade.2.1 80 = .ok (.iaload, 1) := by decide +kernel
theorem dP_isMade_81 : decode mP_isMade.2.1 81 = .ok (.ldc 30, 2) := by decide +kernel
theorem dP_isMade_83 : decode mP_isMade.2.1 83 = .ok (.if_icmp .ne 5, 3) := by decide +kernel
theorem dP_isMade_86 : decode mP_isMade.2.1 86 = .ok (.iconst 0, 1) := by decide +kernel
theorem dP_isMade_87 : decode mP_isMade.2.1 87 = .ok (.ireturn, 1) := by decide +kernel
theorem dP_isMade_88 : decode mP_isMade.2.1 88 = .ok (.aload_n 0, 1) := by decide +kernel
theorem dP_isMade_89 : decode mP_isMade.2.1 89 = .ok (.aload_n 1, 1) := by decide +kernel
theorem dP_isMade_90 : decode mP_isMade.2.1 90 = .ok (.invokevirtual 31, 3) := by decide +kernel
theorem dP_isMade_93 : decode mP_isMade.2.1 93 = .ok (.iconst 1, 1) := by decide +kernel
theorem dP_isMade_94 : decode mP_isMade.2.1 94 = .ok (.ireturn, 1) := by decide +kernel
theorem dP_leastOf_0 : decode mP_leastOf.2.1 0 = .ok (.ldc 30, 2) := by decide +kernel
theorem dP_leastOf_2 : decode mP_leastOf.2.1 2 = .ok (.istore 4, 2) := by decide +kernel
theorem dP_leastOf_4 : decode mP_leastOf.2.1 4 = .ok (.iconst 0, 1) := by decide +kernel
theorem dP_leastOf_5 : decode mP_leastOf.2.1 5 = .ok (.istore 5, 2) := by decide +kernel
theorem dP_leastOf_7 : decode mP_leastOf.2.1 7 = .ok (.iload 5, 2) := by decide +kernel
theorem dP_leastOf_9 : decode mP_leastOf.2.1 9 = .ok (.aload_n 1, 1) := by decide +kernel
theorem dP_leastOf_10 : decode mP_leastOf.2.1 10 = .ok (.getfield 35, 3) := by decide +kernel
theorem dP_leastOf_13 : decode mP_leastOf.2.1 13 = .ok (.if_icmp .ge 25, 3) := by decide +kernel
theorem dP_leastOf_16 : decode mP_leastOf.2.1 16 = .ok (.iload 4, 2) := by decide +kernel
theorem dP_leastOf_18 : decode mP_leastOf.2.1 18 = .ok (.aload_n 0, 1) := by decide +kernel
theorem dP_leastOf_19 : decode mP_leastOf.2.1 19 = .ok (.aload_n 1, 1) := by decide +kernel
theorem dP_leastOf_20 : decode mP_leastOf.2.1 20 = .ok (.iload_n 2, 1) := by decide +kernel
theorem dP_leastOf_21 : decode mP_leastOf.2.1 21 = .ok (.iload 5, 2) := by decide +kernel
theorem dP_leastOf_23 : decode mP_leastOf.2.1 23 = .ok (.iload_n 3, 1) := by decide +kernel
theorem dP_leastOf_24 : decode mP_leastOf.2.1 24 = .ok (.invokevirtual 38, 3) := by decide +kernel
theorem dP_leastOf_27 : decode mP_leastOf.2.1 27 = .ok (.invokestatic 42, 3) := by decide +kernel
theorem dP_leastOf_30 : decode mP_leastOf.2.1 30 = .ok (.istore 4, 2) := by decide +kernel
theorem dP_leastOf_32 : decode mP_leastOf.2.1 32 = .ok (.iinc 5 1, 3) := by decide +kernel
theorem dP_leastOf_35 : decode mP_leastOf.2.1 35 = .ok (.goto (-28), 3) := by decide +kernel
theorem dP_leastOf_38 : decode mP_leastOf.2.1 38 = .ok (.iload 4, 2) := by decide +kernel
theorem dP_leastOf_40 : decode mP_leastOf.2.1 40 = .ok (.ireturn, 1) := by decide +kernel
theorem dP_weight_0 : decode mP_weight.2.1 0 = .ok (.iload 4, 2) := by decide +kernel
theorem dP_weight_2 : decode mP_weight.2.1 2 = .ok (.aload_n 1, 1) := by decide +kernel
theorem dP_weight_3 : decode mP_weight.2.1 3 = .ok (.getfield 48, 3) := by decide +kernel
theorem dP_weight_6 : decode mP_weight.2.1 6 = .ok (.iload_n 3, 1) := by decide +kernel
theorem dP_weight_7 : decode mP_weight.2.1 7 = .ok (.iaload, 1) := by decide +kernel
theorem dP_weight_8 : decode mP_weight.2.1 8 = .ok (.isub, 1) := by decide +kernel
theorem dP_weight_9 : decode mP_weight.2.1 9 = .ok (.istore 5, 2) := by decide +kernel
theorem dP_weight_11 : decode mP_weight.2.1 11 = .ok (.iload 5, 2) := by decide +kernel
theorem dP_weight_13 : decode mP_weight.2.1 13 = .ok (.ifCond .lt 19, 3) := by decide +kernel
theorem dP_weight_16 : decode mP_weight.2.1 16 = .ok (.aload_n 0, 1) := by decide +kernel
theorem dP_weight_17 : decode mP_weight.2.1 17 = .ok (.getfield 11, 3) := by decide +kernel
theorem dP_weight_20 : decode mP_weight.2.1 20 = .ok (.iload_n 2, 1) := by decide +kernel
theorem dP_weight_21 : decode mP_weight.2.1 21 = .ok (.iconst 1, 1) := by decide +kernel
theorem dP_weight_22 : decode mP_weight.2.1 22 = .ok (.iadd, 1) := by decide +kernel
theorem dP_weight_23 : decode mP_weight.2.1 23 = .ok (.aaload, 1) := by decide +kernel
theorem dP_weight_24 : decode mP_weight.2.1 24 = .ok (.iload 5, 2) := by decide +kernel
theorem dP_weight_26 : decode mP_weight.2.1 26 = .ok (.iaload, 1) := by decide +kernel
theorem dP_weight_27 : decode mP_weight.2.1 27 = .ok (.ldc 30, 2) := by decide +kernel
theorem dP_weight_29 : decode mP_weight.2.1 29 = .ok (.if_icmp .ne 6, 3) := by decide +kernel
theorem dP_weight_32 : decode mP_weight.2.1 32 = .ok (.ldc 30, 2) := by decide +kernel
theorem dP_weight_34 : decode mP_weight.2.1 34 = .ok (.ireturn, 1) := by decide +kernel
theorem dP_weight_35 : decode mP_weight.2.1 35 = .ok (.aload_n 1, 1) := by decide +kernel
theorem dP_weight_36 : decode mP_weight.2.1 36 = .ok (.iload_n 2, 1) := by decide +kernel
theorem dP_weight_37 : decode mP_weight.2.1 37 = .ok (.iload_n 3, 1) := by decide +kernel
theorem dP_weight_38 : decode mP_weight.2.1 38 = .ok (.invokevirtual 51, 3) := by decide +kernel
theorem dP_weight_41 : decode mP_weight.2.1 41 = .ok (.ifCond .eq 9, 3) := by decide +kernel
theorem dP_weight_44 : decode mP_weight.2.1 44 = .ok (.sipush 1000, 3) := by decide +kernel
theorem dP_weight_47 : decode mP_weight.2.1 47 = .ok (.goto 4, 3) := by decide +kernel
theorem dP_weight_50 : decode mP_weight.2.1 50 = .ok (.iconst 0, 1) := by decide +kernel
theorem dP_weight_51 : decode mP_weight.2.1 51 = .ok (.istore 6, 2) := by decide +kernel
theorem dP_weight_53 : decode mP_weight.2.1 53 = .ok (.iload 6, 2) := by decide +kernel
theorem dP_weight_55 : decode mP_weight.2.1 55 = .ok (.aload_n 1, 1) := by decide +kernel
theorem dP_weight_56 : decode mP_weight.2.1 56 = .ok (.iload_n 2, 1) := by decide +kernel
theorem dP_weight_57 : decode mP_weight.2.1 57 = .ok (.iload_n 3, 1) := by decide +kernel
theorem dP_weight_58 : decode mP_weight.2.1 58 = .ok (.invokevirtual 55, 3) := by decide +kernel
theorem dP_weight_61 : decode mP_weight.2.1 61 = .ok (.isub, 1) := by decide +kernel
theorem dP_weight_62 : decode mP_weight.2.1 62 = .ok (.aload_n 0, 1) := by decide +kernel
theorem dP_weight_63 : decode mP_weight.2.1 63 = .ok (.getfield 11, 3) := by decide +kernel
theorem dP_weight_66 : decode mP_weight.2.1 66 = .ok (.iload_n 2, 1) := by decide +kernel
theorem dP_weight_67 : decode mP_weight.2.1 67 = .ok (.iconst 1, 1) := by decide +kernel
theorem dP_weight_68 : decode mP_weight.2.1 68 = .ok (.iadd, 1) := by decide +kernel
theorem dP_weight_69 : decode mP_weight.2.1 69 = .ok (.aaload, 1) := by decide +kernel
theorem dP_weight_70 : decode mP_weight.2.1 70 = .ok (.iload 5, 2) := by decide +kernel
theorem dP_weight_72 : decode mP_weight.2.1 72 = .ok (.iaload, 1) := by decide +kernel
theorem dP_weight_73 : decode mP_weight.2.1 73 = .ok (.iadd, 1) := by decide +kernel
theorem dP_weight_74 : decode mP_weight.2.1 74 = .ok (.ireturn, 1) := by decide +kernel
theorem dS_faultAsRow_0 : decode mS_faultAsRow.2.1 0 = .ok (.aload_n 0, 1) := by decide +kernel
theorem dS_faultAsRow_1 : decode mS_faultAsRow.2.1 1 = .ok (.getfield 16, 3) := by decide +kernel
theorem dS_faultAsRow_4 : decode mS_faultAsRow.2.1 4 = .ok (.iload_n 1, 1) := by decide +kernel
theorem dS_faultAsRow_5 : decode mS_faultAsRow.2.1 5 = .ok (.baload, 1) := by decide +kernel
theorem dS_faultAsRow_6 : decode mS_faultAsRow.2.1 6 = .ok (.ifCond .ne 5, 3) := by decide +kernel
theorem dS_faultAsRow_9 : decode mS_faultAsRow.2.1 9 = .ok (.iconst 1, 1) := by decide +kernel
theorem dS_faultAsRow_10 : decode mS_faultAsRow.2.1 10 = .ok (.ireturn, 1) := by decide +kernel
theorem dS_faultAsRow_11 : decode mS_faultAsRow.2.1 11 = .ok (.aload_n 0, 1) := by decide +kernel
theorem dS_faultAsRow_12 : decode mS_faultAsRow.2.1 12 = .ok (.getfield 20, 3) := by decide +kernel
theorem dS_faultAsRow_15 : decode mS_faultAsRow.2.1 15 = .ok (.iload_n 1, 1) := by decide +kernel
theorem dS_faultAsRow_16 : decode mS_faultAsRow.2.1 16 = .ok (.iaload, 1) := by decide +kernel
theorem dS_faultAsRow_17 : decode mS_faultAsRow.2.1 17 = .ok (.iload_n 2, 1) := by decide +kernel
theorem dS_faultAsRow_18 : decode mS_faultAsRow.2.1 18 = .ok (.if_icmp .ne 7, 3) := by decide +kernel
theorem dS_faultAsRow_21 : decode mS_faultAsRow.2.1 21 = .ok (.iconst 0, 1) := by decide +kernel
theorem dS_faultAsRow_22 : decode mS_faultAsRow.2.1 22 = .ok (.goto 4, 3) := by decide +kernel
theorem dS_faultAsRow_25 : decode mS_faultAsRow.2.1 25 = .ok (.iconst 2, 1) := by decide +kernel
theorem dS_faultAsRow_26 : decode mS_faultAsRow.2.1 26 = .ok (.ireturn, 1) := by decide +kernel
theorem dS_init_0 : decode mS_init.2.1 0 = .ok (.aload_n 0, 1) := by decide +kernel
theorem dS_init_1 : decode mS_init.2.1 1 = .ok (.invokespecial 3, 3) := by decide +kernel
theorem dS_init_4 : decode mS_init.2.1 4 = .ok (.aload_n 0, 1) := by decide +kernel
theorem dS_init_5 : decode mS_init.2.1 5 = .ok (.iconst 4, 1) := by decide +kernel
theorem dS_init_6 : decode mS_init.2.1 6 = .ok (.bipush 60, 2) := by decide +kernel
theorem dS_init_8 : decode mS_init.2.1 8 = .ok (.multianewarray 9 2, 4) := by decide +kernel
theorem dS_init_12 : decode mS_init.2.1 12 = .ok (.putfield 11, 3) := by decide +kernel
theorem dS_init_15 : decode mS_init.2.1 15 = .ok (.aload_n 0, 1) := by decide +kernel
theorem dS_init_16 : decode mS_init.2.1 16 = .ok (.iconst 4, 1) := by decide +kernel
theorem dS_init_17 : decode mS_init.2.1 17 = .ok (.newarray .boolean, 2) := by decide +kernel
theorem dS_init_19 : decode mS_init.2.1 19 = .ok (.putfield 16, 3) := by decide +kernel
theorem dS_init_22 : decode mS_init.2.1 22 = .ok (.aload_n 0, 1) := by decide +kernel
theorem dS_init_23 : decode mS_init.2.1 23 = .ok (.iconst 4, 1) := by decide +kernel
theorem dS_init_24 : decode mS_init.2.1 24 = .ok (.newarray .int, 2) := by decide +kernel
theorem dS_init_26 : decode mS_init.2.1 26 = .ok (.putfield 20, 3) := by decide +kernel
theorem dS_init_29 : decode mS_init.2.1 29 = .ok (.aload_n 0, 1) := by decide +kernel
theorem dS_init_30 : decode mS_init.2.1 30 = .ok (.iconst 4, 1) := by decide +kernel
theorem dS_init_31 : decode mS_init.2.1 31 = .ok (.newarray .int, 2) := by decide +kernel
theorem dS_init_33 : decode mS_init.2.1 33 = .ok (.putfield 24, 3) := by decide +kernel
theorem dS_init_36 : decode mS_init.2.1 36 = .ok (.return_, 1) := by decide +kernel
theorem dS_isCell_0 : decode mS_isCell.2.1 0 = .ok (.iload_n 2, 1) := by decide +kernel
theorem dS_isCell_1 : decode mS_isCell.2.1 1 = .ok (.ifCond .lt 17, 3) := by decide +kernel
theorem dS_isCell_4 : decode mS_isCell.2.1 4 = .ok (.iload_n 2, 1) := by decide +kernel
theorem dS_isCell_5 : decode mS_isCell.2.1 5 = .ok (.aload_n 0, 1) := by decide +kernel
theorem dS_isCell_6 : decode mS_isCell.2.1 6 = .ok (.getfield 24, 3) := by decide +kernel
theorem dS_isCell_9 : decode mS_isCell.2.1 9 = .ok (.iload_n 1, 1) := by decide +kernel
theorem dS_isCell_10 : decode mS_isCell.2.1 10 = .ok (.iaload, 1) := by decide +kernel
theorem dS_isCell_11 : decode mS_isCell.2.1 11 = .ok (.if_icmp .ge 7, 3) := by decide +kernel
theorem dS_isCell_14 : decode mS_isCell.2.1 14 = .ok (.iconst 1, 1) := by decide +kernel
theorem dS_isCell_15 : decode mS_isCell.2.1 15 = .ok (.goto 4, 3) := by decide +kernel
theorem dS_isCell_18 : decode mS_isCell.2.1 18 = .ok (.iconst 0, 1) := by decide +kernel
theorem dS_isCell_19 : decode mS_isCell.2.1 19 = .ok (.ireturn, 1) := by decide +kernel
theorem dS_isSheet_0 : decode mS_isSheet.2.1 0 = .ok (.iload_n 1, 1) := by decide +kernel
theorem dS_isSheet_1 : decode mS_isSheet.2.1 1 = .ok (.ifCond .lt 12, 3) := by decide +kernel
theorem dS_isSheet_4 : decode mS_isSheet.2.1 4 = .ok (.iload_n 1, 1) := by decide +kernel
theorem dS_isSheet_5 : decode mS_isSheet.2.1 5 = .ok (.iconst 4, 1) := by decide +kernel
theorem dS_isSheet_6 : decode mS_isSheet.2.1 6 = .ok (.if_icmp .ge 7, 3) := by decide +kernel
theorem dS_isSheet_9 : decode mS_isSheet.2.1 9 = .ok (.iconst 1, 1) := by decide +kernel
theorem dS_isSheet_10 : decode mS_isSheet.2.1 10 = .ok (.goto 4, 3) := by decide +kernel
theorem dS_isSheet_13 : decode mS_isSheet.2.1 13 = .ok (.iconst 0, 1) := by decide +kernel
theorem dS_isSheet_14 : decode mS_isSheet.2.1 14 = .ok (.ireturn, 1) := by decide +kernel
theorem dS_renew_0 : decode mS_renew.2.1 0 = .ok (.aload_n 0, 1) := by decide +kernel
theorem dS_renew_1 : decode mS_renew.2.1 1 = .ok (.getfield 16, 3) := by decide +kernel
theorem dS_renew_4 : decode mS_renew.2.1 4 = .ok (.iload_n 1, 1) := by decide +kernel
theorem dS_renew_5 : decode mS_renew.2.1 5 = .ok (.iconst 1, 1) := by decide +kernel
theorem dS_renew_6 : decode mS_renew.2.1 6 = .ok (.bastore, 1) := by decide +kernel
theorem dS_renew_7 : decode mS_renew.2.1 7 = .ok (.aload_n 0, 1) := by decide +kernel
theorem dS_renew_8 : decode mS_renew.2.1 8 = .ok (.getfield 20, 3) := by decide +kernel
theorem dS_renew_11 : decode mS_renew.2.1 11 = .ok (.iload_n 1, 1) := by decide +kernel
theorem dS_renew_12 : decode mS_renew.2.1 12 = .ok (.iload_n 2, 1) := by decide +kernel
theorem dS_renew_13 : decode mS_renew.2.1 13 = .ok (.iastore, 1) := by decide +kernel
theorem dS_renew_14 : decode mS_renew.2.1 14 = .ok (.aload_n 0, 1) := by decide +kernel
theorem dS_renew_15 : decode mS_renew.2.1 15 = .ok (.getfield 24, 3) := by decide +kernel
theorem dS_renew_18 : decode mS_renew.2.1 18 = .ok (.iload_n 1, 1) := by decide +kernel
theorem dS_renew_19 : decode mS_renew.2.1 19 = .ok (.iload_n 3, 1) := by decide +kernel
theorem dS_renew_20 : decode mS_renew.2.1 20 = .ok (.iastore, 1) := by decide +kernel
theorem dS_renew_21 : decode mS_renew.2.1 21 = .ok (.iconst 0, 1) := by decide +kernel
theorem dS_renew_22 : decode mS_renew.2.1 22 = .ok (.istore 4, 2) := by decide +kernel
theorem dS_renew_24 : decode mS_renew.2.1 24 = .ok (.iload 4, 2) := by decide +kernel
theorem dS_renew_26 : decode mS_renew.2.1 26 = .ok (.iload_n 3, 1) := by decide +kernel
theorem dS_renew_27 : decode mS_renew.2.1 27 = .ok (.if_icmp .ge 19, 3) := by decide +kernel
theorem dS_renew_30 : decode mS_renew.2.1 30 = .ok (.aload_n 0, 1) := by decide +kernel
theorem dS_renew_31 : decode mS_renew.2.1 31 = .ok (.getfield 11, 3) := by decide +kernel
theorem dS_renew_34 : decode mS_renew.2.1 34 = .ok (.iload_n 1, 1) := by decide +kernel
theorem dS_renew_35 : decode mS_renew.2.1 35 = .ok (.aaload, 1) := by decide +kernel
theorem dS_renew_36 : decode mS_renew.2.1 36 = .ok (.iload 4, 2) := by decide +kernel
theorem dS_renew_38 : decode mS_renew.2.1 38 = .ok (.iconst 0, 1) := by decide +kernel
theorem dS_renew_39 : decode mS_renew.2.1 39 = .ok (.iastore, 1) := by decide +kernel
theorem dS_renew_40 : decode mS_renew.2.1 40 = .ok (.iinc 4 1, 3) := by decide +kernel
theorem dS_renew_43 : decode mS_renew.2.1 43 = .ok (.goto (-19), 3) := by decide +kernel
theorem dS_renew_46 : decode mS_renew.2.1 46 = .ok (.return_, 1) := by decide +kernel
theorem dS_spans_0 : decode mS_spans.2.1 0 = .ok (.iload_n 2, 1) := by decide +kernel
theorem dS_spans_1 : decode mS_spans.2.1 1 = .ok (.ifCond .lt 33, 3) := by decide +kernel
theorem dS_spans_4 : decode mS_spans.2.1 4 = .ok (.iload_n 2, 1) := by decide +kernel
theorem dS_spans_5 : decode mS_spans.2.1 5 = .ok (.aload_n 0, 1) := by decide +kernel
theorem dS_spans_6 : decode mS_spans.2.1 6 = .ok (.getfield 24, 3) := by decide +kernel
theorem dS_spans_9 : decode mS_spans.2.1 9 = .ok (.iload_n 1, 1) := by decide +kernel
theorem dS_spans_10 : decode mS_spans.2.1 10 = .ok (.iaload, 1) := by decide +kernel
theorem dS_spans_11 : decode mS_spans.2.1 11 = .ok (.if_icmp .gt 23, 3) := by decide +kernel
theorem dS_spans_14 : decode mS_spans.2.1 14 = .ok (.iload_n 3, 1) := by decide +kernel
theorem dS_spans_15 : decode mS_spans.2.1 15 = .ok (.ifCond .lt 19, 3) := by decide +kernel
theorem dS_spans_18 : decode mS_spans.2.1 18 = .ok (.iload_n 3, 1) := by decide +kernel
theorem dS_spans_19 : decode mS_spans.2.1 19 = .ok (.aload_n 0, 1) := by decide +kernel
theorem dS_spans_20 : decode mS_spans.2.1 20 = .ok (.getfield 24, 3) := by decide +kernel
theorem dS_spans_23 : decode mS_spans.2.1 23 = .ok (.iload_n 1, 1) := by decide +kernel
theorem dS_spans_24 : decode mS_spans.2.1 24 = .ok (.iaload, 1) := by decide +kernel
theorem dS_spans_25 : decode mS_spans.2.1 25 = .ok (.iload_n 2, 1) := by decide +kernel
theorem dS_spans_26 : decode mS_spans.2.1 26 = .ok (.isub, 1) := by decide +kernel
theorem dS_spans_27 : decode mS_spans.2.1 27 = .ok (.if_icmp .gt 7, 3) := by decide +kernel
theorem dS_spans_30 : decode mS_spans.2.1 30 = .ok (.iconst 1, 1) := by decide +kernel
theorem dS_spans_31 : decode mS_spans.2.1 31 = .ok (.goto 4, 3) := by decide +kernel
theorem dS_spans_34 : decode mS_spans.2.1 34 = .ok (.iconst 0, 1) := by decide +kernel
theorem dS_spans_35 : decode mS_spans.2.1 35 = .ok (.ireturn, 1) := by decide +kernel
theorem dT_areDoings_0 : decode mT_areDoings.2.1 0 = .ok (.aload_n 0, 1) := by decide +kernel
theorem dT_areDoings_1 : decode mT_areDoings.2.1 1 = .ok (.iconst 0, 1) := by decide +kernel
theorem dT_areDoings_2 : decode mT_areDoings.2.1 2 = .ok (.putfield 36, 3) := by decide +kernel
theorem dT_areDoings_5 : decode mT_areDoings.2.1 5 = .ok (.aload_n 0, 1) := by decide +kernel
theorem dT_areDoings_6 : decode mT_areDoings.2.1 6 = .ok (.getfield 36, 3) := by decide +kernel
theorem dT_areDoings_9 : decode mT_areDoings.2.1 9 = .ok (.iconst 4, 1) := by decide +kernel
theorem dT_areDoings_10 : decode mT_areDoings.2.1 10 = .ok (.if_icmp .ge 51, 3) := by decide +kernel
theorem dT_areDoings_13 : decode mT_areDoings.2.1 13 = .ok (.aload_n 0, 1) := by decide +kernel
theorem dT_areDoings_14 : decode mT_areDoings.2.1 14 = .ok (.bipush 47, 2) := by decide +kernel
theorem dT_areDoings_16 : decode mT_areDoings.2.1 16 = .ok (.bipush 47, 2) := by decide +kernel
theorem dT_areDoings_18 : decode mT_areDoings.2.1 18 = .ok (.invokevirtual 25, 3) := by decide +kernel
theorem dT_areDoings_21 : decode mT_areDoings.2.1 21 = .ok (.ifCond .eq 40, 3) := by decide +kernel
theorem dT_areDoings_24 : decode mT_areDoings.2.1 24 = .ok (.aload_n 0, 1) := by decide +kernel
theorem dT_areDoings_25 : decode mT_areDoings.2.1 25 = .ok (.bipush 48, 2) := by decide +kernel
theorem dT_areDoings_27 : decode mT_areDoings.2.1 27 = .ok (.bipush 57, 2) := by decide +kernel
theorem dT_areDoings_29 : decode mT_areDoings.2.1 29 = .ok (.invokevirtual 25, 3) := by decide +kernel
theorem dT_areDoings_32 : decode mT_areDoings.2.1 32 = .ok (.ifCond .eq 14, 3) := by decide +kernel
theorem dT_areDoings_35 : decode mT_areDoings.2.1 35 = .ok (.aload_n 0, 1) := by decide +kernel
theorem dT_areDoings_36 : decode mT_areDoings.2.1 36 = .ok (.bipush 48, 2) := by decide +kernel
theorem dT_areDoings_38 : decode mT_areDoings.2.1 38 = .ok (.bipush 51, 2) := by decide +kernel
theorem dT_areDoings_40 : decode mT_areDoings.2.1 40 = .ok (.invokevirtual 25, 3) := by decide +kernel
theorem dT_areDoings_43 : decode mT_areDoings.2.1 43 = .ok (.ifCond .ne 5, 3) := by decide +kernel
theorem dT_areDoings_46 : decode mT_areDoings.2.1 46 = .ok (.iconst 0, 1) := by decide +kernel
theorem dT_areDoings_47 : decode mT_areDoings.2.1 47 = .ok (.ireturn, 1) := by decide +kernel
theorem dT_areDoings_48 : decode mT_areDoings.2.1 48 = .ok (.aload_n 0, 1) := by decide +kernel
theorem dT_areDoings_49 : decode mT_areDoings.2.1 49 = .ok (.dup, 1) := by decide +kernel
theorem dT_areDoings_50 : decode mT_areDoings.2.1 50 = .ok (.getfield 36, 3) := by decide +kernel
theorem dT_areDoings_53 : decode mT_areDoings.2.1 53 = .ok (.iconst 1, 1) := by decide +kernel
theorem dT_areDoings_54 : decode mT_areDoings.2.1 54 = .ok (.iadd, 1) := by decide +kernel
theorem dT_areDoings_55 : decode mT_areDoings.2.1 55 = .ok (.putfield 36, 3) := by decide +kernel
theorem dT_areDoings_58 : decode mT_areDoings.2.1 58 = .ok (.goto (-53), 3) := by decide +kernel
theorem dT_areDoings_61 : decode mT_areDoings.2.1 61 = .ok (.aload_n 0, 1) := by decide +kernel
theorem dT_areDoings_62 : decode mT_areDoings.2.1 62 = .ok (.getfield 36, 3) := by decide +kernel
theorem dT_areDoings_65 : decode mT_areDoings.2.1 65 = .ok (.ifCond .le 7, 3) := by decide +kernel
theorem dT_areDoings_68 : decode mT_areDoings.2.1 68 = .ok (.iconst 1, 1) := by decide +kernel
theorem dT_areDoings_69 : decode mT_areDoings.2.1 69 = .ok (.goto 4, 3) := by decide +kernel
theorem dT_areDoings_72 : decode mT_areDoings.2.1 72 = .ok (.iconst 0, 1) := by decide +kernel
theorem dT_areDoings_73 : decode mT_areDoings.2.1 73 = .ok (.ireturn, 1) := by decide +kernel
theorem dT_areGuests_0 : decode mT_areGuests.2.1 0 = .ok (.aload_n 0, 1) := by decide +kernel
theorem dT_areGuests_1 : decode mT_areGuests.2.1 1 = .ok (.iconst 0, 1) := by decide +kernel
theorem dT_areGuests_2 : decode mT_areGuests.2.1 2 = .ok (.putfield 39, 3) := by decide +kernel
theorem dT_areGuests_5 : decode mT_areGuests.2.1 5 = .ok (.aload_n 0, 1) := by decide +kernel
theorem dT_areGuests_6 : decode mT_areGuests.2.1 6 = .ok (.getfield 39, 3) := by decide +kernel
theorem dT_areGuests_9 : decode mT_areGuests.2.1 9 = .ok (.bipush 6, 2) := by decide +kernel
theorem dT_areGuests_11 : decode mT_areGuests.2.1 11 = .ok (.if_icmp .ge 65, 3) := by decide +kernel
theorem dT_areGuests_14 : decode mT_areGuests.2.1 14 = .ok (.aload_n 0, 1) := by decide +kernel
theorem dT_areGuests_15 : decode mT_areGuests.2.1 15 = .ok (.bipush 59, 2) := by decide +kernel
theorem dT_areGuests_17 : decode mT_areGuests.2.1 17 = .ok (.bipush 59, 2) := by decide +kernel
theorem dT_areGuests_19 : decode mT_areGuests.2.1 19 = .ok (.invokevirtual 25, 3) := by decide +kernel
theorem dT_areGuests_22 : decode mT_areGuests.2.1 22 = .ok (.ifCond .eq 54, 3) := by decide +kernel
theorem dT_areGuests_25 : decode mT_areGuests.2.1 25 = .ok (.aload_n 0, 1) := by decide +kernel
theorem dT_areGuests_26 : decode mT_areGuests.2.1 26 = .ok (.invokevirtual 42, 3) := by decide +kernel
theorem dT_areGuests_29 : decode mT_areGuests.2.1 29 = .ok (.ifCond .eq 32, 3) := by decide +kernel
theorem dT_areGuests_32 : decode mT_areGuests.2.1 32 = .ok (.aload_n 0, 1) := by decide +kernel
theorem dT_areGuests_33 : decode mT_areGuests.2.1 33 = .ok (.bipush 48, 2) := by decide +kernel
theorem dT_areGuests_35 : decode mT_areGuests.2.1 35 = .ok (.bipush 57, 2) := by decide +kernel
theorem dT_areGuests_37 : decode mT_areGuests.2.1 37 = .ok (.invokevirtual 25, 3) := by decide +kernel
theorem dT_areGuests_40 : decode mT_areGuests.2.1 40 = .ok (.ifCond .eq 21, 3) := by decide +kernel
theorem dT_areGuests_43 : decode mT_areGuests.2.1 43 = .ok (.aload_n 0, 1) := by decide +kernel
theorem dT_areGuests_44 : decode mT_areGuests.2.1 44 = .ok (.bipush 48, 2) := by decide +kernel
theorem dT_areGuests_46 : decode mT_areGuests.2.1 46 = .ok (.bipush 48, 2) := by decide +kernel
theorem dT_areGuests_48 : decode mT_areGuests.2.1 48 = .ok (.aload_n 0, 1) := by decide +kernel
theorem dT_areGuests_49 : decode mT_areGuests.2.1 49 = .ok (.getfield 36, 3) := by decide +kernel
theorem dT_areGuests_52 : decode mT_areGuests.2.1 52 = .ok (.iadd, 1) := by decide +kernel
theorem dT_areGuests_53 : decode mT_areGuests.2.1 53 = .ok (.iconst 1, 1) := by decide +kernel
theorem dT_areGuests_54 : decode mT_areGuests.2.1 54 = .ok (.isub, 1) := by decide +kernel
theorem dT_areGuests_55 : decode mT_areGuests.2.1 55 = .ok (.invokevirtual 25, 3) := by decide +kernel
theorem dT_areGuests_58 : decode mT_areGuests.2.1 58 = .ok (.ifCond .ne 5, 3) := by decide +kernel
theorem dT_areGuests_61 : decode mT_areGuests.2.1 61 = .ok (.iconst 0, 1) := by decide +kernel
theorem dT_areGuests_62 : decode mT_areGuests.2.1 62 = .ok (.ireturn, 1) := by decide +kernel
theorem dT_areGuests_63 : decode mT_areGuests.2.1 63 = .ok (.aload_n 0, 1) := by decide +kernel
theorem dT_areGuests_64 : decode mT_areGuests.2.1 64 = .ok (.dup, 1) := by decide +kernel
theorem dT_areGuests_65 : decode mT_areGuests.2.1 65 = .ok (.getfield 39, 3) := by decide +kernel
theorem dT_areGuests_68 : decode mT_areGuests.2.1 68 = .ok (.iconst 1, 1) := by decide +kernel
theorem dT_areGuests_69 : decode mT_areGuests.2.1 69 = .ok (.iadd, 1) := by decide +kernel
theorem dT_areGuests_70 : decode mT_areGuests.2.1 70 = .ok (.putfield 39, 3) := by decide +kernel
theorem dT_areGuests_73 : decode mT_areGuests.2.1 73 = .ok (.goto (-68), 3) := by decide +kernel
theorem dT_areGuests_76 : decode mT_areGuests.2.1 76 = .ok (.aload_n 0, 1) := by decide +kernel
theorem dT_areGuests_77 : decode mT_areGuests.2.1 77 = .ok (.getfield 39, 3) := by decide +kernel
theorem dT_areGuests_80 : decode mT_areGuests.2.1 80 = .ok (.iconst 2, 1) := by decide +kernel
theorem dT_areGuests_81 : decode mT_areGuests.2.1 81 = .ok (.if_icmp .lt 7, 3) := by decide +kernel
theorem dT_areGuests_84 : decode mT_areGuests.2.1 84 = .ok (.iconst 1, 1) := by decide +kernel
theorem dT_areGuests_85 : decode mT_areGuests.2.1 85 = .ok (.goto 4, 3) := by decide +kernel
theorem dT_areGuests_88 : decode mT_areGuests.2.1 88 = .ok (.iconst 0, 1) := by decide +kernel
theorem dT_areGuests_89 : decode mT_areGuests.2.1 89 = .ok (.ireturn, 1) := by decide +kernel
theorem dT_init_0 : decode mT_init.2.1 0 = .ok (.aload_n 0, 1) := by decide +kernel
theorem dT_init_1 : decode mT_init.2.1 1 = .ok (.invokespecial 3, 3) := by decide +kernel
theorem dT_init_4 : decode mT_init.2.1 4 = .ok (.aload_n 0, 1) := by decide +kernel
theorem dT_init_5 : decode mT_init.2.1 5 = .ok (.iconst 0, 1) := by decide +kernel
theorem dT_init_6 : decode mT_init.2.1 6 = .ok (.newarray .int, 2) := by decide +kernel
theorem dT_init_8 : decode mT_init.2.1 8 = .ok (.putfield 9, 3) := by decide +kernel
theorem dT_init_11 : decode mT_init.2.1 11 = .ok (.return_, 1) := by decide +kernel
theorem dT_isLetter_0 : decode mT_isLetter.2.1 0 = .ok (.aload_n 0, 1) := by decide +kernel
theorem dT_isLetter_1 : decode mT_isLetter.2.1 1 = .ok (.bipush 103, 2) := by decide +kernel
theorem dT_isLetter_3 : decode mT_isLetter.2.1 3 = .ok (.bipush 103, 2) := by decide +kernel
theorem dT_isLetter_5 : decode mT_isLetter.2.1 5 = .ok (.invokevirtual 25, 3) := by decide +kernel
theorem dT_isLetter_8 : decode mT_isLetter.2.1 8 = .ok (.ifCond .ne 25, 3) := by decide +kernel
theorem dT_isLetter_11 : decode mT_isLetter.2.1 11 = .ok (.aload_n 0, 1) := by decide +kernel
theorem dT_isLetter_12 : decode mT_isLetter.2.1 12 = .ok (.bipush 99, 2) := by decide +kernel
theorem dT_isLetter_14 : decode mT_isLetter.2.1 14 = .ok (.bipush 99, 2) := by decide +kernel
theorem dT_isLetter_16 : decode mT_isLetter.2.1 16 = .ok (.invokevirtual 25, 3) := by decide +kernel
theorem dT_isLetter_19 : decode mT_isLetter.2.1 19 = .ok (.ifCond .ne 14, 3) := by decide +kernel
theorem dT_isLetter_22 : decode mT_isLetter.2.1 22 = .ok (.aload_n 0, 1) := by decide +kernel
theorem dT_isLetter_23 : decode mT_isLetter.2.1 23 = .ok (.bipush 112, 2) := by decide +kernel
theorem dT_isLetter_25 : decode mT_isLetter.2.1 25 = .ok (.bipush 112, 2) := by decide +kernel
theorem dT_isLetter_27 : decode mT_isLetter.2.1 27 = .ok (.invokevirtual 25, 3) := by decide +kernel
theorem dT_isLetter_30 : decode mT_isLetter.2.1 30 = .ok (.ifCond .eq 7, 3) := by decide +kernel
theorem dT_isLetter_33 : decode mT_isLetter.2.1 33 = .ok (.iconst 1, 1) := by decide +kernel
theorem dT_isLetter_34 : decode mT_isLetter.2.1 34 = .ok (.goto 4, 3) := by decide +kernel
theorem dT_isLetter_37 : decode mT_isLetter.2.1 37 = .ok (.iconst 0, 1) := by decide +kernel
theorem dT_isLetter_38 : decode mT_isLetter.2.1 38 = .ok (.ireturn, 1) := by decide +kernel
theorem dT_isOne_0 : decode mT_isOne.2.1 0 = .ok (.aload_n 0, 1) := by decide +kernel
theorem dT_isOne_1 : decode mT_isOne.2.1 1 = .ok (.aload_n 1, 1) := by decide +kernel
theorem dT_isOne_2 : decode mT_isOne.2.1 2 = .ok (.putfield 9, 3) := by decide +kernel
theorem dT_isOne_5 : decode mT_isOne.2.1 5 = .ok (.aload_n 0, 1) := by decide +kernel
theorem dT_isOne_6 : decode mT_isOne.2.1 6 = .ok (.iload_n 2, 1) := by decide +kernel
theorem dT_isOne_7 : decode mT_isOne.2.1 7 = .ok (.putfield 15, 3) := by decide +kernel
theorem dT_isOne_10 : decode mT_isOne.2.1 10 = .ok (.aload_n 0, 1) := by decide +kernel
theorem dT_isOne_11 : decode mT_isOne.2.1 11 = .ok (.iload_n 3, 1) := by decide +kernel
theorem dT_isOne_12 : decode mT_isOne.2.1 12 = .ok (.putfield 19, 3) := by decide +kernel
theorem dT_isOne_15 : decode mT_isOne.2.1 15 = .ok (.aload_n 0, 1) := by decide +kernel
theorem dT_isOne_16 : decode mT_isOne.2.1 16 = .ok (.iconst 0, 1) := by decide +kernel
theorem dT_isOne_17 : decode mT_isOne.2.1 17 = .ok (.putfield 22, 3) := by decide +kernel
theorem dT_isOne_20 : decode mT_isOne.2.1 20 = .ok (.aload_n 0, 1) := by decide +kernel
theorem dT_isOne_21 : decode mT_isOne.2.1 21 = .ok (.bipush 122, 2) := by decide +kernel
theorem dT_isOne_23 : decode mT_isOne.2.1 23 = .ok (.bipush 122, 2) := by decide +kernel
theorem dT_isOne_25 : decode mT_isOne.2.1 25 = .ok (.invokevirtual 25, 3) := by decide +kernel
theorem dT_isOne_28 : decode mT_isOne.2.1 28 = .ok (.ifCond .eq 29, 3) := by decide +kernel
theorem dT_isOne_31 : decode mT_isOne.2.1 31 = .ok (.aload_n 0, 1) := by decide +kernel
theorem dT_isOne_32 : decode mT_isOne.2.1 32 = .ok (.bipush 48, 2) := by decide +kernel
theorem dT_isOne_34 : decode mT_isOne.2.1 34 = .ok (.bipush 53, 2) := by decide +kernel
theorem dT_isOne_36 : decode mT_isOne.2.1 36 = .ok (.invokevirtual 25, 3) := by decide +kernel
theorem dT_isOne_39 : decode mT_isOne.2.1 39 = .ok (.ifCond .eq 18, 3) := by decide +kernel
theorem dT_isOne_42 : decode mT_isOne.2.1 42 = .ok (.aload_n 0, 1) := by decide +kernel
theorem dT_isOne_43 : decode mT_isOne.2.1 43 = .ok (.bipush 49, 2) := by decide +kernel
theorem dT_isOne_45 : decode mT_isOne.2.1 45 = .ok (.bipush 57, 2) := by decide +kernel
theorem dT_isOne_47 : decode mT_isOne.2.1 47 = .ok (.invokevirtual 25, 3) := by decide +kernel
theorem dT_isOne_50 : decode mT_isOne.2.1 50 = .ok (.ifCond .eq 7, 3) := by decide +kernel
theorem dT_isOne_53 : decode mT_isOne.2.1 53 = .ok (.iconst 1, 1) := by decide +kernel
theorem dT_isOne_54 : decode mT_isOne.2.1 54 = .ok (.goto 4, 3) := by decide +kernel
theorem dT_isOne_57 : decode mT_isOne.2.1 57 = .ok (.iconst 0, 1) := by decide +kernel
theorem dT_isOne_58 : decode mT_isOne.2.1 58 = .ok (.istore 4, 2) := by decide +kernel
theorem dT_isOne_60 : decode mT_isOne.2.1 60 = .ok (.iload 4, 2) := by decide +kernel
theorem dT_isOne_62 : decode mT_isOne.2.1 62 = .ok (.ifCond .eq 32, 3) := by decide +kernel
theorem dT_isOne_65 : decode mT_isOne.2.1 65 = .ok (.aload_n 0, 1) := by decide +kernel
theorem dT_isOne_66 : decode mT_isOne.2.1 66 = .ok (.invokevirtual 29, 3) := by decide +kernel
theorem dT_isOne_69 : decode mT_isOne.2.1 69 = .ok (.ifCond .eq 25, 3) := by decide +kernel
theorem dT_isOne_72 : decode mT_isOne.2.1 72 = .ok (.aload_n 0, 1) := by decide +kernel
theorem dT_isOne_73 : decode mT_isOne.2.1 73 = .ok (.invokevirtual 33, 3) := by decide +kernel
theorem dT_isOne_76 : decode mT_isOne.2.1 76 = .ok (.ifCond .eq 18, 3) := by decide +kernel
theorem dT_isOne_79 : decode mT_isOne.2.1 79 = .ok (.aload_n 0, 1) := by decide +kernel
theorem dT_isOne_80 : decode mT_isOne.2.1 80 = .ok (.getfield 22, 3) := by decide +kernel
theorem dT_isOne_83 : decode mT_isOne.2.1 83 = .ok (.aload_n 0, 1) := by decide +kernel
theorem dT_isOne_84 : decode mT_isOne.2.1 84 = .ok (.getfield 19, 3) := by decide +kernel
theorem dT_isOne_87 : decode mT_isOne.2.1 87 = .ok (.if_icmp .ne 7, 3) := by decide +kernel
theorem dT_isOne_90 : decode mT_isOne.2.1 90 = .ok (.iconst 1, 1) := by decide +kernel
theorem dT_isOne_91 : decode mT_isOne.2.1 91 = .ok (.goto 4, 3) := by decide +kernel
theorem dT_isOne_94 : decode mT_isOne.2.1 94 = .ok (.iconst 0, 1) := by decide +kernel
theorem dT_isOne_95 : decode mT_isOne.2.1 95 = .ok (.ireturn, 1) := by decide +kernel
theorem dT_next_0 : decode mT_next.2.1 0 = .ok (.aload_n 0, 1) := by decide +kernel
theorem dT_next_1 : decode mT_next.2.1 1 = .ok (.getfield 22, 3) := by decide +kernel
theorem dT_next_4 : decode mT_next.2.1 4 = .ok (.aload_n 0, 1) := by decide +kernel
theorem dT_next_5 : decode mT_next.2.1 5 = .ok (.getfield 19, 3) := by decide +kernel
theorem dT_next_8 : decode mT_next.2.1 8 = .ok (.if_icmp .lt 5, 3) := by decide +kernel
theorem dT_next_11 : decode mT_next.2.1 11 = .ok (.iconst 0, 1) := by decide +kernel
theorem dT_next_12 : decode mT_next.2.1 12 = .ok (.ireturn, 1) := by decide +kernel
theorem dT_next_13 : decode mT_next.2.1 13 = .ok (.aload_n 0, 1) := by decide +kernel
theorem dT_next_14 : decode mT_next.2.1 14 = .ok (.getfield 9, 3) := by decide +kernel
theorem dT_next_17 : decode mT_next.2.1 17 = .ok (.aload_n 0, 1) := by decide +kernel
theorem dT_next_18 : decode mT_next.2.1 18 = .ok (.getfield 15, 3) := by decide +kernel
theorem dT_next_21 : decode mT_next.2.1 21 = .ok (.aload_n 0, 1) := by decide +kernel
theorem dT_next_22 : decode mT_next.2.1 22 = .ok (.getfield 22, 3) := by decide +kernel
theorem dT_next_25 : decode mT_next.2.1 25 = .ok (.iadd, 1) := by decide +kernel
theorem dT_next_26 : decode mT_next.2.1 26 = .ok (.iaload, 1) := by decide +kernel
theorem dT_next_27 : decode mT_next.2.1 27 = .ok (.istore_n 3, 1) := by decide +kernel
theorem dT_next_28 : decode mT_next.2.1 28 = .ok (.iload_n 3, 1) := by decide +kernel
theorem dT_next_29 : decode mT_next.2.1 29 = .ok (.iload_n 1, 1) := by decide +kernel
theorem dT_next_30 : decode mT_next.2.1 30 = .ok (.if_icmp .lt 8, 3) := by decide +kernel
theorem dT_next_33 : decode mT_next.2.1 33 = .ok (.iload_n 3, 1) := by decide +kernel
theorem dT_next_34 : decode mT_next.2.1 34 = .ok (.iload_n 2, 1) := by decide +kernel
theorem dT_next_35 : decode mT_next.2.1 35 = .ok (.if_icmp .le 5, 3) := by decide +kernel
theorem dT_next_38 : decode mT_next.2.1 38 = .ok (.iconst 0, 1) := by decide +kernel
theorem dT_next_39 : decode mT_next.2.1 39 = .ok (.ireturn, 1) := by decide +kernel
theorem dT_next_40 : decode mT_next.2.1 40 = .ok (.aload_n 0, 1) := by decide +kernel
theorem dT_next_41 : decode mT_next.2.1 41 = .ok (.dup, 1) := by decide +kernel
theorem dT_next_42 : decode mT_next.2.1 42 = .ok (.getfield 22, 3) := by decide +kernel
theorem dT_next_45 : decode mT_next.2.1 45 = .ok (.iconst 1, 1) := by decide +kernel
theorem dT_next_46 : decode mT_next.2.1 46 = .ok (.iadd, 1) := by decide +kernel
theorem dT_next_47 : decode mT_next.2.1 47 = .ok (.putfield 22, 3) := by decide +kernel
theorem dT_next_50 : decode mT_next.2.1 50 = .ok (.iconst 1, 1) := by decide +kernel
theorem dT_next_51 : decode mT_next.2.1 51 = .ok (.ireturn, 1) := by decide +kernel
