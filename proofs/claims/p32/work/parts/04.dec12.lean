section
theorem dX12_count_184 : decode cX12_count 184 = .ok (.bipush 13, 2) := by decide +kernel
theorem dX12_count_186 : decode cX12_count 186 = .ok (.isub, 1) := by decide +kernel
theorem dX12_count_187 : decode cX12_count 187 = .ok (.iaload, 1) := by decide +kernel
theorem dX12_count_188 : decode cX12_count 188 = .ok (.ireturn, 1) := by decide +kernel
theorem dX12_fits_0 : decode cX12_fits 0 = .ok (.aload_n 0, 1) := by decide +kernel
theorem dX12_fits_1 : decode cX12_fits 1 = .ok (.getfield 28, 3) := by decide +kernel
theorem dX12_fits_4 : decode cX12_fits 4 = .ok (.iload_n 1, 1) := by decide +kernel
theorem dX12_fits_5 : decode cX12_fits 5 = .ok (.iaload, 1) := by decide +kernel
theorem dX12_fits_6 : decode cX12_fits 6 = .ok (.istore_n 3, 1) := by decide +kernel
theorem dX12_fits_7 : decode cX12_fits 7 = .ok (.iconst 0, 1) := by decide +kernel
theorem dX12_fits_8 : decode cX12_fits 8 = .ok (.istore 4, 2) := by decide +kernel
theorem dX12_fits_10 : decode cX12_fits 10 = .ok (.iconst (-1), 1) := by decide +kernel
theorem dX12_fits_11 : decode cX12_fits 11 = .ok (.istore 5, 2) := by decide +kernel
theorem dX12_fits_13 : decode cX12_fits 13 = .ok (.iconst 1, 1) := by decide +kernel
theorem dX12_fits_14 : decode cX12_fits 14 = .ok (.istore 6, 2) := by decide +kernel
theorem dX12_fits_16 : decode cX12_fits 16 = .ok (.iload 6, 2) := by decide +kernel
theorem dX12_fits_18 : decode cX12_fits 18 = .ok (.bipush 9, 2) := by decide +kernel
theorem dX12_fits_20 : decode cX12_fits 20 = .ok (.if_icmp .gt 98, 3) := by decide +kernel
theorem dX12_fits_23 : decode cX12_fits 23 = .ok (.aload_n 0, 1) := by decide +kernel
theorem dX12_fits_24 : decode cX12_fits 24 = .ok (.getfield 28, 3) := by decide +kernel
theorem dX12_fits_27 : decode cX12_fits 27 = .ok (.iload_n 1, 1) := by decide +kernel
theorem dX12_fits_28 : decode cX12_fits 28 = .ok (.iload 6, 2) := by decide +kernel
theorem dX12_fits_30 : decode cX12_fits 30 = .ok (.iastore, 1) := by decide +kernel
theorem dX12_fits_31 : decode cX12_fits 31 = .ok (.iconst 1, 1) := by decide +kernel
theorem dX12_fits_32 : decode cX12_fits 32 = .ok (.istore 7, 2) := by decide +kernel
theorem dX12_fits_34 : decode cX12_fits 34 = .ok (.iconst 0, 1) := by decide +kernel
theorem dX12_fits_35 : decode cX12_fits 35 = .ok (.istore 8, 2) := by decide +kernel
theorem dX12_fits_37 : decode cX12_fits 37 = .ok (.iload 8, 2) := by decide +kernel
theorem dX12_fits_39 : decode cX12_fits 39 = .ok (.aload_n 0, 1) := by decide +kernel
theorem dX12_fits_40 : decode cX12_fits 40 = .ok (.getfield 9, 3) := by decide +kernel
theorem dX12_fits_43 : decode cX12_fits 43 = .ok (.bipush 9, 2) := by decide +kernel
theorem dX12_fits_45 : decode cX12_fits 45 = .ok (.iaload, 1) := by decide +kernel
theorem dX12_fits_46 : decode cX12_fits 46 = .ok (.if_icmp .ge 46, 3) := by decide +kernel
theorem dX12_fits_49 : decode cX12_fits 49 = .ok (.iload 7, 2) := by decide +kernel
theorem dX12_fits_51 : decode cX12_fits 51 = .ok (.ifCond .eq 41, 3) := by decide +kernel
theorem dX12_fits_54 : decode cX12_fits 54 = .ok (.aload_n 0, 1) := by decide +kernel
theorem dX12_fits_55 : decode cX12_fits 55 = .ok (.aload_n 0, 1) := by decide +kernel
theorem dX12_fits_56 : decode cX12_fits 56 = .ok (.getfield 9, 3) := by decide +kernel
theorem dX12_fits_59 : decode cX12_fits 59 = .ok (.bipush 10, 2) := by decide +kernel
theorem dX12_fits_61 : decode cX12_fits 61 = .ok (.iconst 2, 1) := by decide +kernel
theorem dX12_fits_62 : decode cX12_fits 62 = .ok (.iload 8, 2) := by decide +kernel
theorem dX12_fits_64 : decode cX12_fits 64 = .ok (.imul, 1) := by decide +kernel
theorem dX12_fits_65 : decode cX12_fits 65 = .ok (.iadd, 1) := by decide +kernel
theorem dX12_fits_66 : decode cX12_fits 66 = .ok (.iaload, 1) := by decide +kernel
theorem dX12_fits_67 : decode cX12_fits 67 = .ok (.aload_n 0, 1) := by decide +kernel
theorem dX12_fits_68 : decode cX12_fits 68 = .ok (.getfield 9, 3) := by decide +kernel
theorem dX12_fits_71 : decode cX12_fits 71 = .ok (.bipush 10, 2) := by decide +kernel
theorem dX12_fits_73 : decode cX12_fits 73 = .ok (.iconst 2, 1) := by decide +kernel
theorem dX12_fits_74 : decode cX12_fits 74 = .ok (.iload 8, 2) := by decide +kernel
theorem dX12_fits_76 : decode cX12_fits 76 = .ok (.imul, 1) := by decide +kernel
theorem dX12_fits_77 : decode cX12_fits 77 = .ok (.iadd, 1) := by decide +kernel
theorem dX12_fits_78 : decode cX12_fits 78 = .ok (.iconst 1, 1) := by decide +kernel
theorem dX12_fits_79 : decode cX12_fits 79 = .ok (.iadd, 1) := by decide +kernel
theorem dX12_fits_80 : decode cX12_fits 80 = .ok (.iaload, 1) := by decide +kernel
theorem dX12_fits_81 : decode cX12_fits 81 = .ok (.invokevirtual 142, 3) := by decide +kernel
theorem dX12_fits_84 : decode cX12_fits 84 = .ok (.istore 7, 2) := by decide +kernel
theorem dX12_fits_86 : decode cX12_fits 86 = .ok (.iinc 8 1, 3) := by decide +kernel
theorem dX12_fits_89 : decode cX12_fits 89 = .ok (.goto (-52), 3) := by decide +kernel
theorem dX12_fits_92 : decode cX12_fits 92 = .ok (.iload 7, 2) := by decide +kernel
theorem dX12_fits_94 : decode cX12_fits 94 = .ok (.ifCond .ne 6, 3) := by decide +kernel
theorem dX12_fits_97 : decode cX12_fits 97 = .ok (.goto 15, 3) := by decide +kernel
theorem dX12_fits_100 : decode cX12_fits 100 = .ok (.iload 4, 2) := by decide +kernel
theorem dX12_fits_102 : decode cX12_fits 102 = .ok (.ifCond .ne 7, 3) := by decide +kernel
theorem dX12_fits_105 : decode cX12_fits 105 = .ok (.iload 6, 2) := by decide +kernel
theorem dX12_fits_107 : decode cX12_fits 107 = .ok (.istore 5, 2) := by decide +kernel
theorem dX12_fits_109 : decode cX12_fits 109 = .ok (.iinc 4 1, 3) := by decide +kernel
theorem dX12_fits_112 : decode cX12_fits 112 = .ok (.iinc 6 1, 3) := by decide +kernel
theorem dX12_fits_115 : decode cX12_fits 115 = .ok (.goto (-99), 3) := by decide +kernel
theorem dX12_fits_118 : decode cX12_fits 118 = .ok (.aload_n 0, 1) := by decide +kernel
theorem dX12_fits_119 : decode cX12_fits 119 = .ok (.getfield 28, 3) := by decide +kernel
theorem dX12_fits_122 : decode cX12_fits 122 = .ok (.iload_n 1, 1) := by decide +kernel
theorem dX12_fits_123 : decode cX12_fits 123 = .ok (.iload_n 3, 1) := by decide +kernel
theorem dX12_fits_124 : decode cX12_fits 124 = .ok (.iastore, 1) := by decide +kernel
theorem dX12_fits_125 : decode cX12_fits 125 = .ok (.iload_n 2, 1) := by decide +kernel
theorem dX12_fits_126 : decode cX12_fits 126 = .ok (.ifCond .eq 8, 3) := by decide +kernel
theorem dX12_fits_129 : decode cX12_fits 129 = .ok (.iload 5, 2) := by decide +kernel
theorem dX12_fits_131 : decode cX12_fits 131 = .ok (.goto 5, 3) := by decide +kernel
theorem dX12_fits_134 : decode cX12_fits 134 = .ok (.iload 4, 2) := by decide +kernel
theorem dX12_fits_136 : decode cX12_fits 136 = .ok (.ireturn, 1) := by decide +kernel
theorem dX12_isSymbol_0 : decode cX12_isSymbol 0 = .ok (.iload_n 1, 1) := by decide +kernel
theorem dX12_isSymbol_1 : decode cX12_isSymbol 1 = .ok (.iconst 0, 1) := by decide +kernel
theorem dX12_isSymbol_2 : decode cX12_isSymbol 2 = .ok (.aload_n 0, 1) := by decide +kernel
theorem dX12_isSymbol_3 : decode cX12_isSymbol 3 = .ok (.getfield 347, 3) := by decide +kernel
theorem dX12_isSymbol_6 : decode cX12_isSymbol 6 = .ok (.iconst 1, 1) := by decide +kernel
theorem dX12_isSymbol_7 : decode cX12_isSymbol 7 = .ok (.isub, 1) := by decide +kernel
theorem dX12_isSymbol_8 : decode cX12_isSymbol 8 = .ok (.invokestatic 283, 3) := by decide +kernel
theorem dX12_isSymbol_11 : decode cX12_isSymbol 11 = .ok (.ireturn, 1) := by decide +kernel
theorem dX12_symbol_0 : decode cX12_symbol 0 = .ok (.aload_n 0, 1) := by decide +kernel
theorem dX12_symbol_1 : decode cX12_symbol 1 = .ok (.iconst 0, 1) := by decide +kernel
theorem dX12_symbol_2 : decode cX12_symbol 2 = .ok (.putfield 68, 3) := by decide +kernel
theorem dX12_symbol_5 : decode cX12_symbol 5 = .ok (.aload_n 0, 1) := by decide +kernel
theorem dX12_symbol_6 : decode cX12_symbol 6 = .ok (.aload_n 0, 1) := by decide +kernel
theorem dX12_symbol_7 : decode cX12_symbol 7 = .ok (.iload_n 1, 1) := by decide +kernel
theorem dX12_symbol_8 : decode cX12_symbol 8 = .ok (.invokevirtual 369, 3) := by decide +kernel
theorem dX12_symbol_11 : decode cX12_symbol 11 = .ok (.ifCond .eq 16, 3) := by decide +kernel
theorem dX12_symbol_14 : decode cX12_symbol 14 = .ok (.iload_n 2, 1) := by decide +kernel
theorem dX12_symbol_15 : decode cX12_symbol 15 = .ok (.iconst 0, 1) := by decide +kernel
theorem dX12_symbol_16 : decode cX12_symbol 16 = .ok (.iconst 4, 1) := by decide +kernel
theorem dX12_symbol_17 : decode cX12_symbol 17 = .ok (.invokestatic 283, 3) := by decide +kernel
theorem dX12_symbol_20 : decode cX12_symbol 20 = .ok (.ifCond .eq 7, 3) := by decide +kernel
theorem dX12_symbol_23 : decode cX12_symbol 23 = .ok (.iconst 1, 1) := by decide +kernel
theorem dX12_symbol_24 : decode cX12_symbol 24 = .ok (.goto 4, 3) := by decide +kernel
theorem dX12_symbol_27 : decode cX12_symbol 27 = .ok (.iconst 0, 1) := by decide +kernel
theorem dX12_symbol_28 : decode cX12_symbol 28 = .ok (.iconst 1, 1) := by decide +kernel
theorem dX12_symbol_29 : decode cX12_symbol 29 = .ok (.invokevirtual 334, 3) := by decide +kernel
theorem dX12_symbol_32 : decode cX12_symbol 32 = .ok (.ifCond .ne 5, 3) := by decide +kernel
theorem dX12_symbol_35 : decode cX12_symbol 35 = .ok (.iconst 0, 1) := by decide +kernel
theorem dX12_symbol_36 : decode cX12_symbol 36 = .ok (.ireturn, 1) := by decide +kernel
theorem dX12_symbol_37 : decode cX12_symbol 37 = .ok (.iload_n 2, 1) := by decide +kernel
theorem dX12_symbol_38 : decode cX12_symbol 38 = .ok (.ifCond .ne 12, 3) := by decide +kernel
theorem dX12_symbol_41 : decode cX12_symbol 41 = .ok (.aload_n 0, 1) := by decide +kernel
theorem dX12_symbol_42 : decode cX12_symbol 42 = .ok (.getfield 22, 3) := by decide +kernel
theorem dX12_symbol_45 : decode cX12_symbol 45 = .ok (.iload_n 1, 1) := by decide +kernel
theorem dX12_symbol_46 : decode cX12_symbol 46 = .ok (.iaload, 1) := by decide +kernel
theorem dX12_symbol_47 : decode cX12_symbol 47 = .ok (.goto 46, 3) := by decide +kernel
theorem dX12_symbol_50 : decode cX12_symbol 50 = .ok (.iload_n 2, 1) := by decide +kernel
theorem dX12_symbol_51 : decode cX12_symbol 51 = .ok (.iconst 1, 1) := by decide +kernel
theorem dX12_symbol_52 : decode cX12_symbol 52 = .ok (.if_icmp .ne 12, 3) := by decide +kernel
theorem dX12_symbol_55 : decode cX12_symbol 55 = .ok (.aload_n 0, 1) := by decide +kernel
theorem dX12_symbol_56 : decode cX12_symbol 56 = .ok (.getfield 25, 3) := by decide +kernel
theorem dX12_symbol_59 : decode cX12_symbol 59 = .ok (.iload_n 1, 1) := by decide +kernel
theorem dX12_symbol_60 : decode cX12_symbol 60 = .ok (.iaload, 1) := by decide +kernel
theorem dX12_symbol_61 : decode cX12_symbol 61 = .ok (.goto 32, 3) := by decide +kernel
theorem dX12_symbol_64 : decode cX12_symbol 64 = .ok (.iload_n 2, 1) := by decide +kernel
theorem dX12_symbol_65 : decode cX12_symbol 65 = .ok (.iconst 2, 1) := by decide +kernel
theorem dX12_symbol_66 : decode cX12_symbol 66 = .ok (.if_icmp .ne 12, 3) := by decide +kernel
theorem dX12_symbol_69 : decode cX12_symbol 69 = .ok (.aload_n 0, 1) := by decide +kernel
theorem dX12_symbol_70 : decode cX12_symbol 70 = .ok (.getfield 28, 3) := by decide +kernel
theorem dX12_symbol_73 : decode cX12_symbol 73 = .ok (.iload_n 1, 1) := by decide +kernel
theorem dX12_symbol_74 : decode cX12_symbol 74 = .ok (.iaload, 1) := by decide +kernel
theorem dX12_symbol_75 : decode cX12_symbol 75 = .ok (.goto 18, 3) := by decide +kernel
theorem dX12_symbol_78 : decode cX12_symbol 78 = .ok (.aload_n 0, 1) := by decide +kernel
theorem dX12_symbol_79 : decode cX12_symbol 79 = .ok (.iload_n 1, 1) := by decide +kernel
theorem dX12_symbol_80 : decode cX12_symbol 80 = .ok (.iload_n 2, 1) := by decide +kernel
theorem dX12_symbol_81 : decode cX12_symbol 81 = .ok (.iconst 4, 1) := by decide +kernel
theorem dX12_symbol_82 : decode cX12_symbol 82 = .ok (.if_icmp .ne 7, 3) := by decide +kernel
theorem dX12_symbol_85 : decode cX12_symbol 85 = .ok (.iconst 1, 1) := by decide +kernel
theorem dX12_symbol_86 : decode cX12_symbol 86 = .ok (.goto 4, 3) := by decide +kernel
theorem dX12_symbol_89 : decode cX12_symbol 89 = .ok (.iconst 0, 1) := by decide +kernel
theorem dX12_symbol_90 : decode cX12_symbol 90 = .ok (.invokevirtual 372, 3) := by decide +kernel
theorem dX12_symbol_93 : decode cX12_symbol 93 = .ok (.ireturn, 1) := by decide +kernel
theorem dX12_isTerm_0 : decode cX12_isTerm 0 = .ok (.iload_n 1, 1) := by decide +kernel
theorem dX12_isTerm_1 : decode cX12_isTerm 1 = .ok (.iconst 0, 1) := by decide +kernel
theorem dX12_isTerm_2 : decode cX12_isTerm 2 = .ok (.aload_n 0, 1) := by decide +kernel
theorem dX12_isTerm_3 : decode cX12_isTerm 3 = .ok (.getfield 9, 3) := by decide +kernel
theorem dX12_isTerm_6 : decode cX12_isTerm 6 = .ok (.iconst 0, 1) := by decide +kernel
theorem dX12_isTerm_7 : decode cX12_isTerm 7 = .ok (.iaload, 1) := by decide +kernel
theorem dX12_isTerm_8 : decode cX12_isTerm 8 = .ok (.iconst 1, 1) := by decide +kernel
theorem dX12_isTerm_9 : decode cX12_isTerm 9 = .ok (.isub, 1) := by decide +kernel
theorem dX12_isTerm_10 : decode cX12_isTerm 10 = .ok (.invokestatic 283, 3) := by decide +kernel
theorem dX12_isTerm_13 : decode cX12_isTerm 13 = .ok (.ireturn, 1) := by decide +kernel
theorem dX12_isTermNow_0 : decode cX12_isTermNow 0 = .ok (.aload_n 0, 1) := by decide +kernel
theorem dX12_isTermNow_1 : decode cX12_isTermNow 1 = .ok (.aload_n 0, 1) := by decide +kernel
theorem dX12_isTermNow_2 : decode cX12_isTermNow 2 = .ok (.iload_n 1, 1) := by decide +kernel
theorem dX12_isTermNow_3 : decode cX12_isTermNow 3 = .ok (.invokevirtual 376, 3) := by decide +kernel
theorem dX12_isTermNow_6 : decode cX12_isTermNow 6 = .ok (.iconst 1, 1) := by decide +kernel
theorem dX12_isTermNow_7 : decode cX12_isTermNow 7 = .ok (.invokevirtual 334, 3) := by decide +kernel
theorem dX12_isTermNow_10 : decode cX12_isTermNow 10 = .ok (.ireturn, 1) := by decide +kernel
theorem dX12_usesOf_0 : decode cX12_usesOf 0 = .ok (.iconst 0, 1) := by decide +kernel
theorem dX12_usesOf_1 : decode cX12_usesOf 1 = .ok (.istore_n 2, 1) := by decide +kernel
theorem dX12_usesOf_2 : decode cX12_usesOf 2 = .ok (.iconst 0, 1) := by decide +kernel
theorem dX12_usesOf_3 : decode cX12_usesOf 3 = .ok (.istore_n 3, 1) := by decide +kernel
theorem dX12_usesOf_4 : decode cX12_usesOf 4 = .ok (.iload_n 3, 1) := by decide +kernel
theorem dX12_usesOf_5 : decode cX12_usesOf 5 = .ok (.aload_n 0, 1) := by decide +kernel
theorem dX12_usesOf_6 : decode cX12_usesOf 6 = .ok (.invokevirtual 96, 3) := by decide +kernel
theorem dX12_usesOf_9 : decode cX12_usesOf 9 = .ok (.if_icmp .ge 67, 3) := by decide +kernel
theorem dX12_usesOf_12 : decode cX12_usesOf 12 = .ok (.iconst 0, 1) := by decide +kernel
theorem dX12_usesOf_13 : decode cX12_usesOf 13 = .ok (.istore 4, 2) := by decide +kernel
theorem dX12_usesOf_15 : decode cX12_usesOf 15 = .ok (.iconst 0, 1) := by decide +kernel
theorem dX12_usesOf_16 : decode cX12_usesOf 16 = .ok (.istore 5, 2) := by decide +kernel
theorem dX12_usesOf_18 : decode cX12_usesOf 18 = .ok (.iload 5, 2) := by decide +kernel
theorem dX12_usesOf_20 : decode cX12_usesOf 20 = .ok (.aload_n 0, 1) := by decide +kernel
theorem dX12_usesOf_21 : decode cX12_usesOf 21 = .ok (.iload_n 3, 1) := by decide +kernel
theorem dX12_usesOf_22 : decode cX12_usesOf 22 = .ok (.invokevirtual 111, 3) := by decide +kernel
theorem dX12_usesOf_25 : decode cX12_usesOf 25 = .ok (.if_icmp .ge 32, 3) := by decide +kernel
theorem dX12_usesOf_28 : decode cX12_usesOf 28 = .ok (.iload 4, 2) := by decide +kernel
theorem dX12_usesOf_30 : decode cX12_usesOf 30 = .ok (.ifCond .ne 14, 3) := by decide +kernel
theorem dX12_usesOf_33 : decode cX12_usesOf 33 = .ok (.aload_n 0, 1) := by decide +kernel
theorem dX12_usesOf_34 : decode cX12_usesOf 34 = .ok (.iload_n 3, 1) := by decide +kernel
theorem dX12_usesOf_35 : decode cX12_usesOf 35 = .ok (.iload 5, 2) := by decide +kernel
theorem dX12_usesOf_37 : decode cX12_usesOf 37 = .ok (.invokevirtual 88, 3) := by decide +kernel
theorem dX12_usesOf_40 : decode cX12_usesOf 40 = .ok (.iload_n 1, 1) := by decide +kernel
theorem dX12_usesOf_41 : decode cX12_usesOf 41 = .ok (.if_icmp .ne 7, 3) := by decide +kernel
theorem dX12_usesOf_44 : decode cX12_usesOf 44 = .ok (.iconst 1, 1) := by decide +kernel
theorem dX12_usesOf_45 : decode cX12_usesOf 45 = .ok (.goto 4, 3) := by decide +kernel
theorem dX12_usesOf_48 : decode cX12_usesOf 48 = .ok (.iconst 0, 1) := by decide +kernel
theorem dX12_usesOf_49 : decode cX12_usesOf 49 = .ok (.istore 4, 2) := by decide +kernel
theorem dX12_usesOf_51 : decode cX12_usesOf 51 = .ok (.iinc 5 1, 3) := by decide +kernel
theorem dX12_usesOf_54 : decode cX12_usesOf 54 = .ok (.goto (-36), 3) := by decide +kernel
theorem dX12_usesOf_57 : decode cX12_usesOf 57 = .ok (.iload_n 2, 1) := by decide +kernel
theorem dX12_usesOf_58 : decode cX12_usesOf 58 = .ok (.iload 4, 2) := by decide +kernel
theorem dX12_usesOf_60 : decode cX12_usesOf 60 = .ok (.ifCond .eq 7, 3) := by decide +kernel
theorem dX12_usesOf_63 : decode cX12_usesOf 63 = .ok (.iconst 1, 1) := by decide +kernel
theorem dX12_usesOf_64 : decode cX12_usesOf 64 = .ok (.goto 4, 3) := by decide +kernel
theorem dX12_usesOf_67 : decode cX12_usesOf 67 = .ok (.iconst 0, 1) := by decide +kernel
theorem dX12_usesOf_68 : decode cX12_usesOf 68 = .ok (.iadd, 1) := by decide +kernel
theorem dX12_usesOf_69 : decode cX12_usesOf 69 = .ok (.istore_n 2, 1) := by decide +kernel
theorem dX12_usesOf_70 : decode cX12_usesOf 70 = .ok (.iinc 3 1, 3) := by decide +kernel
theorem dX12_usesOf_73 : decode cX12_usesOf 73 = .ok (.goto (-69), 3) := by decide +kernel
theorem dX12_usesOf_76 : decode cX12_usesOf 76 = .ok (.iload_n 2, 1) := by decide +kernel
theorem dX12_usesOf_77 : decode cX12_usesOf 77 = .ok (.ireturn, 1) := by decide +kernel
theorem dX12_term_0 : decode cX12_term 0 = .ok (.aload_n 0, 1) := by decide +kernel
theorem dX12_term_1 : decode cX12_term 1 = .ok (.iconst 0, 1) := by decide +kernel
theorem dX12_term_2 : decode cX12_term 2 = .ok (.putfield 68, 3) := by decide +kernel
theorem dX12_term_5 : decode cX12_term 5 = .ok (.aload_n 0, 1) := by decide +kernel
theorem dX12_term_6 : decode cX12_term 6 = .ok (.iload_n 1, 1) := by decide +kernel
theorem dX12_term_7 : decode cX12_term 7 = .ok (.invokevirtual 379, 3) := by decide +kernel
theorem dX12_term_10 : decode cX12_term 10 = .ok (.ifCond .eq 18, 3) := by decide +kernel
theorem dX12_term_13 : decode cX12_term 13 = .ok (.aload_n 0, 1) := by decide +kernel
theorem dX12_term_14 : decode cX12_term 14 = .ok (.iload_n 2, 1) := by decide +kernel
theorem dX12_term_15 : decode cX12_term 15 = .ok (.iconst 0, 1) := by decide +kernel
theorem dX12_term_16 : decode cX12_term 16 = .ok (.bipush 9, 2) := by decide +kernel
theorem dX12_term_18 : decode cX12_term 18 = .ok (.invokestatic 283, 3) := by decide +kernel
theorem dX12_term_21 : decode cX12_term 21 = .ok (.iconst 1, 1) := by decide +kernel
theorem dX12_term_22 : decode cX12_term 22 = .ok (.invokevirtual 334, 3) := by decide +kernel
theorem dX12_term_25 : decode cX12_term 25 = .ok (.ifCond .ne 5, 3) := by decide +kernel
theorem dX12_term_28 : decode cX12_term 28 = .ok (.iconst 0, 1) := by decide +kernel
theorem dX12_term_29 : decode cX12_term 29 = .ok (.ireturn, 1) := by decide +kernel
theorem dX12_term_30 : decode cX12_term 30 = .ok (.iload_n 2, 1) := by decide +kernel
theorem dX12_term_31 : decode cX12_term 31 = .ok (.tableswitch 128 0 8 #[49, 67, 85, 91, 97, 104, 110, 116, 122], 49) := by decide +kernel
theorem dX12_term_80 : decode cX12_term 80 = .ok (.aload_n 0, 1) := by decide +kernel
theorem dX12_term_81 : decode cX12_term 81 = .ok (.iload_n 1, 1) := by decide +kernel
theorem dX12_term_82 : decode cX12_term 82 = .ok (.invokevirtual 78, 3) := by decide +kernel
theorem dX12_term_85 : decode cX12_term 85 = .ok (.ifCond .eq 7, 3) := by decide +kernel
theorem dX12_term_88 : decode cX12_term 88 = .ok (.iconst (-1), 1) := by decide +kernel
theorem dX12_term_89 : decode cX12_term 89 = .ok (.goto 8, 3) := by decide +kernel
theorem dX12_term_92 : decode cX12_term 92 = .ok (.aload_n 0, 1) := by decide +kernel
theorem dX12_term_93 : decode cX12_term 93 = .ok (.iload_n 1, 1) := by decide +kernel
theorem dX12_term_94 : decode cX12_term 94 = .ok (.invokevirtual 74, 3) := by decide +kernel
theorem dX12_term_97 : decode cX12_term 97 = .ok (.ireturn, 1) := by decide +kernel
theorem dX12_term_98 : decode cX12_term 98 = .ok (.aload_n 0, 1) := by decide +kernel
theorem dX12_term_99 : decode cX12_term 99 = .ok (.iload_n 1, 1) := by decide +kernel
theorem dX12_term_100 : decode cX12_term 100 = .ok (.invokevirtual 78, 3) := by decide +kernel
theorem dX12_term_103 : decode cX12_term 103 = .ok (.ifCond .eq 11, 3) := by decide +kernel
theorem dX12_term_106 : decode cX12_term 106 = .ok (.aload_n 0, 1) := by decide +kernel
theorem dX12_term_107 : decode cX12_term 107 = .ok (.iload_n 1, 1) := by decide +kernel
theorem dX12_term_108 : decode cX12_term 108 = .ok (.invokevirtual 123, 3) := by decide +kernel
theorem dX12_term_111 : decode cX12_term 111 = .ok (.goto 4, 3) := by decide +kernel
theorem dX12_term_114 : decode cX12_term 114 = .ok (.iconst (-1), 1) := by decide +kernel
theorem dX12_term_115 : decode cX12_term 115 = .ok (.ireturn, 1) := by decide +kernel
theorem dX12_term_116 : decode cX12_term 116 = .ok (.aload_n 0, 1) := by decide +kernel
theorem dX12_term_117 : decode cX12_term 117 = .ok (.iload_n 1, 1) := by decide +kernel
theorem dX12_term_118 : decode cX12_term 118 = .ok (.invokevirtual 114, 3) := by decide +kernel
theorem dX12_term_121 : decode cX12_term 121 = .ok (.ireturn, 1) := by decide +kernel
theorem dX12_term_122 : decode cX12_term 122 = .ok (.aload_n 0, 1) := by decide +kernel
theorem dX12_term_123 : decode cX12_term 123 = .ok (.iload_n 1, 1) := by decide +kernel
theorem dX12_term_124 : decode cX12_term 124 = .ok (.invokevirtual 382, 3) := by decide +kernel
theorem dX12_term_127 : decode cX12_term 127 = .ok (.ireturn, 1) := by decide +kernel
theorem dX12_term_128 : decode cX12_term 128 = .ok (.aload_n 0, 1) := by decide +kernel
theorem dX12_term_129 : decode cX12_term 129 = .ok (.getfield 19, 3) := by decide +kernel
theorem dX12_term_132 : decode cX12_term 132 = .ok (.iload_n 1, 1) := by decide +kernel
theorem dX12_term_133 : decode cX12_term 133 = .ok (.iaload, 1) := by decide +kernel
theorem dX12_term_134 : decode cX12_term 134 = .ok (.ireturn, 1) := by decide +kernel
theorem dX12_term_135 : decode cX12_term 135 = .ok (.aload_n 0, 1) := by decide +kernel
theorem dX12_term_136 : decode cX12_term 136 = .ok (.iload_n 1, 1) := by decide +kernel
theorem dX12_term_137 : decode cX12_term 137 = .ok (.invokevirtual 120, 3) := by decide +kernel
theorem dX12_term_140 : decode cX12_term 140 = .ok (.ireturn, 1) := by decide +kernel
theorem dX12_term_141 : decode cX12_term 141 = .ok (.aload_n 0, 1) := by decide +kernel
theorem dX12_term_142 : decode cX12_term 142 = .ok (.iload_n 1, 1) := by decide +kernel
theorem dX12_term_143 : decode cX12_term 143 = .ok (.invokevirtual 126, 3) := by decide +kernel
theorem dX12_term_146 : decode cX12_term 146 = .ok (.ireturn, 1) := by decide +kernel
theorem dX12_term_147 : decode cX12_term 147 = .ok (.aload_n 0, 1) := by decide +kernel
theorem dX12_term_148 : decode cX12_term 148 = .ok (.iload_n 1, 1) := by decide +kernel
theorem dX12_term_149 : decode cX12_term 149 = .ok (.invokevirtual 385, 3) := by decide +kernel
theorem dX12_term_152 : decode cX12_term 152 = .ok (.ireturn, 1) := by decide +kernel
theorem dX12_term_153 : decode cX12_term 153 = .ok (.aload_n 0, 1) := by decide +kernel
theorem dX12_term_154 : decode cX12_term 154 = .ok (.iload_n 1, 1) := by decide +kernel
theorem dX12_term_155 : decode cX12_term 155 = .ok (.invokevirtual 307, 3) := by decide +kernel
theorem dX12_term_158 : decode cX12_term 158 = .ok (.ireturn, 1) := by decide +kernel
theorem dX12_term_159 : decode cX12_term 159 = .ok (.aload_n 0, 1) := by decide +kernel
theorem dX12_term_160 : decode cX12_term 160 = .ok (.iload_n 1, 1) := by decide +kernel
theorem dX12_term_161 : decode cX12_term 161 = .ok (.invokevirtual 230, 3) := by decide +kernel
theorem dX12_term_164 : decode cX12_term 164 = .ok (.ifCond .eq 7, 3) := by decide +kernel
theorem dX12_term_167 : decode cX12_term 167 = .ok (.iconst 1, 1) := by decide +kernel
theorem dX12_term_168 : decode cX12_term 168 = .ok (.goto 4, 3) := by decide +kernel
theorem dX12_term_171 : decode cX12_term 171 = .ok (.iconst 0, 1) := by decide +kernel
theorem dX12_term_172 : decode cX12_term 172 = .ok (.ireturn, 1) := by decide +kernel
theorem dX12_argument_0 : decode cX12_argument 0 = .ok (.aload_n 0, 1) := by decide +kernel
theorem dX12_argument_1 : decode cX12_argument 1 = .ok (.iconst 0, 1) := by decide +kernel
theorem dX12_argument_2 : decode cX12_argument 2 = .ok (.putfield 68, 3) := by decide +kernel
theorem dX12_argument_5 : decode cX12_argument 5 = .ok (.aload_n 0, 1) := by decide +kernel
theorem dX12_argument_6 : decode cX12_argument 6 = .ok (.iload_n 1, 1) := by decide +kernel
theorem dX12_argument_7 : decode cX12_argument 7 = .ok (.invokevirtual 379, 3) := by decide +kernel
theorem dX12_argument_10 : decode cX12_argument 10 = .ok (.ifCond .eq 32, 3) := by decide +kernel
theorem dX12_argument_13 : decode cX12_argument 13 = .ok (.aload_n 0, 1) := by decide +kernel
theorem dX12_argument_14 : decode cX12_argument 14 = .ok (.iload_n 2, 1) := by decide +kernel
theorem dX12_argument_15 : decode cX12_argument 15 = .ok (.iconst 0, 1) := by decide +kernel
theorem dX12_argument_16 : decode cX12_argument 16 = .ok (.aload_n 0, 1) := by decide +kernel
theorem dX12_argument_17 : decode cX12_argument 17 = .ok (.iload_n 1, 1) := by decide +kernel
theorem dX12_argument_18 : decode cX12_argument 18 = .ok (.invokevirtual 111, 3) := by decide +kernel
theorem dX12_argument_21 : decode cX12_argument 21 = .ok (.iconst 1, 1) := by decide +kernel
theorem dX12_argument_22 : decode cX12_argument 22 = .ok (.isub, 1) := by decide +kernel
theorem dX12_argument_23 : decode cX12_argument 23 = .ok (.invokestatic 283, 3) := by decide +kernel
theorem dX12_argument_26 : decode cX12_argument 26 = .ok (.iconst 1, 1) := by decide +kernel
theorem dX12_argument_27 : decode cX12_argument 27 = .ok (.invokevirtual 334, 3) := by decide +kernel
theorem dX12_argument_30 : decode cX12_argument 30 = .ok (.ifCond .eq 12, 3) := by decide +kernel
theorem dX12_argument_33 : decode cX12_argument 33 = .ok (.aload_n 0, 1) := by decide +kernel
theorem dX12_argument_34 : decode cX12_argument 34 = .ok (.iload_n 1, 1) := by decide +kernel
theorem dX12_argument_35 : decode cX12_argument 35 = .ok (.iload_n 2, 1) := by decide +kernel
theorem dX12_argument_36 : decode cX12_argument 36 = .ok (.invokevirtual 88, 3) := by decide +kernel
theorem dX12_argument_39 : decode cX12_argument 39 = .ok (.goto 4, 3) := by decide +kernel
theorem dX12_argument_42 : decode cX12_argument 42 = .ok (.iconst 0, 1) := by decide +kernel
theorem dX12_argument_43 : decode cX12_argument 43 = .ok (.ireturn, 1) := by decide +kernel
theorem dX12_place_0 : decode cX12_place 0 = .ok (.aload_n 0, 1) := by decide +kernel
theorem dX12_place_1 : decode cX12_place 1 = .ok (.iconst 0, 1) := by decide +kernel
theorem dX12_place_2 : decode cX12_place 2 = .ok (.putfield 68, 3) := by decide +kernel
theorem dX12_place_5 : decode cX12_place 5 = .ok (.aload_n 0, 1) := by decide +kernel
theorem dX12_place_6 : decode cX12_place 6 = .ok (.iload_n 1, 1) := by decide +kernel
theorem dX12_place_7 : decode cX12_place 7 = .ok (.invokevirtual 379, 3) := by decide +kernel
theorem dX12_place_10 : decode cX12_place 10 = .ok (.ifCond .ne 5, 3) := by decide +kernel
theorem dX12_place_13 : decode cX12_place 13 = .ok (.iconst 0, 1) := by decide +kernel
theorem dX12_place_14 : decode cX12_place 14 = .ok (.ireturn, 1) := by decide +kernel
theorem dX12_place_15 : decode cX12_place 15 = .ok (.aload_n 0, 1) := by decide +kernel
theorem dX12_place_16 : decode cX12_place 16 = .ok (.iload_n 1, 1) := by decide +kernel
theorem dX12_place_17 : decode cX12_place 17 = .ok (.iload_n 2, 1) := by decide +kernel
theorem dX12_place_18 : decode cX12_place 18 = .ok (.invokevirtual 139, 3) := by decide +kernel
theorem dX12_place_21 : decode cX12_place 21 = .ok (.istore_n 3, 1) := by decide +kernel
theorem dX12_place_22 : decode cX12_place 22 = .ok (.aload_n 0, 1) := by decide +kernel
theorem dX12_place_23 : decode cX12_place 23 = .ok (.iload_n 3, 1) := by decide +kernel
theorem dX12_place_24 : decode cX12_place 24 = .ok (.iconst (-1), 1) := by decide +kernel
theorem dX12_place_25 : decode cX12_place 25 = .ok (.if_icmp .eq 7, 3) := by decide +kernel
theorem dX12_place_28 : decode cX12_place 28 = .ok (.iconst 1, 1) := by decide +kernel
theorem dX12_place_29 : decode cX12_place 29 = .ok (.goto 4, 3) := by decide +kernel
theorem dX12_place_32 : decode cX12_place 32 = .ok (.iconst 0, 1) := by decide +kernel
theorem dX12_place_33 : decode cX12_place 33 = .ok (.iconst 1, 1) := by decide +kernel
theorem dX12_place_34 : decode cX12_place 34 = .ok (.invokevirtual 334, 3) := by decide +kernel
theorem dX12_place_37 : decode cX12_place 37 = .ok (.ifCond .eq 7, 3) := by decide +kernel
theorem dX12_place_40 : decode cX12_place 40 = .ok (.iload_n 3, 1) := by decide +kernel
theorem dX12_place_41 : decode cX12_place 41 = .ok (.goto 4, 3) := by decide +kernel
theorem dX12_place_44 : decode cX12_place 44 = .ok (.iconst 0, 1) := by decide +kernel
theorem dX12_place_45 : decode cX12_place 45 = .ok (.ireturn, 1) := by decide +kernel
theorem dX12_order_0 : decode cX12_order 0 = .ok (.aload_n 0, 1) := by decide +kernel
theorem dX12_order_1 : decode cX12_order 1 = .ok (.iconst 0, 1) := by decide +kernel
theorem dX12_order_2 : decode cX12_order 2 = .ok (.putfield 68, 3) := by decide +kernel
theorem dX12_order_5 : decode cX12_order 5 = .ok (.aload_n 0, 1) := by decide +kernel
theorem dX12_order_6 : decode cX12_order 6 = .ok (.iload_n 1, 1) := by decide +kernel
theorem dX12_order_7 : decode cX12_order 7 = .ok (.invokevirtual 379, 3) := by decide +kernel
theorem dX12_order_10 : decode cX12_order 10 = .ok (.ifCond .eq 11, 3) := by decide +kernel
theorem dX12_order_13 : decode cX12_order 13 = .ok (.aload_n 0, 1) := by decide +kernel
theorem dX12_order_14 : decode cX12_order 14 = .ok (.iload_n 2, 1) := by decide +kernel
theorem dX12_order_15 : decode cX12_order 15 = .ok (.invokevirtual 379, 3) := by decide +kernel
theorem dX12_order_18 : decode cX12_order 18 = .ok (.ifCond .ne 5, 3) := by decide +kernel
theorem dX12_order_21 : decode cX12_order 21 = .ok (.iconst 0, 1) := by decide +kernel
theorem dX12_order_22 : decode cX12_order 22 = .ok (.ireturn, 1) := by decide +kernel
theorem dX12_order_23 : decode cX12_order 23 = .ok (.iload_n 1, 1) := by decide +kernel
theorem dX12_order_24 : decode cX12_order 24 = .ok (.iload_n 2, 1) := by decide +kernel
theorem dX12_order_25 : decode cX12_order 25 = .ok (.if_icmp .ne 7, 3) := by decide +kernel
theorem dX12_order_28 : decode cX12_order 28 = .ok (.iconst 0, 1) := by decide +kernel
theorem dX12_order_29 : decode cX12_order 29 = .ok (.goto 30, 3) := by decide +kernel
theorem dX12_order_32 : decode cX12_order 32 = .ok (.aload_n 0, 1) := by decide +kernel
theorem dX12_order_33 : decode cX12_order 33 = .ok (.iload_n 1, 1) := by decide +kernel
theorem dX12_order_34 : decode cX12_order 34 = .ok (.iload_n 2, 1) := by decide +kernel
theorem dX12_order_35 : decode cX12_order 35 = .ok (.invokevirtual 142, 3) := by decide +kernel
theorem dX12_order_38 : decode cX12_order 38 = .ok (.ifCond .eq 7, 3) := by decide +kernel
theorem dX12_order_41 : decode cX12_order 41 = .ok (.iconst 1, 1) := by decide +kernel
theorem dX12_order_42 : decode cX12_order 42 = .ok (.goto 17, 3) := by decide +kernel
theorem dX12_order_45 : decode cX12_order 45 = .ok (.aload_n 0, 1) := by decide +kernel
theorem dX12_order_46 : decode cX12_order 46 = .ok (.iload_n 2, 1) := by decide +kernel
theorem dX12_order_47 : decode cX12_order 47 = .ok (.iload_n 1, 1) := by decide +kernel
theorem dX12_order_48 : decode cX12_order 48 = .ok (.invokevirtual 142, 3) := by decide +kernel
theorem dX12_order_51 : decode cX12_order 51 = .ok (.ifCond .eq 7, 3) := by decide +kernel
theorem dX12_order_54 : decode cX12_order 54 = .ok (.iconst 2, 1) := by decide +kernel
theorem dX12_order_55 : decode cX12_order 55 = .ok (.goto 4, 3) := by decide +kernel
theorem dX12_order_58 : decode cX12_order 58 = .ok (.iconst 3, 1) := by decide +kernel
theorem dX12_order_59 : decode cX12_order 59 = .ok (.ireturn, 1) := by decide +kernel
theorem dX12_isFound_0 : decode cX12_isFound 0 = .ok (.iload_n 3, 1) := by decide +kernel
theorem dX12_isFound_1 : decode cX12_isFound 1 = .ok (.ifCond .ne 10, 3) := by decide +kernel
theorem dX12_isFound_4 : decode cX12_isFound 4 = .ok (.aload_n 0, 1) := by decide +kernel
theorem dX12_isFound_5 : decode cX12_isFound 5 = .ok (.iload_n 1, 1) := by decide +kernel
theorem dX12_isFound_6 : decode cX12_isFound 6 = .ok (.iload_n 2, 1) := by decide +kernel
theorem dX12_isFound_7 : decode cX12_isFound 7 = .ok (.invokevirtual 227, 3) := by decide +kernel
theorem dX12_isFound_10 : decode cX12_isFound 10 = .ok (.ireturn, 1) := by decide +kernel
theorem dX12_isFound_11 : decode cX12_isFound 11 = .ok (.iload_n 3, 1) := by decide +kernel
theorem dX12_isFound_12 : decode cX12_isFound 12 = .ok (.iconst 1, 1) := by decide +kernel
theorem dX12_isFound_13 : decode cX12_isFound 13 = .ok (.if_icmp .ne 10, 3) := by decide +kernel
theorem dX12_isFound_16 : decode cX12_isFound 16 = .ok (.aload_n 0, 1) := by decide +kernel
theorem dX12_isFound_17 : decode cX12_isFound 17 = .ok (.iload_n 2, 1) := by decide +kernel
theorem dX12_isFound_18 : decode cX12_isFound 18 = .ok (.iload_n 1, 1) := by decide +kernel
theorem dX12_isFound_19 : decode cX12_isFound 19 = .ok (.invokevirtual 227, 3) := by decide +kernel
theorem dX12_isFound_22 : decode cX12_isFound 22 = .ok (.ireturn, 1) := by decide +kernel
theorem dX12_isFound_23 : decode cX12_isFound 23 = .ok (.iload_n 3, 1) := by decide +kernel
theorem dX12_isFound_24 : decode cX12_isFound 24 = .ok (.iconst 2, 1) := by decide +kernel
theorem dX12_isFound_25 : decode cX12_isFound 25 = .ok (.if_icmp .ne 12, 3) := by decide +kernel
theorem dX12_isFound_28 : decode cX12_isFound 28 = .ok (.aload_n 0, 1) := by decide +kernel
theorem dX12_isFound_29 : decode cX12_isFound 29 = .ok (.iload_n 1, 1) := by decide +kernel
theorem dX12_isFound_30 : decode cX12_isFound 30 = .ok (.iload_n 2, 1) := by decide +kernel
theorem dX12_isFound_31 : decode cX12_isFound 31 = .ok (.invokevirtual 359, 3) := by decide +kernel
theorem dX12_isFound_34 : decode cX12_isFound 34 = .ok (.goto 9, 3) := by decide +kernel
theorem dX12_isFound_37 : decode cX12_isFound 37 = .ok (.aload_n 0, 1) := by decide +kernel
theorem dX12_isFound_38 : decode cX12_isFound 38 = .ok (.iload_n 1, 1) := by decide +kernel
theorem dX12_isFound_39 : decode cX12_isFound 39 = .ok (.iload_n 2, 1) := by decide +kernel
theorem dX12_isFound_40 : decode cX12_isFound 40 = .ok (.invokevirtual 136, 3) := by decide +kernel
theorem dX12_isFound_43 : decode cX12_isFound 43 = .ok (.ireturn, 1) := by decide +kernel
theorem dX12_find_0 : decode cX12_find 0 = .ok (.aload_n 0, 1) := by decide +kernel
theorem dX12_find_1 : decode cX12_find 1 = .ok (.iconst 0, 1) := by decide +kernel
theorem dX12_find_2 : decode cX12_find 2 = .ok (.putfield 68, 3) := by decide +kernel
theorem dX12_find_5 : decode cX12_find 5 = .ok (.aload_n 0, 1) := by decide +kernel
theorem dX12_find_6 : decode cX12_find 6 = .ok (.iload_n 1, 1) := by decide +kernel
theorem dX12_find_7 : decode cX12_find 7 = .ok (.invokevirtual 379, 3) := by decide +kernel
theorem dX12_find_10 : decode cX12_find 10 = .ok (.ifCond .eq 17, 3) := by decide +kernel
theorem dX12_find_13 : decode cX12_find 13 = .ok (.aload_n 0, 1) := by decide +kernel
theorem dX12_find_14 : decode cX12_find 14 = .ok (.iload_n 2, 1) := by decide +kernel
theorem dX12_find_15 : decode cX12_find 15 = .ok (.iconst 0, 1) := by decide +kernel
theorem dX12_find_16 : decode cX12_find 16 = .ok (.iconst 3, 1) := by decide +kernel
theorem dX12_find_17 : decode cX12_find 17 = .ok (.invokestatic 283, 3) := by decide +kernel
theorem dX12_find_20 : decode cX12_find 20 = .ok (.iconst 1, 1) := by decide +kernel
theorem dX12_find_21 : decode cX12_find 21 = .ok (.invokevirtual 334, 3) := by decide +kernel
theorem dX12_find_24 : decode cX12_find 24 = .ok (.ifCond .ne 5, 3) := by decide +kernel
theorem dX12_find_27 : decode cX12_find 27 = .ok (.iconst 0, 1) := by decide +kernel
theorem dX12_find_28 : decode cX12_find 28 = .ok (.ireturn, 1) := by decide +kernel
theorem dX12_find_29 : decode cX12_find 29 = .ok (.iconst 0, 1) := by decide +kernel
theorem dX12_find_30 : decode cX12_find 30 = .ok (.istore_n 3, 1) := by decide +kernel
theorem dX12_find_31 : decode cX12_find 31 = .ok (.iconst 0, 1) := by decide +kernel
theorem dX12_find_32 : decode cX12_find 32 = .ok (.istore 4, 2) := by decide +kernel
theorem dX12_find_34 : decode cX12_find 34 = .ok (.iload 4, 2) := by decide +kernel
theorem dX12_find_36 : decode cX12_find 36 = .ok (.aload_n 0, 1) := by decide +kernel
theorem dX12_find_37 : decode cX12_find 37 = .ok (.getfield 9, 3) := by decide +kernel
theorem dX12_find_40 : decode cX12_find 40 = .ok (.bipush 26, 2) := by decide +kernel
theorem dX12_find_42 : decode cX12_find 42 = .ok (.iaload, 1) := by decide +kernel
theorem dX12_find_43 : decode cX12_find 43 = .ok (.if_icmp .ge 35, 3) := by decide +kernel
theorem dX12_find_46 : decode cX12_find 46 = .ok (.aload_n 0, 1) := by decide +kernel
theorem dX12_find_47 : decode cX12_find 47 = .ok (.aload_n 0, 1) := by decide +kernel
theorem dX12_find_48 : decode cX12_find 48 = .ok (.getfield 9, 3) := by decide +kernel
theorem dX12_find_51 : decode cX12_find 51 = .ok (.bipush 27, 2) := by decide +kernel
theorem dX12_find_53 : decode cX12_find 53 = .ok (.iload 4, 2) := by decide +kernel
theorem dX12_find_55 : decode cX12_find 55 = .ok (.iadd, 1) := by decide +kernel
theorem dX12_find_56 : decode cX12_find 56 = .ok (.iaload, 1) := by decide +kernel
theorem dX12_find_57 : decode cX12_find 57 = .ok (.iload_n 1, 1) := by decide +kernel
theorem dX12_find_58 : decode cX12_find 58 = .ok (.iload_n 2, 1) := by decide +kernel
theorem dX12_find_59 : decode cX12_find 59 = .ok (.invokevirtual 388, 3) := by decide +kernel
theorem dX12_find_62 : decode cX12_find 62 = .ok (.ifCond .eq 10, 3) := by decide +kernel
theorem dX12_find_65 : decode cX12_find 65 = .ok (.iload_n 3, 1) := by decide +kernel
theorem dX12_find_66 : decode cX12_find 66 = .ok (.iconst 1, 1) := by decide +kernel
theorem dX12_find_67 : decode cX12_find 67 = .ok (.iload 4, 2) := by decide +kernel
theorem dX12_find_69 : decode cX12_find 69 = .ok (.ishl, 1) := by decide +kernel
theorem dX12_find_70 : decode cX12_find 70 = .ok (.ior, 1) := by decide +kernel
theorem dX12_find_71 : decode cX12_find 71 = .ok (.istore_n 3, 1) := by decide +kernel
theorem dX12_find_72 : decode cX12_find 72 = .ok (.iinc 4 1, 3) := by decide +kernel
theorem dX12_find_75 : decode cX12_find 75 = .ok (.goto (-41), 3) := by decide +kernel
theorem dX12_find_78 : decode cX12_find 78 = .ok (.iload_n 3, 1) := by decide +kernel
theorem dX12_find_79 : decode cX12_find 79 = .ok (.ireturn, 1) := by decide +kernel
theorem dX12_rule_0 : decode cX12_rule 0 = .ok (.aload_n 0, 1) := by decide +kernel
theorem dX12_rule_1 : decode cX12_rule 1 = .ok (.iconst 0, 1) := by decide +kernel
theorem dX12_rule_2 : decode cX12_rule 2 = .ok (.putfield 68, 3) := by decide +kernel
theorem dX12_rule_5 : decode cX12_rule 5 = .ok (.aload_n 0, 1) := by decide +kernel
theorem dX12_rule_6 : decode cX12_rule 6 = .ok (.iload_n 1, 1) := by decide +kernel
theorem dX12_rule_7 : decode cX12_rule 7 = .ok (.iconst 0, 1) := by decide +kernel
theorem dX12_rule_8 : decode cX12_rule 8 = .ok (.aload_n 0, 1) := by decide +kernel
theorem dX12_rule_9 : decode cX12_rule 9 = .ok (.getfield 9, 3) := by decide +kernel
theorem dX12_rule_12 : decode cX12_rule 12 = .ok (.bipush 9, 2) := by decide +kernel
theorem dX12_rule_14 : decode cX12_rule 14 = .ok (.iaload, 1) := by decide +kernel
theorem dX12_rule_15 : decode cX12_rule 15 = .ok (.iconst 1, 1) := by decide +kernel
theorem dX12_rule_16 : decode cX12_rule 16 = .ok (.isub, 1) := by decide +kernel
theorem dX12_rule_17 : decode cX12_rule 17 = .ok (.invokestatic 283, 3) := by decide +kernel
theorem dX12_rule_20 : decode cX12_rule 20 = .ok (.ifCond .eq 16, 3) := by decide +kernel
theorem dX12_rule_23 : decode cX12_rule 23 = .ok (.iload_n 2, 1) := by decide +kernel
theorem dX12_rule_24 : decode cX12_rule 24 = .ok (.iconst 0, 1) := by decide +kernel
theorem dX12_rule_25 : decode cX12_rule 25 = .ok (.iconst 1, 1) := by decide +kernel
theorem dX12_rule_26 : decode cX12_rule 26 = .ok (.invokestatic 283, 3) := by decide +kernel
theorem dX12_rule_29 : decode cX12_rule 29 = .ok (.ifCond .eq 7, 3) := by decide +kernel
theorem dX12_rule_32 : decode cX12_rule 32 = .ok (.iconst 1, 1) := by decide +kernel
theorem dX12_rule_33 : decode cX12_rule 33 = .ok (.goto 4, 3) := by decide +kernel
theorem dX12_rule_36 : decode cX12_rule 36 = .ok (.iconst 0, 1) := by decide +kernel
theorem dX12_rule_37 : decode cX12_rule 37 = .ok (.iconst 1, 1) := by decide +kernel
theorem dX12_rule_38 : decode cX12_rule 38 = .ok (.invokevirtual 334, 3) := by decide +kernel
theorem dX12_rule_41 : decode cX12_rule 41 = .ok (.ifCond .eq 19, 3) := by decide +kernel
theorem dX12_rule_44 : decode cX12_rule 44 = .ok (.aload_n 0, 1) := by decide +kernel
theorem dX12_rule_45 : decode cX12_rule 45 = .ok (.getfield 9, 3) := by decide +kernel
theorem dX12_rule_48 : decode cX12_rule 48 = .ok (.bipush 10, 2) := by decide +kernel
theorem dX12_rule_50 : decode cX12_rule 50 = .ok (.iconst 2, 1) := by decide +kernel
theorem dX12_rule_51 : decode cX12_rule 51 = .ok (.iload_n 1, 1) := by decide +kernel
theorem dX12_rule_52 : decode cX12_rule 52 = .ok (.imul, 1) := by decide +kernel
theorem dX12_rule_53 : decode cX12_rule 53 = .ok (.iadd, 1) := by decide +kernel
theorem dX12_rule_54 : decode cX12_rule 54 = .ok (.iload_n 2, 1) := by decide +kernel
theorem dX12_rule_55 : decode cX12_rule 55 = .ok (.iadd, 1) := by decide +kernel
theorem dX12_rule_56 : decode cX12_rule 56 = .ok (.iaload, 1) := by decide +kernel
theorem dX12_rule_57 : decode cX12_rule 57 = .ok (.goto 4, 3) := by decide +kernel
theorem dX12_rule_60 : decode cX12_rule 60 = .ok (.iconst 0, 1) := by decide +kernel
theorem dX12_rule_61 : decode cX12_rule 61 = .ok (.ireturn, 1) := by decide +kernel
theorem dX12_entry_0 : decode cX12_entry 0 = .ok (.aload_n 0, 1) := by decide +kernel
theorem dX12_entry_1 : decode cX12_entry 1 = .ok (.iconst 0, 1) := by decide +kernel
theorem dX12_entry_2 : decode cX12_entry 2 = .ok (.putfield 68, 3) := by decide +kernel
theorem dX12_entry_5 : decode cX12_entry 5 = .ok (.aload_n 0, 1) := by decide +kernel
theorem dX12_entry_6 : decode cX12_entry 6 = .ok (.iload_n 1, 1) := by decide +kernel
theorem dX12_entry_7 : decode cX12_entry 7 = .ok (.iconst 0, 1) := by decide +kernel
theorem dX12_entry_8 : decode cX12_entry 8 = .ok (.aload_n 0, 1) := by decide +kernel
theorem dX12_entry_9 : decode cX12_entry 9 = .ok (.getfield 9, 3) := by decide +kernel
theorem dX12_entry_12 : decode cX12_entry 12 = .ok (.bipush 26, 2) := by decide +kernel
theorem dX12_entry_14 : decode cX12_entry 14 = .ok (.iaload, 1) := by decide +kernel
theorem dX12_entry_15 : decode cX12_entry 15 = .ok (.iconst 1, 1) := by decide +kernel
theorem dX12_entry_16 : decode cX12_entry 16 = .ok (.isub, 1) := by decide +kernel
theorem dX12_entry_17 : decode cX12_entry 17 = .ok (.invokestatic 283, 3) := by decide +kernel
theorem dX12_entry_20 : decode cX12_entry 20 = .ok (.iconst 1, 1) := by decide +kernel
theorem dX12_entry_21 : decode cX12_entry 21 = .ok (.invokevirtual 334, 3) := by decide +kernel
theorem dX12_entry_24 : decode cX12_entry 24 = .ok (.ifCond .eq 15, 3) := by decide +kernel
theorem dX12_entry_27 : decode cX12_entry 27 = .ok (.aload_n 0, 1) := by decide +kernel
theorem dX12_entry_28 : decode cX12_entry 28 = .ok (.getfield 9, 3) := by decide +kernel
theorem dX12_entry_31 : decode cX12_entry 31 = .ok (.bipush 27, 2) := by decide +kernel
theorem dX12_entry_33 : decode cX12_entry 33 = .ok (.iload_n 1, 1) := by decide +kernel
theorem dX12_entry_34 : decode cX12_entry 34 = .ok (.iadd, 1) := by decide +kernel
theorem dX12_entry_35 : decode cX12_entry 35 = .ok (.iaload, 1) := by decide +kernel
theorem dX12_entry_36 : decode cX12_entry 36 = .ok (.goto 4, 3) := by decide +kernel
theorem dX12_entry_39 : decode cX12_entry 39 = .ok (.iconst 0, 1) := by decide +kernel
theorem dX12_entry_40 : decode cX12_entry 40 = .ok (.ireturn, 1) := by decide +kernel
theorem dX12_memo_0 : decode cX12_memo 0 = .ok (.aload_n 0, 1) := by decide +kernel
theorem dX12_memo_1 : decode cX12_memo 1 = .ok (.iconst 0, 1) := by decide +kernel
theorem dX12_memo_2 : decode cX12_memo 2 = .ok (.putfield 68, 3) := by decide +kernel
theorem dX12_memo_5 : decode cX12_memo 5 = .ok (.aload_n 0, 1) := by decide +kernel
theorem dX12_memo_6 : decode cX12_memo 6 = .ok (.iload_n 1, 1) := by decide +kernel
theorem dX12_memo_7 : decode cX12_memo 7 = .ok (.iconst 0, 1) := by decide +kernel
theorem dX12_memo_8 : decode cX12_memo 8 = .ok (.aload_n 0, 1) := by decide +kernel
theorem dX12_memo_9 : decode cX12_memo 9 = .ok (.getfield 9, 3) := by decide +kernel
theorem dX12_memo_12 : decode cX12_memo 12 = .ok (.bipush 40, 2) := by decide +kernel
theorem dX12_memo_14 : decode cX12_memo 14 = .ok (.iaload, 1) := by decide +kernel
theorem dX12_memo_15 : decode cX12_memo 15 = .ok (.iconst 1, 1) := by decide +kernel
theorem dX12_memo_16 : decode cX12_memo 16 = .ok (.isub, 1) := by decide +kernel
theorem dX12_memo_17 : decode cX12_memo 17 = .ok (.invokestatic 283, 3) := by decide +kernel
theorem dX12_memo_20 : decode cX12_memo 20 = .ok (.ifCond .eq 16, 3) := by decide +kernel
theorem dX12_memo_23 : decode cX12_memo 23 = .ok (.iload_n 2, 1) := by decide +kernel
theorem dX12_memo_24 : decode cX12_memo 24 = .ok (.iconst 0, 1) := by decide +kernel
theorem dX12_memo_25 : decode cX12_memo 25 = .ok (.iconst 1, 1) := by decide +kernel
theorem dX12_memo_26 : decode cX12_memo 26 = .ok (.invokestatic 283, 3) := by decide +kernel
theorem dX12_memo_29 : decode cX12_memo 29 = .ok (.ifCond .eq 7, 3) := by decide +kernel
theorem dX12_memo_32 : decode cX12_memo 32 = .ok (.iconst 1, 1) := by decide +kernel
theorem dX12_memo_33 : decode cX12_memo 33 = .ok (.goto 4, 3) := by decide +kernel
theorem dX12_memo_36 : decode cX12_memo 36 = .ok (.iconst 0, 1) := by decide +kernel
theorem dX12_memo_37 : decode cX12_memo 37 = .ok (.iconst 1, 1) := by decide +kernel
theorem dX12_memo_38 : decode cX12_memo 38 = .ok (.invokevirtual 334, 3) := by decide +kernel
theorem dX12_memo_41 : decode cX12_memo 41 = .ok (.ifCond .eq 19, 3) := by decide +kernel
theorem dX12_memo_44 : decode cX12_memo 44 = .ok (.aload_n 0, 1) := by decide +kernel
theorem dX12_memo_45 : decode cX12_memo 45 = .ok (.getfield 9, 3) := by decide +kernel
theorem dX12_memo_48 : decode cX12_memo 48 = .ok (.bipush 41, 2) := by decide +kernel
theorem dX12_memo_50 : decode cX12_memo 50 = .ok (.iconst 2, 1) := by decide +kernel
theorem dX12_memo_51 : decode cX12_memo 51 = .ok (.iload_n 1, 1) := by decide +kernel
theorem dX12_memo_52 : decode cX12_memo 52 = .ok (.imul, 1) := by decide +kernel
theorem dX12_memo_53 : decode cX12_memo 53 = .ok (.iadd, 1) := by decide +kernel
theorem dX12_memo_54 : decode cX12_memo 54 = .ok (.iload_n 2, 1) := by decide +kernel
theorem dX12_memo_55 : decode cX12_memo 55 = .ok (.iadd, 1) := by decide +kernel
theorem dX12_memo_56 : decode cX12_memo 56 = .ok (.iaload, 1) := by decide +kernel
theorem dX12_memo_57 : decode cX12_memo 57 = .ok (.goto 4, 3) := by decide +kernel
theorem dX12_memo_60 : decode cX12_memo 60 = .ok (.iconst 0, 1) := by decide +kernel
theorem dX12_memo_61 : decode cX12_memo 61 = .ok (.ireturn, 1) := by decide +kernel
theorem dX12_bound_0 : decode cX12_bound 0 = .ok (.aload_n 0, 1) := by decide +kernel
theorem dX12_bound_1 : decode cX12_bound 1 = .ok (.iconst 0, 1) := by decide +kernel
theorem dX12_bound_2 : decode cX12_bound 2 = .ok (.putfield 68, 3) := by decide +kernel
theorem dX12_bound_5 : decode cX12_bound 5 = .ok (.aload_n 0, 1) := by decide +kernel
theorem dX12_bound_6 : decode cX12_bound 6 = .ok (.iload_n 1, 1) := by decide +kernel
theorem dX12_bound_7 : decode cX12_bound 7 = .ok (.iconst 0, 1) := by decide +kernel
theorem dX12_bound_8 : decode cX12_bound 8 = .ok (.bipush 7, 2) := by decide +kernel
theorem dX12_bound_10 : decode cX12_bound 10 = .ok (.invokestatic 283, 3) := by decide +kernel
theorem dX12_bound_13 : decode cX12_bound 13 = .ok (.iconst 1, 1) := by decide +kernel
theorem dX12_bound_14 : decode cX12_bound 14 = .ok (.invokevirtual 334, 3) := by decide +kernel
theorem dX12_bound_17 : decode cX12_bound 17 = .ok (.ifCond .eq 16, 3) := by decide +kernel
theorem dX12_bound_20 : decode cX12_bound 20 = .ok (.aload_n 0, 1) := by decide +kernel
theorem dX12_bound_21 : decode cX12_bound 21 = .ok (.getfield 9, 3) := by decide +kernel
theorem dX12_bound_24 : decode cX12_bound 24 = .ok (.iconst 1, 1) := by decide +kernel
theorem dX12_bound_25 : decode cX12_bound 25 = .ok (.iload_n 1, 1) := by decide +kernel
theorem dX12_bound_26 : decode cX12_bound 26 = .ok (.iadd, 1) := by decide +kernel
theorem dX12_bound_27 : decode cX12_bound 27 = .ok (.iaload, 1) := by decide +kernel
theorem dX12_bound_28 : decode cX12_bound 28 = .ok (.iconst 1, 1) := by decide +kernel
theorem dX12_bound_29 : decode cX12_bound 29 = .ok (.isub, 1) := by decide +kernel
theorem dX12_bound_30 : decode cX12_bound 30 = .ok (.goto 4, 3) := by decide +kernel
theorem dX12_bound_33 : decode cX12_bound 33 = .ok (.iconst 0, 1) := by decide +kernel
theorem dX12_bound_34 : decode cX12_bound 34 = .ok (.ireturn, 1) := by decide +kernel
theorem dX12_keptAt_0 : decode cX12_keptAt 0 = .ok (.sipush 189, 3) := by decide +kernel
theorem dX12_keptAt_3 : decode cX12_keptAt 3 = .ok (.bipush 63, 2) := by decide +kernel
theorem dX12_keptAt_5 : decode cX12_keptAt 5 = .ok (.iload_n 0, 1) := by decide +kernel
theorem dX12_keptAt_6 : decode cX12_keptAt 6 = .ok (.iload_n 1, 1) := by decide +kernel
theorem dX12_keptAt_7 : decode cX12_keptAt 7 = .ok (.iadd, 1) := by decide +kernel
theorem dX12_keptAt_8 : decode cX12_keptAt 8 = .ok (.bipush 40, 2) := by decide +kernel
theorem dX12_keptAt_10 : decode cX12_keptAt 10 = .ok (.irem, 1) := by decide +kernel
theorem dX12_keptAt_11 : decode cX12_keptAt 11 = .ok (.imul, 1) := by decide +kernel
theorem dX12_keptAt_12 : decode cX12_keptAt 12 = .ok (.iadd, 1) := by decide +kernel
theorem dX12_keptAt_13 : decode cX12_keptAt 13 = .ok (.ireturn, 1) := by decide +kernel
theorem dX12_refuses_0 : decode cX12_refuses 0 = .ok (.aload_n 0, 1) := by decide +kernel
theorem dX12_refuses_1 : decode cX12_refuses 1 = .ok (.getfield 31, 3) := by decide +kernel
theorem dX12_refuses_4 : decode cX12_refuses 4 = .ok (.iload_n 1, 1) := by decide +kernel
theorem dX12_refuses_5 : decode cX12_refuses 5 = .ok (.dup2, 1) := by decide +kernel
theorem dX12_refuses_6 : decode cX12_refuses 6 = .ok (.iaload, 1) := by decide +kernel
theorem dX12_refuses_7 : decode cX12_refuses 7 = .ok (.iconst 1, 1) := by decide +kernel
theorem dX12_refuses_8 : decode cX12_refuses 8 = .ok (.iadd, 1) := by decide +kernel
theorem dX12_refuses_9 : decode cX12_refuses 9 = .ok (.iastore, 1) := by decide +kernel
theorem dX12_refuses_10 : decode cX12_refuses 10 = .ok (.iload_n 2, 1) := by decide +kernel
theorem dX12_refuses_11 : decode cX12_refuses 11 = .ok (.ireturn, 1) := by decide +kernel
theorem dX12_begins_0 : decode cX12_begins 0 = .ok (.aload_n 0, 1) := by decide +kernel
theorem dX12_begins_1 : decode cX12_begins 1 = .ok (.iconst 0, 1) := by decide +kernel
theorem dX12_begins_2 : decode cX12_begins 2 = .ok (.bipush 63, 2) := by decide +kernel
theorem dX12_begins_4 : decode cX12_begins 4 = .ok (.bipush 63, 2) := by decide +kernel
theorem dX12_begins_6 : decode cX12_begins 6 = .ok (.invokevirtual 343, 3) := by decide +kernel
theorem dX12_begins_9 : decode cX12_begins 9 = .ok (.aload_n 0, 1) := by decide +kernel
theorem dX12_begins_10 : decode cX12_begins 10 = .ok (.iconst 0, 1) := by decide +kernel
theorem dX12_begins_11 : decode cX12_begins 11 = .ok (.putfield 92, 3) := by decide +kernel
theorem dX12_begins_14 : decode cX12_begins 14 = .ok (.aload_n 0, 1) := by decide +kernel
theorem dX12_begins_15 : decode cX12_begins 15 = .ok (.iconst 0, 1) := by decide +kernel
theorem dX12_begins_16 : decode cX12_begins 16 = .ok (.putfield 195, 3) := by decide +kernel
theorem dX12_begins_19 : decode cX12_begins 19 = .ok (.aload_n 0, 1) := by decide +kernel
theorem dX12_begins_20 : decode cX12_begins 20 = .ok (.iconst 0, 1) := by decide +kernel
theorem dX12_begins_21 : decode cX12_begins 21 = .ok (.putfield 208, 3) := by decide +kernel
theorem dX12_begins_24 : decode cX12_begins 24 = .ok (.return_, 1) := by decide +kernel
theorem dX12_fails_0 : decode cX12_fails 0 = .ok (.aload_n 0, 1) := by decide +kernel
theorem dX12_fails_1 : decode cX12_fails 1 = .ok (.bipush 63, 2) := by decide +kernel
theorem dX12_fails_3 : decode cX12_fails 3 = .ok (.iconst 0, 1) := by decide +kernel
theorem dX12_fails_4 : decode cX12_fails 4 = .ok (.bipush 63, 2) := by decide +kernel
theorem dX12_fails_6 : decode cX12_fails 6 = .ok (.invokevirtual 343, 3) := by decide +kernel
theorem dX12_fails_9 : decode cX12_fails 9 = .ok (.aload_n 0, 1) := by decide +kernel
theorem dX12_fails_10 : decode cX12_fails 10 = .ok (.iload_n 1, 1) := by decide +kernel
theorem dX12_fails_11 : decode cX12_fails 11 = .ok (.iload_n 2, 1) := by decide +kernel
theorem dX12_fails_12 : decode cX12_fails 12 = .ok (.invokevirtual 391, 3) := by decide +kernel
theorem dX12_fails_15 : decode cX12_fails 15 = .ok (.ireturn, 1) := by decide +kernel
theorem dX12_keeps_0 : decode cX12_keeps 0 = .ok (.aload_n 0, 1) := by decide +kernel
theorem dX12_keeps_1 : decode cX12_keeps 1 = .ok (.getfield 92, 3) := by decide +kernel
theorem dX12_keeps_4 : decode cX12_keeps 4 = .ok (.ifCond .eq 11, 3) := by decide +kernel
theorem dX12_keeps_7 : decode cX12_keeps 7 = .ok (.aload_n 0, 1) := by decide +kernel
theorem dX12_keeps_8 : decode cX12_keeps 8 = .ok (.iconst 2, 1) := by decide +kernel
theorem dX12_keeps_9 : decode cX12_keeps 9 = .ok (.bipush (-3), 2) := by decide +kernel
theorem dX12_keeps_11 : decode cX12_keeps 11 = .ok (.invokevirtual 394, 3) := by decide +kernel
theorem dX12_keeps_14 : decode cX12_keeps 14 = .ok (.ireturn, 1) := by decide +kernel
theorem dX12_keeps_15 : decode cX12_keeps 15 = .ok (.aload_n 0, 1) := by decide +kernel
theorem dX12_keeps_16 : decode cX12_keeps 16 = .ok (.getfield 356, 3) := by decide +kernel
theorem dX12_keeps_19 : decode cX12_keeps 19 = .ok (.bipush 40, 2) := by decide +kernel
theorem dX12_keeps_21 : decode cX12_keeps 21 = .ok (.if_icmp .ne 26, 3) := by decide +kernel
theorem dX12_keeps_24 : decode cX12_keeps 24 = .ok (.aload_n 0, 1) := by decide +kernel
theorem dX12_keeps_25 : decode cX12_keeps 25 = .ok (.aload_n 0, 1) := by decide +kernel
theorem dX12_keeps_26 : decode cX12_keeps 26 = .ok (.getfield 353, 3) := by decide +kernel
theorem dX12_keeps_29 : decode cX12_keeps 29 = .ok (.iconst 1, 1) := by decide +kernel
theorem dX12_keeps_30 : decode cX12_keeps 30 = .ok (.iadd, 1) := by decide +kernel
theorem dX12_keeps_31 : decode cX12_keeps 31 = .ok (.bipush 40, 2) := by decide +kernel
theorem dX12_keeps_33 : decode cX12_keeps 33 = .ok (.irem, 1) := by decide +kernel
theorem dX12_keeps_34 : decode cX12_keeps 34 = .ok (.putfield 353, 3) := by decide +kernel
theorem dX12_keeps_37 : decode cX12_keeps 37 = .ok (.aload_n 0, 1) := by decide +kernel
theorem dX12_keeps_38 : decode cX12_keeps 38 = .ok (.dup, 1) := by decide +kernel
theorem dX12_keeps_39 : decode cX12_keeps 39 = .ok (.getfield 356, 3) := by decide +kernel
theorem dX12_keeps_42 : decode cX12_keeps 42 = .ok (.iconst 1, 1) := by decide +kernel
theorem dX12_keeps_43 : decode cX12_keeps 43 = .ok (.isub, 1) := by decide +kernel
theorem dX12_keeps_44 : decode cX12_keeps 44 = .ok (.putfield 356, 3) := by decide +kernel
theorem dX12_keeps_47 : decode cX12_keeps 47 = .ok (.aload_n 0, 1) := by decide +kernel
theorem dX12_keeps_48 : decode cX12_keeps 48 = .ok (.bipush 63, 2) := by decide +kernel
theorem dX12_keeps_50 : decode cX12_keeps 50 = .ok (.aload_n 0, 1) := by decide +kernel
theorem dX12_keeps_51 : decode cX12_keeps 51 = .ok (.getfield 353, 3) := by decide +kernel
theorem dX12_keeps_54 : decode cX12_keeps 54 = .ok (.aload_n 0, 1) := by decide +kernel
theorem dX12_keeps_55 : decode cX12_keeps 55 = .ok (.getfield 356, 3) := by decide +kernel
theorem dX12_keeps_58 : decode cX12_keeps 58 = .ok (.invokestatic 397, 3) := by decide +kernel
theorem dX12_keeps_61 : decode cX12_keeps 61 = .ok (.bipush 63, 2) := by decide +kernel
theorem dX12_keeps_63 : decode cX12_keeps 63 = .ok (.invokevirtual 343, 3) := by decide +kernel
theorem dX12_keeps_66 : decode cX12_keeps 66 = .ok (.aload_n 0, 1) := by decide +kernel
theorem dX12_keeps_67 : decode cX12_keeps 67 = .ok (.dup, 1) := by decide +kernel
theorem dX12_keeps_68 : decode cX12_keeps 68 = .ok (.getfield 356, 3) := by decide +kernel
theorem dX12_keeps_71 : decode cX12_keeps 71 = .ok (.iconst 1, 1) := by decide +kernel
theorem dX12_keeps_72 : decode cX12_keeps 72 = .ok (.iadd, 1) := by decide +kernel
theorem dX12_keeps_73 : decode cX12_keeps 73 = .ok (.putfield 356, 3) := by decide +kernel
theorem dX12_keeps_76 : decode cX12_keeps 76 = .ok (.iload_n 1, 1) := by decide +kernel
theorem dX12_keeps_77 : decode cX12_keeps 77 = .ok (.ireturn, 1) := by decide +kernel
theorem dX12_variable_0 : decode cX12_variable 0 = .ok (.aload_n 0, 1) := by decide +kernel
theorem dX12_variable_1 : decode cX12_variable 1 = .ok (.iconst 0, 1) := by decide +kernel
theorem dX12_variable_2 : decode cX12_variable 2 = .ok (.putfield 68, 3) := by decide +kernel
theorem dX12_variable_5 : decode cX12_variable 5 = .ok (.iload_n 1, 1) := by decide +kernel
theorem dX12_variable_6 : decode cX12_variable 6 = .ok (.iconst 0, 1) := by decide +kernel
theorem dX12_variable_7 : decode cX12_variable 7 = .ok (.bipush 7, 2) := by decide +kernel
theorem dX12_variable_9 : decode cX12_variable 9 = .ok (.invokestatic 283, 3) := by decide +kernel
theorem dX12_variable_12 : decode cX12_variable 12 = .ok (.ifCond .ne 10, 3) := by decide +kernel
theorem dX12_variable_15 : decode cX12_variable 15 = .ok (.aload_n 0, 1) := by decide +kernel
theorem dX12_variable_16 : decode cX12_variable 16 = .ok (.iconst 1, 1) := by decide +kernel
theorem dX12_variable_17 : decode cX12_variable 17 = .ok (.iconst (-1), 1) := by decide +kernel
theorem dX12_variable_18 : decode cX12_variable 18 = .ok (.invokevirtual 391, 3) := by decide +kernel
theorem dX12_variable_21 : decode cX12_variable 21 = .ok (.ireturn, 1) := by decide +kernel
theorem dX12_variable_22 : decode cX12_variable 22 = .ok (.aload_n 0, 1) := by decide +kernel
theorem dX12_variable_23 : decode cX12_variable 23 = .ok (.invokevirtual 400, 3) := by decide +kernel
theorem dX12_variable_26 : decode cX12_variable 26 = .ok (.aload_n 0, 1) := by decide +kernel
theorem dX12_variable_27 : decode cX12_variable 27 = .ok (.aload_n 0, 1) := by decide +kernel
theorem dX12_variable_28 : decode cX12_variable 28 = .ok (.iload_n 1, 1) := by decide +kernel
theorem dX12_variable_29 : decode cX12_variable 29 = .ok (.invokevirtual 180, 3) := by decide +kernel
theorem dX12_variable_32 : decode cX12_variable 32 = .ok (.invokevirtual 403, 3) := by decide +kernel
theorem dX12_variable_35 : decode cX12_variable 35 = .ok (.ireturn, 1) := by decide +kernel
theorem dX12_make_0 : decode cX12_make 0 = .ok (.aload_n 0, 1) := by decide +kernel
theorem dX12_make_1 : decode cX12_make 1 = .ok (.iconst 0, 1) := by decide +kernel
theorem dX12_make_2 : decode cX12_make 2 = .ok (.putfield 68, 3) := by decide +kernel
theorem dX12_make_5 : decode cX12_make 5 = .ok (.aload_n 0, 1) := by decide +kernel
theorem dX12_make_6 : decode cX12_make 6 = .ok (.iload_n 1, 1) := by decide +kernel
theorem dX12_make_7 : decode cX12_make 7 = .ok (.invokevirtual 369, 3) := by decide +kernel
theorem dX12_make_10 : decode cX12_make 10 = .ok (.ifCond .eq 12, 3) := by decide +kernel
theorem dX12_make_13 : decode cX12_make 13 = .ok (.aload_n 0, 1) := by decide +kernel
theorem dX12_make_14 : decode cX12_make 14 = .ok (.getfield 25, 3) := by decide +kernel
theorem dX12_make_17 : decode cX12_make 17 = .ok (.iload_n 1, 1) := by decide +kernel
theorem dX12_make_18 : decode cX12_make 18 = .ok (.iaload, 1) := by decide +kernel
theorem dX12_make_19 : decode cX12_make 19 = .ok (.goto 4, 3) := by decide +kernel
theorem dX12_make_22 : decode cX12_make 22 = .ok (.iconst 0, 1) := by decide +kernel
theorem dX12_make_23 : decode cX12_make 23 = .ok (.istore 5, 2) := by decide +kernel
theorem dX12_make_25 : decode cX12_make 25 = .ok (.aload_n 0, 1) := by decide +kernel
theorem dX12_make_26 : decode cX12_make 26 = .ok (.iload_n 1, 1) := by decide +kernel
theorem dX12_make_27 : decode cX12_make 27 = .ok (.invokevirtual 369, 3) := by decide +kernel
theorem dX12_make_30 : decode cX12_make 30 = .ok (.ifCond .eq 45, 3) := by decide +kernel
theorem dX12_make_33 : decode cX12_make 33 = .ok (.iload 5, 2) := by decide +kernel
theorem dX12_make_35 : decode cX12_make 35 = .ok (.ifCond .le 11, 3) := by decide +kernel
theorem dX12_make_38 : decode cX12_make 38 = .ok (.aload_n 0, 1) := by decide +kernel
theorem dX12_make_39 : decode cX12_make 39 = .ok (.iload_n 2, 1) := by decide +kernel
theorem dX12_make_40 : decode cX12_make 40 = .ok (.invokevirtual 376, 3) := by decide +kernel
theorem dX12_make_43 : decode cX12_make 43 = .ok (.ifCond .eq 32, 3) := by decide +kernel
theorem dX12_make_46 : decode cX12_make 46 = .ok (.iload 5, 2) := by decide +kernel
theorem dX12_make_48 : decode cX12_make 48 = .ok (.iconst 1, 1) := by decide +kernel
theorem dX12_make_49 : decode cX12_make 49 = .ok (.if_icmp .le 11, 3) := by decide +kernel
theorem dX12_make_52 : decode cX12_make 52 = .ok (.aload_n 0, 1) := by decide +kernel
theorem dX12_make_53 : decode cX12_make 53 = .ok (.iload_n 3, 1) := by decide +kernel
theorem dX12_make_54 : decode cX12_make 54 = .ok (.invokevirtual 376, 3) := by decide +kernel
theorem dX12_make_57 : decode cX12_make 57 = .ok (.ifCond .eq 18, 3) := by decide +kernel
theorem dX12_make_60 : decode cX12_make 60 = .ok (.iload 5, 2) := by decide +kernel
theorem dX12_make_62 : decode cX12_make 62 = .ok (.iconst 2, 1) := by decide +kernel
theorem dX12_make_63 : decode cX12_make 63 = .ok (.if_icmp .le 19, 3) := by decide +kernel
theorem dX12_make_66 : decode cX12_make 66 = .ok (.aload_n 0, 1) := by decide +kernel
theorem dX12_make_67 : decode cX12_make 67 = .ok (.iload 4, 2) := by decide +kernel
theorem dX12_make_69 : decode cX12_make 69 = .ok (.invokevirtual 376, 3) := by decide +kernel
theorem dX12_make_72 : decode cX12_make 72 = .ok (.ifCond .ne 10, 3) := by decide +kernel
theorem dX12_make_75 : decode cX12_make 75 = .ok (.aload_n 0, 1) := by decide +kernel
theorem dX12_make_76 : decode cX12_make 76 = .ok (.iconst 1, 1) := by decide +kernel
theorem dX12_make_77 : decode cX12_make 77 = .ok (.iconst (-1), 1) := by decide +kernel
theorem dX12_make_78 : decode cX12_make 78 = .ok (.invokevirtual 391, 3) := by decide +kernel
theorem dX12_make_81 : decode cX12_make 81 = .ok (.ireturn, 1) := by decide +kernel
theorem dX12_make_82 : decode cX12_make 82 = .ok (.aload_n 0, 1) := by decide +kernel
theorem dX12_make_83 : decode cX12_make 83 = .ok (.invokevirtual 400, 3) := by decide +kernel
theorem dX12_make_86 : decode cX12_make 86 = .ok (.aload_n 0, 1) := by decide +kernel
theorem dX12_make_87 : decode cX12_make 87 = .ok (.aload_n 0, 1) := by decide +kernel
theorem dX12_make_88 : decode cX12_make 88 = .ok (.iload_n 1, 1) := by decide +kernel
theorem dX12_make_89 : decode cX12_make 89 = .ok (.iload_n 2, 1) := by decide +kernel
theorem dX12_make_90 : decode cX12_make 90 = .ok (.iload_n 3, 1) := by decide +kernel
theorem dX12_make_91 : decode cX12_make 91 = .ok (.iload 4, 2) := by decide +kernel
theorem dX12_make_93 : decode cX12_make 93 = .ok (.invokevirtual 107, 3) := by decide +kernel
theorem dX12_make_96 : decode cX12_make 96 = .ok (.invokevirtual 403, 3) := by decide +kernel
theorem dX12_make_99 : decode cX12_make 99 = .ok (.ireturn, 1) := by decide +kernel
theorem dX12_bind_0 : decode cX12_bind 0 = .ok (.aload_n 0, 1) := by decide +kernel
theorem dX12_bind_1 : decode cX12_bind 1 = .ok (.iconst 0, 1) := by decide +kernel
theorem dX12_bind_2 : decode cX12_bind 2 = .ok (.putfield 68, 3) := by decide +kernel
theorem dX12_bind_5 : decode cX12_bind 5 = .ok (.iload_n 1, 1) := by decide +kernel
theorem dX12_bind_6 : decode cX12_bind 6 = .ok (.iconst 0, 1) := by decide +kernel
theorem dX12_bind_7 : decode cX12_bind 7 = .ok (.bipush 7, 2) := by decide +kernel
theorem dX12_bind_9 : decode cX12_bind 9 = .ok (.invokestatic 283, 3) := by decide +kernel
theorem dX12_bind_12 : decode cX12_bind 12 = .ok (.ifCond .eq 30, 3) := by decide +kernel
theorem dX12_bind_15 : decode cX12_bind 15 = .ok (.iload_n 2, 1) := by decide +kernel
theorem dX12_bind_16 : decode cX12_bind 16 = .ok (.iconst (-1), 1) := by decide +kernel
theorem dX12_bind_17 : decode cX12_bind 17 = .ok (.if_icmp .eq 11, 3) := by decide +kernel
theorem dX12_bind_20 : decode cX12_bind 20 = .ok (.aload_n 0, 1) := by decide +kernel
theorem dX12_bind_21 : decode cX12_bind 21 = .ok (.iload_n 2, 1) := by decide +kernel
theorem dX12_bind_22 : decode cX12_bind 22 = .ok (.invokevirtual 376, 3) := by decide +kernel
theorem dX12_bind_25 : decode cX12_bind 25 = .ok (.ifCond .eq 17, 3) := by decide +kernel
theorem dX12_bind_28 : decode cX12_bind 28 = .ok (.aload_n 0, 1) := by decide +kernel
theorem dX12_bind_29 : decode cX12_bind 29 = .ok (.getfield 9, 3) := by decide +kernel
theorem dX12_bind_32 : decode cX12_bind 32 = .ok (.iconst 1, 1) := by decide +kernel
theorem dX12_bind_33 : decode cX12_bind 33 = .ok (.iload_n 1, 1) := by decide +kernel
theorem dX12_bind_34 : decode cX12_bind 34 = .ok (.iadd, 1) := by decide +kernel
theorem dX12_bind_35 : decode cX12_bind 35 = .ok (.iaload, 1) := by decide +kernel
theorem dX12_bind_36 : decode cX12_bind 36 = .ok (.iload_n 2, 1) := by decide +kernel
theorem dX12_bind_37 : decode cX12_bind 37 = .ok (.iconst 1, 1) := by decide +kernel
theorem dX12_bind_38 : decode cX12_bind 38 = .ok (.iadd, 1) := by decide +kernel
theorem dX12_bind_39 : decode cX12_bind 39 = .ok (.if_icmp .ne 11, 3) := by decide +kernel
theorem dX12_bind_42 : decode cX12_bind 42 = .ok (.aload_n 0, 1) := by decide +kernel
theorem dX12_bind_43 : decode cX12_bind 43 = .ok (.iconst 1, 1) := by decide +kernel
theorem dX12_bind_44 : decode cX12_bind 44 = .ok (.bipush (-2), 2) := by decide +kernel
theorem dX12_bind_46 : decode cX12_bind 46 = .ok (.invokevirtual 391, 3) := by decide +kernel
theorem dX12_bind_49 : decode cX12_bind 49 = .ok (.ireturn, 1) := by decide +kernel
theorem dX12_bind_50 : decode cX12_bind 50 = .ok (.aload_n 0, 1) := by decide +kernel
theorem dX12_bind_51 : decode cX12_bind 51 = .ok (.invokevirtual 400, 3) := by decide +kernel
theorem dX12_bind_54 : decode cX12_bind 54 = .ok (.aload_n 0, 1) := by decide +kernel
theorem dX12_bind_55 : decode cX12_bind 55 = .ok (.getfield 9, 3) := by decide +kernel
theorem dX12_bind_58 : decode cX12_bind 58 = .ok (.iconst 1, 1) := by decide +kernel
theorem dX12_bind_59 : decode cX12_bind 59 = .ok (.iload_n 1, 1) := by decide +kernel
theorem dX12_bind_60 : decode cX12_bind 60 = .ok (.iadd, 1) := by decide +kernel
theorem dX12_bind_61 : decode cX12_bind 61 = .ok (.iaload, 1) := by decide +kernel
theorem dX12_bind_62 : decode cX12_bind 62 = .ok (.iconst 1, 1) := by decide +kernel
theorem dX12_bind_63 : decode cX12_bind 63 = .ok (.isub, 1) := by decide +kernel
theorem dX12_bind_64 : decode cX12_bind 64 = .ok (.istore_n 3, 1) := by decide +kernel
theorem dX12_bind_65 : decode cX12_bind 65 = .ok (.aload_n 0, 1) := by decide +kernel
theorem dX12_bind_66 : decode cX12_bind 66 = .ok (.getfield 9, 3) := by decide +kernel
theorem dX12_bind_69 : decode cX12_bind 69 = .ok (.iconst 1, 1) := by decide +kernel
theorem dX12_bind_70 : decode cX12_bind 70 = .ok (.iload_n 1, 1) := by decide +kernel
theorem dX12_bind_71 : decode cX12_bind 71 = .ok (.iadd, 1) := by decide +kernel
theorem dX12_bind_72 : decode cX12_bind 72 = .ok (.iload_n 2, 1) := by decide +kernel
theorem dX12_bind_73 : decode cX12_bind 73 = .ok (.iconst 1, 1) := by decide +kernel
theorem dX12_bind_74 : decode cX12_bind 74 = .ok (.iadd, 1) := by decide +kernel
theorem dX12_bind_75 : decode cX12_bind 75 = .ok (.iastore, 1) := by decide +kernel
theorem dX12_bind_76 : decode cX12_bind 76 = .ok (.aload_n 0, 1) := by decide +kernel
theorem dX12_bind_77 : decode cX12_bind 77 = .ok (.iload_n 3, 1) := by decide +kernel
theorem dX12_bind_78 : decode cX12_bind 78 = .ok (.invokevirtual 403, 3) := by decide +kernel
theorem dX12_bind_81 : decode cX12_bind 81 = .ok (.ireturn, 1) := by decide +kernel
theorem dX12_apply_0 : decode cX12_apply 0 = .ok (.aload_n 0, 1) := by decide +kernel
theorem dX12_apply_1 : decode cX12_apply 1 = .ok (.iconst 0, 1) := by decide +kernel
theorem dX12_apply_2 : decode cX12_apply 2 = .ok (.putfield 68, 3) := by decide +kernel
theorem dX12_apply_5 : decode cX12_apply 5 = .ok (.aload_n 0, 1) := by decide +kernel
theorem dX12_apply_6 : decode cX12_apply 6 = .ok (.iload_n 1, 1) := by decide +kernel
theorem dX12_apply_7 : decode cX12_apply 7 = .ok (.invokevirtual 376, 3) := by decide +kernel
theorem dX12_apply_10 : decode cX12_apply 10 = .ok (.ifCond .ne 10, 3) := by decide +kernel
theorem dX12_apply_13 : decode cX12_apply 13 = .ok (.aload_n 0, 1) := by decide +kernel
theorem dX12_apply_14 : decode cX12_apply 14 = .ok (.iconst 1, 1) := by decide +kernel
theorem dX12_apply_15 : decode cX12_apply 15 = .ok (.iconst (-1), 1) := by decide +kernel
theorem dX12_apply_16 : decode cX12_apply 16 = .ok (.invokevirtual 391, 3) := by decide +kernel
theorem dX12_apply_19 : decode cX12_apply 19 = .ok (.ireturn, 1) := by decide +kernel
theorem dX12_apply_20 : decode cX12_apply 20 = .ok (.aload_n 0, 1) := by decide +kernel
theorem dX12_apply_21 : decode cX12_apply 21 = .ok (.invokevirtual 400, 3) := by decide +kernel
theorem dX12_apply_24 : decode cX12_apply 24 = .ok (.aload_n 0, 1) := by decide +kernel
theorem dX12_apply_25 : decode cX12_apply 25 = .ok (.invokevirtual 406, 3) := by decide +kernel
theorem dX12_apply_28 : decode cX12_apply 28 = .ok (.aload_n 0, 1) := by decide +kernel
theorem dX12_apply_29 : decode cX12_apply 29 = .ok (.aload_n 0, 1) := by decide +kernel
theorem dX12_apply_30 : decode cX12_apply 30 = .ok (.iload_n 1, 1) := by decide +kernel
theorem dX12_apply_31 : decode cX12_apply 31 = .ok (.aload_n 0, 1) := by decide +kernel
theorem dX12_apply_32 : decode cX12_apply 32 = .ok (.getfield 44, 3) := by decide +kernel
theorem dX12_apply_35 : decode cX12_apply 35 = .ok (.invokevirtual 148, 3) := by decide +kernel
theorem dX12_apply_38 : decode cX12_apply 38 = .ok (.invokevirtual 403, 3) := by decide +kernel
theorem dX12_apply_41 : decode cX12_apply 41 = .ok (.ireturn, 1) := by decide +kernel
theorem dX12_close_0 : decode cX12_close 0 = .ok (.aload_n 0, 1) := by decide +kernel
theorem dX12_close_1 : decode cX12_close 1 = .ok (.iconst 0, 1) := by decide +kernel
theorem dX12_close_2 : decode cX12_close 2 = .ok (.putfield 68, 3) := by decide +kernel
theorem dX12_close_5 : decode cX12_close 5 = .ok (.aload_n 0, 1) := by decide +kernel
theorem dX12_close_6 : decode cX12_close 6 = .ok (.iload_n 1, 1) := by decide +kernel
theorem dX12_close_7 : decode cX12_close 7 = .ok (.invokevirtual 376, 3) := by decide +kernel
theorem dX12_close_10 : decode cX12_close 10 = .ok (.ifCond .ne 10, 3) := by decide +kernel
theorem dX12_close_13 : decode cX12_close 13 = .ok (.aload_n 0, 1) := by decide +kernel
theorem dX12_close_14 : decode cX12_close 14 = .ok (.iconst 1, 1) := by decide +kernel
theorem dX12_close_15 : decode cX12_close 15 = .ok (.iconst (-1), 1) := by decide +kernel
theorem dX12_close_16 : decode cX12_close 16 = .ok (.invokevirtual 391, 3) := by decide +kernel
theorem dX12_close_19 : decode cX12_close 19 = .ok (.ireturn, 1) := by decide +kernel
theorem dX12_close_20 : decode cX12_close 20 = .ok (.aload_n 0, 1) := by decide +kernel
theorem dX12_close_21 : decode cX12_close 21 = .ok (.invokevirtual 406, 3) := by decide +kernel
theorem dX12_close_24 : decode cX12_close 24 = .ok (.aload_n 0, 1) := by decide +kernel
theorem dX12_close_25 : decode cX12_close 25 = .ok (.iload_n 1, 1) := by decide +kernel
theorem dX12_close_26 : decode cX12_close 26 = .ok (.invokevirtual 409, 3) := by decide +kernel
theorem dX12_close_29 : decode cX12_close 29 = .ok (.ifCond .eq 11, 3) := by decide +kernel
theorem dX12_close_32 : decode cX12_close 32 = .ok (.aload_n 0, 1) := by decide +kernel
theorem dX12_close_33 : decode cX12_close 33 = .ok (.iconst 3, 1) := by decide +kernel
theorem dX12_close_34 : decode cX12_close 34 = .ok (.bipush (-2), 2) := by decide +kernel
theorem dX12_close_36 : decode cX12_close 36 = .ok (.invokevirtual 391, 3) := by decide +kernel
theorem dX12_close_39 : decode cX12_close 39 = .ok (.ireturn, 1) := by decide +kernel
theorem dX12_close_40 : decode cX12_close 40 = .ok (.aload_n 0, 1) := by decide +kernel
theorem dX12_close_41 : decode cX12_close 41 = .ok (.invokevirtual 400, 3) := by decide +kernel
theorem dX12_close_44 : decode cX12_close 44 = .ok (.aload_n 0, 1) := by decide +kernel
theorem dX12_close_45 : decode cX12_close 45 = .ok (.aload_n 0, 1) := by decide +kernel
theorem dX12_close_46 : decode cX12_close 46 = .ok (.iload_n 1, 1) := by decide +kernel
theorem dX12_close_47 : decode cX12_close 47 = .ok (.iconst 1, 1) := by decide +kernel
theorem dX12_close_48 : decode cX12_close 48 = .ok (.invokevirtual 158, 3) := by decide +kernel
theorem dX12_close_51 : decode cX12_close 51 = .ok (.invokevirtual 403, 3) := by decide +kernel
theorem dX12_close_54 : decode cX12_close 54 = .ok (.ireturn, 1) := by decide +kernel
theorem dX12_unify_0 : decode cX12_unify 0 = .ok (.aload_n 0, 1) := by decide +kernel
theorem dX12_unify_1 : decode cX12_unify 1 = .ok (.iconst 0, 1) := by decide +kernel
theorem dX12_unify_2 : decode cX12_unify 2 = .ok (.putfield 68, 3) := by decide +kernel
theorem dX12_unify_5 : decode cX12_unify 5 = .ok (.aload_n 0, 1) := by decide +kernel
theorem dX12_unify_6 : decode cX12_unify 6 = .ok (.iload_n 1, 1) := by decide +kernel
theorem dX12_unify_7 : decode cX12_unify 7 = .ok (.invokevirtual 376, 3) := by decide +kernel
theorem dX12_unify_10 : decode cX12_unify 10 = .ok (.ifCond .eq 11, 3) := by decide +kernel
theorem dX12_unify_13 : decode cX12_unify 13 = .ok (.aload_n 0, 1) := by decide +kernel
theorem dX12_unify_14 : decode cX12_unify 14 = .ok (.iload_n 2, 1) := by decide +kernel
theorem dX12_unify_15 : decode cX12_unify 15 = .ok (.invokevirtual 376, 3) := by decide +kernel
theorem dX12_unify_18 : decode cX12_unify 18 = .ok (.ifCond .ne 10, 3) := by decide +kernel
theorem dX12_unify_21 : decode cX12_unify 21 = .ok (.aload_n 0, 1) := by decide +kernel
theorem dX12_unify_22 : decode cX12_unify 22 = .ok (.iconst 1, 1) := by decide +kernel
theorem dX12_unify_23 : decode cX12_unify 23 = .ok (.iconst (-1), 1) := by decide +kernel
theorem dX12_unify_24 : decode cX12_unify 24 = .ok (.invokevirtual 391, 3) := by decide +kernel
theorem dX12_unify_27 : decode cX12_unify 27 = .ok (.ireturn, 1) := by decide +kernel
theorem dX12_unify_28 : decode cX12_unify 28 = .ok (.aload_n 0, 1) := by decide +kernel
theorem dX12_unify_29 : decode cX12_unify 29 = .ok (.iload_n 1, 1) := by decide +kernel
theorem dX12_unify_30 : decode cX12_unify 30 = .ok (.iload_n 2, 1) := by decide +kernel
theorem dX12_unify_31 : decode cX12_unify 31 = .ok (.invokevirtual 189, 3) := by decide +kernel
theorem dX12_unify_34 : decode cX12_unify 34 = .ok (.istore_n 3, 1) := by decide +kernel
theorem dX12_unify_35 : decode cX12_unify 35 = .ok (.iload_n 3, 1) := by decide +kernel
theorem dX12_unify_36 : decode cX12_unify 36 = .ok (.iconst 1, 1) := by decide +kernel
theorem dX12_unify_37 : decode cX12_unify 37 = .ok (.if_icmp .eq 10, 3) := by decide +kernel
theorem dX12_unify_40 : decode cX12_unify 40 = .ok (.aload_n 0, 1) := by decide +kernel
theorem dX12_unify_41 : decode cX12_unify 41 = .ok (.iconst 3, 1) := by decide +kernel
theorem dX12_unify_42 : decode cX12_unify 42 = .ok (.iload_n 3, 1) := by decide +kernel
theorem dX12_unify_43 : decode cX12_unify 43 = .ok (.invokevirtual 391, 3) := by decide +kernel
theorem dX12_unify_46 : decode cX12_unify 46 = .ok (.ireturn, 1) := by decide +kernel
theorem dX12_unify_47 : decode cX12_unify 47 = .ok (.aload_n 0, 1) := by decide +kernel
theorem dX12_unify_48 : decode cX12_unify 48 = .ok (.invokevirtual 400, 3) := by decide +kernel
theorem dX12_unify_51 : decode cX12_unify 51 = .ok (.aload_n 0, 1) := by decide +kernel
theorem dX12_unify_52 : decode cX12_unify 52 = .ok (.aload_n 0, 1) := by decide +kernel
theorem dX12_unify_53 : decode cX12_unify 53 = .ok (.iload_n 1, 1) := by decide +kernel
theorem dX12_unify_54 : decode cX12_unify 54 = .ok (.invokevirtual 126, 3) := by decide +kernel
theorem dX12_unify_57 : decode cX12_unify 57 = .ok (.aload_n 0, 1) := by decide +kernel
theorem dX12_unify_58 : decode cX12_unify 58 = .ok (.iload_n 2, 1) := by decide +kernel
theorem dX12_unify_59 : decode cX12_unify 59 = .ok (.invokevirtual 126, 3) := by decide +kernel
theorem dX12_unify_62 : decode cX12_unify 62 = .ok (.ior, 1) := by decide +kernel
theorem dX12_unify_63 : decode cX12_unify 63 = .ok (.invokevirtual 412, 3) := by decide +kernel
theorem dX12_unify_66 : decode cX12_unify 66 = .ok (.aload_n 0, 1) := by decide +kernel
theorem dX12_unify_67 : decode cX12_unify 67 = .ok (.iconst 1, 1) := by decide +kernel
theorem dX12_unify_68 : decode cX12_unify 68 = .ok (.invokevirtual 403, 3) := by decide +kernel
theorem dX12_unify_71 : decode cX12_unify 71 = .ok (.ireturn, 1) := by decide +kernel
theorem dX12_match_0 : decode cX12_match 0 = .ok (.aload_n 0, 1) := by decide +kernel
theorem dX12_match_1 : decode cX12_match 1 = .ok (.iconst 0, 1) := by decide +kernel
theorem dX12_match_2 : decode cX12_match 2 = .ok (.putfield 68, 3) := by decide +kernel
theorem dX12_match_5 : decode cX12_match 5 = .ok (.aload_n 0, 1) := by decide +kernel
theorem dX12_match_6 : decode cX12_match 6 = .ok (.iload_n 1, 1) := by decide +kernel
theorem dX12_match_7 : decode cX12_match 7 = .ok (.invokevirtual 376, 3) := by decide +kernel
theorem dX12_match_10 : decode cX12_match 10 = .ok (.ifCond .eq 11, 3) := by decide +kernel
theorem dX12_match_13 : decode cX12_match 13 = .ok (.aload_n 0, 1) := by decide +kernel
theorem dX12_match_14 : decode cX12_match 14 = .ok (.iload_n 2, 1) := by decide +kernel
theorem dX12_match_15 : decode cX12_match 15 = .ok (.invokevirtual 376, 3) := by decide +kernel
theorem dX12_match_18 : decode cX12_match 18 = .ok (.ifCond .ne 10, 3) := by decide +kernel
theorem dX12_match_21 : decode cX12_match 21 = .ok (.aload_n 0, 1) := by decide +kernel
theorem dX12_match_22 : decode cX12_match 22 = .ok (.iconst 1, 1) := by decide +kernel
theorem dX12_match_23 : decode cX12_match 23 = .ok (.iconst (-1), 1) := by decide +kernel
theorem dX12_match_24 : decode cX12_match 24 = .ok (.invokevirtual 391, 3) := by decide +kernel
theorem dX12_match_27 : decode cX12_match 27 = .ok (.ireturn, 1) := by decide +kernel
theorem dX12_match_28 : decode cX12_match 28 = .ok (.aload_n 0, 1) := by decide +kernel
theorem dX12_match_29 : decode cX12_match 29 = .ok (.iload_n 1, 1) := by decide +kernel
theorem dX12_match_30 : decode cX12_match 30 = .ok (.iload_n 2, 1) := by decide +kernel
end
section
theorem dX12_match_31 : decode cX12_match 31 = .ok (.invokevirtual 227, 3) := by decide +kernel
theorem dX12_match_34 : decode cX12_match 34 = .ok (.ifCond .ne 10, 3) := by decide +kernel
theorem dX12_match_37 : decode cX12_match 37 = .ok (.aload_n 0, 1) := by decide +kernel
theorem dX12_match_38 : decode cX12_match 38 = .ok (.iconst 3, 1) := by decide +kernel
theorem dX12_match_39 : decode cX12_match 39 = .ok (.iconst 0, 1) := by decide +kernel
theorem dX12_match_40 : decode cX12_match 40 = .ok (.invokevirtual 391, 3) := by decide +kernel
theorem dX12_match_43 : decode cX12_match 43 = .ok (.ireturn, 1) := by decide +kernel
theorem dX12_match_44 : decode cX12_match 44 = .ok (.aload_n 0, 1) := by decide +kernel
theorem dX12_match_45 : decode cX12_match 45 = .ok (.invokevirtual 400, 3) := by decide +kernel
theorem dX12_match_48 : decode cX12_match 48 = .ok (.iconst 0, 1) := by decide +kernel
theorem dX12_match_49 : decode cX12_match 49 = .ok (.istore_n 3, 1) := by decide +kernel
theorem dX12_match_50 : decode cX12_match 50 = .ok (.iload_n 3, 1) := by decide +kernel
theorem dX12_match_51 : decode cX12_match 51 = .ok (.bipush 8, 2) := by decide +kernel
theorem dX12_match_53 : decode cX12_match 53 = .ok (.if_icmp .ge 25, 3) := by decide +kernel
theorem dX12_match_56 : decode cX12_match 56 = .ok (.aload_n 0, 1) := by decide +kernel
theorem dX12_match_57 : decode cX12_match 57 = .ok (.getfield 9, 3) := by decide +kernel
theorem dX12_match_60 : decode cX12_match 60 = .ok (.iconst 1, 1) := by decide +kernel
theorem dX12_match_61 : decode cX12_match 61 = .ok (.iload_n 3, 1) := by decide +kernel
theorem dX12_match_62 : decode cX12_match 62 = .ok (.iadd, 1) := by decide +kernel
theorem dX12_match_63 : decode cX12_match 63 = .ok (.aload_n 0, 1) := by decide +kernel
theorem dX12_match_64 : decode cX12_match 64 = .ok (.getfield 41, 3) := by decide +kernel
theorem dX12_match_67 : decode cX12_match 67 = .ok (.iload_n 3, 1) := by decide +kernel
theorem dX12_match_68 : decode cX12_match 68 = .ok (.iaload, 1) := by decide +kernel
theorem dX12_match_69 : decode cX12_match 69 = .ok (.iconst 1, 1) := by decide +kernel
theorem dX12_match_70 : decode cX12_match 70 = .ok (.iadd, 1) := by decide +kernel
theorem dX12_match_71 : decode cX12_match 71 = .ok (.iastore, 1) := by decide +kernel
theorem dX12_match_72 : decode cX12_match 72 = .ok (.iinc 3 1, 3) := by decide +kernel
theorem dX12_match_75 : decode cX12_match 75 = .ok (.goto (-25), 3) := by decide +kernel
theorem dX12_match_78 : decode cX12_match 78 = .ok (.aload_n 0, 1) := by decide +kernel
theorem dX12_match_79 : decode cX12_match 79 = .ok (.iconst 1, 1) := by decide +kernel
theorem dX12_match_80 : decode cX12_match 80 = .ok (.invokevirtual 403, 3) := by decide +kernel
theorem dX12_match_83 : decode cX12_match 83 = .ok (.ireturn, 1) := by decide +kernel
theorem dX12_common_0 : decode cX12_common 0 = .ok (.aload_n 0, 1) := by decide +kernel
theorem dX12_common_1 : decode cX12_common 1 = .ok (.iconst 0, 1) := by decide +kernel
theorem dX12_common_2 : decode cX12_common 2 = .ok (.putfield 68, 3) := by decide +kernel
theorem dX12_common_5 : decode cX12_common 5 = .ok (.aload_n 0, 1) := by decide +kernel
theorem dX12_common_6 : decode cX12_common 6 = .ok (.iload_n 1, 1) := by decide +kernel
theorem dX12_common_7 : decode cX12_common 7 = .ok (.invokevirtual 376, 3) := by decide +kernel
theorem dX12_common_10 : decode cX12_common 10 = .ok (.ifCond .eq 11, 3) := by decide +kernel
theorem dX12_common_13 : decode cX12_common 13 = .ok (.aload_n 0, 1) := by decide +kernel
theorem dX12_common_14 : decode cX12_common 14 = .ok (.iload_n 2, 1) := by decide +kernel
theorem dX12_common_15 : decode cX12_common 15 = .ok (.invokevirtual 376, 3) := by decide +kernel
theorem dX12_common_18 : decode cX12_common 18 = .ok (.ifCond .ne 10, 3) := by decide +kernel
theorem dX12_common_21 : decode cX12_common 21 = .ok (.aload_n 0, 1) := by decide +kernel
theorem dX12_common_22 : decode cX12_common 22 = .ok (.iconst 1, 1) := by decide +kernel
theorem dX12_common_23 : decode cX12_common 23 = .ok (.iconst (-1), 1) := by decide +kernel
theorem dX12_common_24 : decode cX12_common 24 = .ok (.invokevirtual 391, 3) := by decide +kernel
theorem dX12_common_27 : decode cX12_common 27 = .ok (.ireturn, 1) := by decide +kernel
theorem dX12_common_28 : decode cX12_common 28 = .ok (.aload_n 0, 1) := by decide +kernel
theorem dX12_common_29 : decode cX12_common 29 = .ok (.invokevirtual 400, 3) := by decide +kernel
theorem dX12_common_32 : decode cX12_common 32 = .ok (.aload_n 0, 1) := by decide +kernel
theorem dX12_common_33 : decode cX12_common 33 = .ok (.iconst 0, 1) := by decide +kernel
theorem dX12_common_34 : decode cX12_common 34 = .ok (.putfield 192, 3) := by decide +kernel
theorem dX12_common_37 : decode cX12_common 37 = .ok (.aload_n 0, 1) := by decide +kernel
theorem dX12_common_38 : decode cX12_common 38 = .ok (.iload_n 1, 1) := by decide +kernel
theorem dX12_common_39 : decode cX12_common 39 = .ok (.iload_n 2, 1) := by decide +kernel
theorem dX12_common_40 : decode cX12_common 40 = .ok (.invokevirtual 201, 3) := by decide +kernel
theorem dX12_common_43 : decode cX12_common 43 = .ok (.istore_n 3, 1) := by decide +kernel
theorem dX12_common_44 : decode cX12_common 44 = .ok (.aload_n 0, 1) := by decide +kernel
theorem dX12_common_45 : decode cX12_common 45 = .ok (.getfield 92, 3) := by decide +kernel
theorem dX12_common_48 : decode cX12_common 48 = .ok (.ifCond .ne 20, 3) := by decide +kernel
theorem dX12_common_51 : decode cX12_common 51 = .ok (.aload_n 0, 1) := by decide +kernel
theorem dX12_common_52 : decode cX12_common 52 = .ok (.getfield 195, 3) := by decide +kernel
theorem dX12_common_55 : decode cX12_common 55 = .ok (.ifCond .eq 13, 3) := by decide +kernel
theorem dX12_common_58 : decode cX12_common 58 = .ok (.aload_n 0, 1) := by decide +kernel
theorem dX12_common_59 : decode cX12_common 59 = .ok (.iconst 3, 1) := by decide +kernel
theorem dX12_common_60 : decode cX12_common 60 = .ok (.bipush (-2), 2) := by decide +kernel
theorem dX12_common_62 : decode cX12_common 62 = .ok (.invokevirtual 394, 3) := by decide +kernel
theorem dX12_common_65 : decode cX12_common 65 = .ok (.goto 8, 3) := by decide +kernel
theorem dX12_common_68 : decode cX12_common 68 = .ok (.aload_n 0, 1) := by decide +kernel
theorem dX12_common_69 : decode cX12_common 69 = .ok (.iload_n 3, 1) := by decide +kernel
theorem dX12_common_70 : decode cX12_common 70 = .ok (.invokevirtual 403, 3) := by decide +kernel
theorem dX12_common_73 : decode cX12_common 73 = .ok (.ireturn, 1) := by decide +kernel
theorem dX12_normal_0 : decode cX12_normal 0 = .ok (.aload_n 0, 1) := by decide +kernel
theorem dX12_normal_1 : decode cX12_normal 1 = .ok (.iconst 0, 1) := by decide +kernel
theorem dX12_normal_2 : decode cX12_normal 2 = .ok (.putfield 68, 3) := by decide +kernel
theorem dX12_normal_5 : decode cX12_normal 5 = .ok (.aload_n 0, 1) := by decide +kernel
theorem dX12_normal_6 : decode cX12_normal 6 = .ok (.iload_n 1, 1) := by decide +kernel
theorem dX12_normal_7 : decode cX12_normal 7 = .ok (.invokevirtual 376, 3) := by decide +kernel
theorem dX12_normal_10 : decode cX12_normal 10 = .ok (.ifCond .ne 10, 3) := by decide +kernel
theorem dX12_normal_13 : decode cX12_normal 13 = .ok (.aload_n 0, 1) := by decide +kernel
theorem dX12_normal_14 : decode cX12_normal 14 = .ok (.iconst 1, 1) := by decide +kernel
theorem dX12_normal_15 : decode cX12_normal 15 = .ok (.iconst (-1), 1) := by decide +kernel
theorem dX12_normal_16 : decode cX12_normal 16 = .ok (.invokevirtual 391, 3) := by decide +kernel
theorem dX12_normal_19 : decode cX12_normal 19 = .ok (.ireturn, 1) := by decide +kernel
theorem dX12_normal_20 : decode cX12_normal 20 = .ok (.aload_n 0, 1) := by decide +kernel
theorem dX12_normal_21 : decode cX12_normal 21 = .ok (.invokevirtual 400, 3) := by decide +kernel
theorem dX12_normal_24 : decode cX12_normal 24 = .ok (.aload_n 0, 1) := by decide +kernel
theorem dX12_normal_25 : decode cX12_normal 25 = .ok (.iload_n 1, 1) := by decide +kernel
theorem dX12_normal_26 : decode cX12_normal 26 = .ok (.invokevirtual 221, 3) := by decide +kernel
theorem dX12_normal_29 : decode cX12_normal 29 = .ok (.istore_n 2, 1) := by decide +kernel
theorem dX12_normal_30 : decode cX12_normal 30 = .ok (.aload_n 0, 1) := by decide +kernel
theorem dX12_normal_31 : decode cX12_normal 31 = .ok (.getfield 208, 3) := by decide +kernel
theorem dX12_normal_34 : decode cX12_normal 34 = .ok (.bipush 100, 2) := by decide +kernel
theorem dX12_normal_36 : decode cX12_normal 36 = .ok (.if_icmp .le 13, 3) := by decide +kernel
theorem dX12_normal_39 : decode cX12_normal 39 = .ok (.aload_n 0, 1) := by decide +kernel
theorem dX12_normal_40 : decode cX12_normal 40 = .ok (.iconst 2, 1) := by decide +kernel
theorem dX12_normal_41 : decode cX12_normal 41 = .ok (.bipush (-2), 2) := by decide +kernel
theorem dX12_normal_43 : decode cX12_normal 43 = .ok (.invokevirtual 394, 3) := by decide +kernel
theorem dX12_normal_46 : decode cX12_normal 46 = .ok (.goto 8, 3) := by decide +kernel
theorem dX12_normal_49 : decode cX12_normal 49 = .ok (.aload_n 0, 1) := by decide +kernel
theorem dX12_normal_50 : decode cX12_normal 50 = .ok (.iload_n 2, 1) := by decide +kernel
theorem dX12_normal_51 : decode cX12_normal 51 = .ok (.invokevirtual 403, 3) := by decide +kernel
theorem dX12_normal_54 : decode cX12_normal 54 = .ok (.ireturn, 1) := by decide +kernel
theorem dX12_withPut_0 : decode cX12_withPut 0 = .ok (.iload_n 2, 1) := by decide +kernel
theorem dX12_withPut_1 : decode cX12_withPut 1 = .ok (.ifCond .ne 5, 3) := by decide +kernel
theorem dX12_withPut_4 : decode cX12_withPut 4 = .ok (.iload_n 3, 1) := by decide +kernel
theorem dX12_withPut_5 : decode cX12_withPut 5 = .ok (.ireturn, 1) := by decide +kernel
theorem dX12_withPut_6 : decode cX12_withPut 6 = .ok (.iload_n 2, 1) := by decide +kernel
theorem dX12_withPut_7 : decode cX12_withPut 7 = .ok (.iconst 1, 1) := by decide +kernel
theorem dX12_withPut_8 : decode cX12_withPut 8 = .ok (.isub, 1) := by decide +kernel
theorem dX12_withPut_9 : decode cX12_withPut 9 = .ok (.istore 4, 2) := by decide +kernel
theorem dX12_withPut_11 : decode cX12_withPut 11 = .ok (.aload_n 0, 1) := by decide +kernel
theorem dX12_withPut_12 : decode cX12_withPut 12 = .ok (.iload_n 1, 1) := by decide +kernel
theorem dX12_withPut_13 : decode cX12_withPut 13 = .ok (.invokevirtual 415, 3) := by decide +kernel
theorem dX12_withPut_16 : decode cX12_withPut 16 = .ok (.astore 5, 2) := by decide +kernel
theorem dX12_withPut_18 : decode cX12_withPut 18 = .ok (.iconst 0, 1) := by decide +kernel
theorem dX12_withPut_19 : decode cX12_withPut 19 = .ok (.istore 6, 2) := by decide +kernel
theorem dX12_withPut_21 : decode cX12_withPut 21 = .ok (.iload 6, 2) := by decide +kernel
theorem dX12_withPut_23 : decode cX12_withPut 23 = .ok (.aload_n 0, 1) := by decide +kernel
theorem dX12_withPut_24 : decode cX12_withPut 24 = .ok (.iload_n 1, 1) := by decide +kernel
theorem dX12_withPut_25 : decode cX12_withPut 25 = .ok (.invokevirtual 111, 3) := by decide +kernel
theorem dX12_withPut_28 : decode cX12_withPut 28 = .ok (.if_icmp .ge 60, 3) := by decide +kernel
theorem dX12_withPut_31 : decode cX12_withPut 31 = .ok (.aload_n 0, 1) := by decide +kernel
theorem dX12_withPut_32 : decode cX12_withPut 32 = .ok (.aload_n 0, 1) := by decide +kernel
theorem dX12_withPut_33 : decode cX12_withPut 33 = .ok (.iload_n 1, 1) := by decide +kernel
theorem dX12_withPut_34 : decode cX12_withPut 34 = .ok (.iload 6, 2) := by decide +kernel
theorem dX12_withPut_36 : decode cX12_withPut 36 = .ok (.invokevirtual 88, 3) := by decide +kernel
theorem dX12_withPut_39 : decode cX12_withPut 39 = .ok (.invokevirtual 114, 3) := by decide +kernel
theorem dX12_withPut_42 : decode cX12_withPut 42 = .ok (.istore 7, 2) := by decide +kernel
theorem dX12_withPut_44 : decode cX12_withPut 44 = .ok (.iload 4, 2) := by decide +kernel
theorem dX12_withPut_46 : decode cX12_withPut 46 = .ok (.ifCond .lt 29, 3) := by decide +kernel
theorem dX12_withPut_49 : decode cX12_withPut 49 = .ok (.iload 4, 2) := by decide +kernel
theorem dX12_withPut_51 : decode cX12_withPut 51 = .ok (.iload 7, 2) := by decide +kernel
theorem dX12_withPut_53 : decode cX12_withPut 53 = .ok (.if_icmp .ge 22, 3) := by decide +kernel
theorem dX12_withPut_56 : decode cX12_withPut 56 = .ok (.aload 5, 2) := by decide +kernel
theorem dX12_withPut_58 : decode cX12_withPut 58 = .ok (.iload 6, 2) := by decide +kernel
theorem dX12_withPut_60 : decode cX12_withPut 60 = .ok (.aload_n 0, 1) := by decide +kernel
theorem dX12_withPut_61 : decode cX12_withPut 61 = .ok (.aload_n 0, 1) := by decide +kernel
theorem dX12_withPut_62 : decode cX12_withPut 62 = .ok (.iload_n 1, 1) := by decide +kernel
theorem dX12_withPut_63 : decode cX12_withPut 63 = .ok (.iload 6, 2) := by decide +kernel
theorem dX12_withPut_65 : decode cX12_withPut 65 = .ok (.invokevirtual 88, 3) := by decide +kernel
theorem dX12_withPut_68 : decode cX12_withPut 68 = .ok (.iload 4, 2) := by decide +kernel
theorem dX12_withPut_70 : decode cX12_withPut 70 = .ok (.iload_n 3, 1) := by decide +kernel
theorem dX12_withPut_71 : decode cX12_withPut 71 = .ok (.invokevirtual 419, 3) := by decide +kernel
theorem dX12_withPut_74 : decode cX12_withPut 74 = .ok (.iastore, 1) := by decide +kernel
theorem dX12_withPut_75 : decode cX12_withPut 75 = .ok (.iload 4, 2) := by decide +kernel
theorem dX12_withPut_77 : decode cX12_withPut 77 = .ok (.iload 7, 2) := by decide +kernel
theorem dX12_withPut_79 : decode cX12_withPut 79 = .ok (.isub, 1) := by decide +kernel
theorem dX12_withPut_80 : decode cX12_withPut 80 = .ok (.istore 4, 2) := by decide +kernel
theorem dX12_withPut_82 : decode cX12_withPut 82 = .ok (.iinc 6 1, 3) := by decide +kernel
theorem dX12_withPut_85 : decode cX12_withPut 85 = .ok (.goto (-64), 3) := by decide +kernel
theorem dX12_withPut_88 : decode cX12_withPut 88 = .ok (.aload_n 0, 1) := by decide +kernel
theorem dX12_withPut_89 : decode cX12_withPut 89 = .ok (.iload_n 1, 1) := by decide +kernel
theorem dX12_withPut_90 : decode cX12_withPut 90 = .ok (.aload 5, 2) := by decide +kernel
theorem dX12_withPut_92 : decode cX12_withPut 92 = .ok (.iconst 0, 1) := by decide +kernel
theorem dX12_withPut_93 : decode cX12_withPut 93 = .ok (.iaload, 1) := by decide +kernel
theorem dX12_withPut_94 : decode cX12_withPut 94 = .ok (.aload 5, 2) := by decide +kernel
theorem dX12_withPut_96 : decode cX12_withPut 96 = .ok (.iconst 1, 1) := by decide +kernel
theorem dX12_withPut_97 : decode cX12_withPut 97 = .ok (.iaload, 1) := by decide +kernel
theorem dX12_withPut_98 : decode cX12_withPut 98 = .ok (.aload 5, 2) := by decide +kernel
theorem dX12_withPut_100 : decode cX12_withPut 100 = .ok (.iconst 2, 1) := by decide +kernel
theorem dX12_withPut_101 : decode cX12_withPut 101 = .ok (.iaload, 1) := by decide +kernel
theorem dX12_withPut_102 : decode cX12_withPut 102 = .ok (.invokevirtual 152, 3) := by decide +kernel
theorem dX12_withPut_105 : decode cX12_withPut 105 = .ok (.ireturn, 1) := by decide +kernel
theorem dX12_parts_0 : decode cX12_parts 0 = .ok (.iconst 3, 1) := by decide +kernel
theorem dX12_parts_1 : decode cX12_parts 1 = .ok (.newarray .int, 2) := by decide +kernel
theorem dX12_parts_3 : decode cX12_parts 3 = .ok (.astore_n 2, 1) := by decide +kernel
theorem dX12_parts_4 : decode cX12_parts 4 = .ok (.iconst 0, 1) := by decide +kernel
theorem dX12_parts_5 : decode cX12_parts 5 = .ok (.istore_n 3, 1) := by decide +kernel
theorem dX12_parts_6 : decode cX12_parts 6 = .ok (.iload_n 3, 1) := by decide +kernel
theorem dX12_parts_7 : decode cX12_parts 7 = .ok (.aload_n 0, 1) := by decide +kernel
theorem dX12_parts_8 : decode cX12_parts 8 = .ok (.iload_n 1, 1) := by decide +kernel
theorem dX12_parts_9 : decode cX12_parts 9 = .ok (.invokevirtual 111, 3) := by decide +kernel
theorem dX12_parts_12 : decode cX12_parts 12 = .ok (.if_icmp .ge 18, 3) := by decide +kernel
theorem dX12_parts_15 : decode cX12_parts 15 = .ok (.aload_n 2, 1) := by decide +kernel
theorem dX12_parts_16 : decode cX12_parts 16 = .ok (.iload_n 3, 1) := by decide +kernel
theorem dX12_parts_17 : decode cX12_parts 17 = .ok (.aload_n 0, 1) := by decide +kernel
theorem dX12_parts_18 : decode cX12_parts 18 = .ok (.iload_n 1, 1) := by decide +kernel
theorem dX12_parts_19 : decode cX12_parts 19 = .ok (.iload_n 3, 1) := by decide +kernel
theorem dX12_parts_20 : decode cX12_parts 20 = .ok (.invokevirtual 88, 3) := by decide +kernel
theorem dX12_parts_23 : decode cX12_parts 23 = .ok (.iastore, 1) := by decide +kernel
theorem dX12_parts_24 : decode cX12_parts 24 = .ok (.iinc 3 1, 3) := by decide +kernel
theorem dX12_parts_27 : decode cX12_parts 27 = .ok (.goto (-21), 3) := by decide +kernel
theorem dX12_parts_30 : decode cX12_parts 30 = .ok (.aload_n 2, 1) := by decide +kernel
theorem dX12_parts_31 : decode cX12_parts 31 = .ok (.areturn, 1) := by decide +kernel
theorem dX12_put_0 : decode cX12_put 0 = .ok (.aload_n 0, 1) := by decide +kernel
theorem dX12_put_1 : decode cX12_put 1 = .ok (.iconst 0, 1) := by decide +kernel
theorem dX12_put_2 : decode cX12_put 2 = .ok (.putfield 68, 3) := by decide +kernel
theorem dX12_put_5 : decode cX12_put 5 = .ok (.aload_n 0, 1) := by decide +kernel
theorem dX12_put_6 : decode cX12_put 6 = .ok (.iload_n 1, 1) := by decide +kernel
theorem dX12_put_7 : decode cX12_put 7 = .ok (.invokevirtual 376, 3) := by decide +kernel
theorem dX12_put_10 : decode cX12_put 10 = .ok (.ifCond .eq 21, 3) := by decide +kernel
theorem dX12_put_13 : decode cX12_put 13 = .ok (.aload_n 0, 1) := by decide +kernel
theorem dX12_put_14 : decode cX12_put 14 = .ok (.iload_n 3, 1) := by decide +kernel
theorem dX12_put_15 : decode cX12_put 15 = .ok (.invokevirtual 376, 3) := by decide +kernel
theorem dX12_put_18 : decode cX12_put 18 = .ok (.ifCond .eq 13, 3) := by decide +kernel
theorem dX12_put_21 : decode cX12_put 21 = .ok (.aload_n 0, 1) := by decide +kernel
theorem dX12_put_22 : decode cX12_put 22 = .ok (.iload_n 1, 1) := by decide +kernel
theorem dX12_put_23 : decode cX12_put 23 = .ok (.iload_n 2, 1) := by decide +kernel
theorem dX12_put_24 : decode cX12_put 24 = .ok (.invokevirtual 139, 3) := by decide +kernel
theorem dX12_put_27 : decode cX12_put 27 = .ok (.iconst (-1), 1) := by decide +kernel
theorem dX12_put_28 : decode cX12_put 28 = .ok (.if_icmp .ne 10, 3) := by decide +kernel
theorem dX12_put_31 : decode cX12_put 31 = .ok (.aload_n 0, 1) := by decide +kernel
theorem dX12_put_32 : decode cX12_put 32 = .ok (.iconst 1, 1) := by decide +kernel
theorem dX12_put_33 : decode cX12_put 33 = .ok (.iconst (-1), 1) := by decide +kernel
theorem dX12_put_34 : decode cX12_put 34 = .ok (.invokevirtual 391, 3) := by decide +kernel
theorem dX12_put_37 : decode cX12_put 37 = .ok (.ireturn, 1) := by decide +kernel
theorem dX12_put_38 : decode cX12_put 38 = .ok (.aload_n 0, 1) := by decide +kernel
theorem dX12_put_39 : decode cX12_put 39 = .ok (.invokevirtual 400, 3) := by decide +kernel
theorem dX12_put_42 : decode cX12_put 42 = .ok (.aload_n 0, 1) := by decide +kernel
theorem dX12_put_43 : decode cX12_put 43 = .ok (.aload_n 0, 1) := by decide +kernel
theorem dX12_put_44 : decode cX12_put 44 = .ok (.iload_n 1, 1) := by decide +kernel
theorem dX12_put_45 : decode cX12_put 45 = .ok (.iload_n 2, 1) := by decide +kernel
theorem dX12_put_46 : decode cX12_put 46 = .ok (.iload_n 3, 1) := by decide +kernel
theorem dX12_put_47 : decode cX12_put 47 = .ok (.invokevirtual 419, 3) := by decide +kernel
theorem dX12_put_50 : decode cX12_put 50 = .ok (.invokevirtual 403, 3) := by decide +kernel
theorem dX12_put_53 : decode cX12_put 53 = .ok (.ireturn, 1) := by decide +kernel
theorem dX12_rules_0 : decode cX12_rules 0 = .ok (.aload_n 0, 1) := by decide +kernel
theorem dX12_rules_1 : decode cX12_rules 1 = .ok (.iconst 0, 1) := by decide +kernel
theorem dX12_rules_2 : decode cX12_rules 2 = .ok (.putfield 68, 3) := by decide +kernel
theorem dX12_rules_5 : decode cX12_rules 5 = .ok (.aload_n 0, 1) := by decide +kernel
theorem dX12_rules_6 : decode cX12_rules 6 = .ok (.iload_n 1, 1) := by decide +kernel
theorem dX12_rules_7 : decode cX12_rules 7 = .ok (.invokevirtual 376, 3) := by decide +kernel
theorem dX12_rules_10 : decode cX12_rules 10 = .ok (.ifCond .eq 32, 3) := by decide +kernel
theorem dX12_rules_13 : decode cX12_rules 13 = .ok (.aload_n 0, 1) := by decide +kernel
theorem dX12_rules_14 : decode cX12_rules 14 = .ok (.iload_n 2, 1) := by decide +kernel
theorem dX12_rules_15 : decode cX12_rules 15 = .ok (.invokevirtual 376, 3) := by decide +kernel
theorem dX12_rules_18 : decode cX12_rules 18 = .ok (.ifCond .eq 24, 3) := by decide +kernel
theorem dX12_rules_21 : decode cX12_rules 21 = .ok (.aload_n 0, 1) := by decide +kernel
theorem dX12_rules_22 : decode cX12_rules 22 = .ok (.getfield 9, 3) := by decide +kernel
theorem dX12_rules_25 : decode cX12_rules 25 = .ok (.bipush 9, 2) := by decide +kernel
theorem dX12_rules_27 : decode cX12_rules 27 = .ok (.iaload, 1) := by decide +kernel
theorem dX12_rules_28 : decode cX12_rules 28 = .ok (.bipush 8, 2) := by decide +kernel
theorem dX12_rules_30 : decode cX12_rules 30 = .ok (.if_icmp .eq 12, 3) := by decide +kernel
theorem dX12_rules_33 : decode cX12_rules 33 = .ok (.aload_n 0, 1) := by decide +kernel
theorem dX12_rules_34 : decode cX12_rules 34 = .ok (.iload_n 1, 1) := by decide +kernel
theorem dX12_rules_35 : decode cX12_rules 35 = .ok (.iload_n 2, 1) := by decide +kernel
theorem dX12_rules_36 : decode cX12_rules 36 = .ok (.invokevirtual 301, 3) := by decide +kernel
theorem dX12_rules_39 : decode cX12_rules 39 = .ok (.ifCond .ne 10, 3) := by decide +kernel
theorem dX12_rules_42 : decode cX12_rules 42 = .ok (.aload_n 0, 1) := by decide +kernel
theorem dX12_rules_43 : decode cX12_rules 43 = .ok (.iconst 1, 1) := by decide +kernel
theorem dX12_rules_44 : decode cX12_rules 44 = .ok (.iconst (-1), 1) := by decide +kernel
theorem dX12_rules_45 : decode cX12_rules 45 = .ok (.invokevirtual 391, 3) := by decide +kernel
theorem dX12_rules_48 : decode cX12_rules 48 = .ok (.ireturn, 1) := by decide +kernel
theorem dX12_rules_49 : decode cX12_rules 49 = .ok (.aload_n 0, 1) := by decide +kernel
theorem dX12_rules_50 : decode cX12_rules 50 = .ok (.invokevirtual 400, 3) := by decide +kernel
theorem dX12_rules_53 : decode cX12_rules 53 = .ok (.aload_n 0, 1) := by decide +kernel
theorem dX12_rules_54 : decode cX12_rules 54 = .ok (.iload_n 1, 1) := by decide +kernel
theorem dX12_rules_55 : decode cX12_rules 55 = .ok (.iload_n 2, 1) := by decide +kernel
theorem dX12_rules_56 : decode cX12_rules 56 = .ok (.invokevirtual 304, 3) := by decide +kernel
theorem dX12_rules_59 : decode cX12_rules 59 = .ok (.aload_n 0, 1) := by decide +kernel
theorem dX12_rules_60 : decode cX12_rules 60 = .ok (.getfield 9, 3) := by decide +kernel
theorem dX12_rules_63 : decode cX12_rules 63 = .ok (.bipush 40, 2) := by decide +kernel
theorem dX12_rules_65 : decode cX12_rules 65 = .ok (.iconst 0, 1) := by decide +kernel
theorem dX12_rules_66 : decode cX12_rules 66 = .ok (.iastore, 1) := by decide +kernel
theorem dX12_rules_67 : decode cX12_rules 67 = .ok (.aload_n 0, 1) := by decide +kernel
theorem dX12_rules_68 : decode cX12_rules 68 = .ok (.aload_n 0, 1) := by decide +kernel
theorem dX12_rules_69 : decode cX12_rules 69 = .ok (.getfield 9, 3) := by decide +kernel
theorem dX12_rules_72 : decode cX12_rules 72 = .ok (.bipush 9, 2) := by decide +kernel
theorem dX12_rules_74 : decode cX12_rules 74 = .ok (.iaload, 1) := by decide +kernel
theorem dX12_rules_75 : decode cX12_rules 75 = .ok (.invokevirtual 403, 3) := by decide +kernel
theorem dX12_rules_78 : decode cX12_rules 78 = .ok (.ireturn, 1) := by decide +kernel
theorem dX12_enter_0 : decode cX12_enter 0 = .ok (.aload_n 0, 1) := by decide +kernel
theorem dX12_enter_1 : decode cX12_enter 1 = .ok (.iconst 0, 1) := by decide +kernel
theorem dX12_enter_2 : decode cX12_enter 2 = .ok (.putfield 68, 3) := by decide +kernel
theorem dX12_enter_5 : decode cX12_enter 5 = .ok (.aload_n 0, 1) := by decide +kernel
theorem dX12_enter_6 : decode cX12_enter 6 = .ok (.iload_n 1, 1) := by decide +kernel
theorem dX12_enter_7 : decode cX12_enter 7 = .ok (.invokevirtual 376, 3) := by decide +kernel
theorem dX12_enter_10 : decode cX12_enter 10 = .ok (.ifCond .eq 24, 3) := by decide +kernel
theorem dX12_enter_13 : decode cX12_enter 13 = .ok (.aload_n 0, 1) := by decide +kernel
theorem dX12_enter_14 : decode cX12_enter 14 = .ok (.getfield 9, 3) := by decide +kernel
theorem dX12_enter_17 : decode cX12_enter 17 = .ok (.bipush 26, 2) := by decide +kernel
theorem dX12_enter_19 : decode cX12_enter 19 = .ok (.iaload, 1) := by decide +kernel
theorem dX12_enter_20 : decode cX12_enter 20 = .ok (.bipush 12, 2) := by decide +kernel
theorem dX12_enter_22 : decode cX12_enter 22 = .ok (.if_icmp .eq 12, 3) := by decide +kernel
theorem dX12_enter_25 : decode cX12_enter 25 = .ok (.aload_n 0, 1) := by decide +kernel
theorem dX12_enter_26 : decode cX12_enter 26 = .ok (.iload_n 1, 1) := by decide +kernel
theorem dX12_enter_27 : decode cX12_enter 27 = .ok (.invokevirtual 307, 3) := by decide +kernel
theorem dX12_enter_30 : decode cX12_enter 30 = .ok (.iconst (-1), 1) := by decide +kernel
theorem dX12_enter_31 : decode cX12_enter 31 = .ok (.if_icmp .eq 10, 3) := by decide +kernel
theorem dX12_enter_34 : decode cX12_enter 34 = .ok (.aload_n 0, 1) := by decide +kernel
theorem dX12_enter_35 : decode cX12_enter 35 = .ok (.iconst 1, 1) := by decide +kernel
theorem dX12_enter_36 : decode cX12_enter 36 = .ok (.iconst (-1), 1) := by decide +kernel
theorem dX12_enter_37 : decode cX12_enter 37 = .ok (.invokevirtual 391, 3) := by decide +kernel
theorem dX12_enter_40 : decode cX12_enter 40 = .ok (.ireturn, 1) := by decide +kernel
theorem dX12_enter_41 : decode cX12_enter 41 = .ok (.aload_n 0, 1) := by decide +kernel
theorem dX12_enter_42 : decode cX12_enter 42 = .ok (.invokevirtual 400, 3) := by decide +kernel
theorem dX12_enter_45 : decode cX12_enter 45 = .ok (.aload_n 0, 1) := by decide +kernel
theorem dX12_enter_46 : decode cX12_enter 46 = .ok (.iload_n 1, 1) := by decide +kernel
theorem dX12_enter_47 : decode cX12_enter 47 = .ok (.invokevirtual 310, 3) := by decide +kernel
theorem dX12_enter_50 : decode cX12_enter 50 = .ok (.aload_n 0, 1) := by decide +kernel
theorem dX12_enter_51 : decode cX12_enter 51 = .ok (.aload_n 0, 1) := by decide +kernel
theorem dX12_enter_52 : decode cX12_enter 52 = .ok (.getfield 9, 3) := by decide +kernel
theorem dX12_enter_55 : decode cX12_enter 55 = .ok (.bipush 26, 2) := by decide +kernel
theorem dX12_enter_57 : decode cX12_enter 57 = .ok (.iaload, 1) := by decide +kernel
theorem dX12_enter_58 : decode cX12_enter 58 = .ok (.invokevirtual 403, 3) := by decide +kernel
theorem dX12_enter_61 : decode cX12_enter 61 = .ok (.ireturn, 1) := by decide +kernel
theorem dX12_leave_0 : decode cX12_leave 0 = .ok (.aload_n 0, 1) := by decide +kernel
theorem dX12_leave_1 : decode cX12_leave 1 = .ok (.iconst 0, 1) := by decide +kernel
theorem dX12_leave_2 : decode cX12_leave 2 = .ok (.putfield 68, 3) := by decide +kernel
theorem dX12_leave_5 : decode cX12_leave 5 = .ok (.aload_n 0, 1) := by decide +kernel
theorem dX12_leave_6 : decode cX12_leave 6 = .ok (.iload_n 1, 1) := by decide +kernel
theorem dX12_leave_7 : decode cX12_leave 7 = .ok (.invokevirtual 376, 3) := by decide +kernel
theorem dX12_leave_10 : decode cX12_leave 10 = .ok (.ifCond .eq 11, 3) := by decide +kernel
theorem dX12_leave_13 : decode cX12_leave 13 = .ok (.aload_n 0, 1) := by decide +kernel
theorem dX12_leave_14 : decode cX12_leave 14 = .ok (.iload_n 1, 1) := by decide +kernel
theorem dX12_leave_15 : decode cX12_leave 15 = .ok (.invokevirtual 307, 3) := by decide +kernel
theorem dX12_leave_18 : decode cX12_leave 18 = .ok (.goto 4, 3) := by decide +kernel
theorem dX12_leave_21 : decode cX12_leave 21 = .ok (.iconst (-1), 1) := by decide +kernel
theorem dX12_leave_22 : decode cX12_leave 22 = .ok (.istore_n 2, 1) := by decide +kernel
theorem dX12_leave_23 : decode cX12_leave 23 = .ok (.iload_n 2, 1) := by decide +kernel
theorem dX12_leave_24 : decode cX12_leave 24 = .ok (.iconst (-1), 1) := by decide +kernel
theorem dX12_leave_25 : decode cX12_leave 25 = .ok (.if_icmp .ne 10, 3) := by decide +kernel
theorem dX12_leave_28 : decode cX12_leave 28 = .ok (.aload_n 0, 1) := by decide +kernel
theorem dX12_leave_29 : decode cX12_leave 29 = .ok (.iconst 1, 1) := by decide +kernel
theorem dX12_leave_30 : decode cX12_leave 30 = .ok (.iconst (-1), 1) := by decide +kernel
theorem dX12_leave_31 : decode cX12_leave 31 = .ok (.invokevirtual 391, 3) := by decide +kernel
theorem dX12_leave_34 : decode cX12_leave 34 = .ok (.ireturn, 1) := by decide +kernel
theorem dX12_leave_35 : decode cX12_leave 35 = .ok (.aload_n 0, 1) := by decide +kernel
theorem dX12_leave_36 : decode cX12_leave 36 = .ok (.invokevirtual 400, 3) := by decide +kernel
theorem dX12_leave_39 : decode cX12_leave 39 = .ok (.aload_n 0, 1) := by decide +kernel
theorem dX12_leave_40 : decode cX12_leave 40 = .ok (.getfield 9, 3) := by decide +kernel
theorem dX12_leave_43 : decode cX12_leave 43 = .ok (.bipush 26, 2) := by decide +kernel
theorem dX12_leave_45 : decode cX12_leave 45 = .ok (.dup2, 1) := by decide +kernel
theorem dX12_leave_46 : decode cX12_leave 46 = .ok (.iaload, 1) := by decide +kernel
theorem dX12_leave_47 : decode cX12_leave 47 = .ok (.iconst 1, 1) := by decide +kernel
theorem dX12_leave_48 : decode cX12_leave 48 = .ok (.isub, 1) := by decide +kernel
theorem dX12_leave_49 : decode cX12_leave 49 = .ok (.iastore, 1) := by decide +kernel
theorem dX12_leave_50 : decode cX12_leave 50 = .ok (.iload_n 2, 1) := by decide +kernel
theorem dX12_leave_51 : decode cX12_leave 51 = .ok (.istore_n 3, 1) := by decide +kernel
theorem dX12_leave_52 : decode cX12_leave 52 = .ok (.iload_n 3, 1) := by decide +kernel
theorem dX12_leave_53 : decode cX12_leave 53 = .ok (.aload_n 0, 1) := by decide +kernel
theorem dX12_leave_54 : decode cX12_leave 54 = .ok (.getfield 9, 3) := by decide +kernel
theorem dX12_leave_57 : decode cX12_leave 57 = .ok (.bipush 26, 2) := by decide +kernel
theorem dX12_leave_59 : decode cX12_leave 59 = .ok (.iaload, 1) := by decide +kernel
theorem dX12_leave_60 : decode cX12_leave 60 = .ok (.if_icmp .ge 29, 3) := by decide +kernel
theorem dX12_leave_63 : decode cX12_leave 63 = .ok (.aload_n 0, 1) := by decide +kernel
theorem dX12_leave_64 : decode cX12_leave 64 = .ok (.getfield 9, 3) := by decide +kernel
theorem dX12_leave_67 : decode cX12_leave 67 = .ok (.bipush 27, 2) := by decide +kernel
theorem dX12_leave_69 : decode cX12_leave 69 = .ok (.iload_n 3, 1) := by decide +kernel
theorem dX12_leave_70 : decode cX12_leave 70 = .ok (.iadd, 1) := by decide +kernel
theorem dX12_leave_71 : decode cX12_leave 71 = .ok (.aload_n 0, 1) := by decide +kernel
theorem dX12_leave_72 : decode cX12_leave 72 = .ok (.getfield 9, 3) := by decide +kernel
theorem dX12_leave_75 : decode cX12_leave 75 = .ok (.bipush 27, 2) := by decide +kernel
theorem dX12_leave_77 : decode cX12_leave 77 = .ok (.iload_n 3, 1) := by decide +kernel
theorem dX12_leave_78 : decode cX12_leave 78 = .ok (.iadd, 1) := by decide +kernel
theorem dX12_leave_79 : decode cX12_leave 79 = .ok (.iconst 1, 1) := by decide +kernel
theorem dX12_leave_80 : decode cX12_leave 80 = .ok (.iadd, 1) := by decide +kernel
theorem dX12_leave_81 : decode cX12_leave 81 = .ok (.iaload, 1) := by decide +kernel
theorem dX12_leave_82 : decode cX12_leave 82 = .ok (.iastore, 1) := by decide +kernel
theorem dX12_leave_83 : decode cX12_leave 83 = .ok (.iinc 3 1, 3) := by decide +kernel
theorem dX12_leave_86 : decode cX12_leave 86 = .ok (.goto (-34), 3) := by decide +kernel
theorem dX12_leave_89 : decode cX12_leave 89 = .ok (.aload_n 0, 1) := by decide +kernel
theorem dX12_leave_90 : decode cX12_leave 90 = .ok (.aload_n 0, 1) := by decide +kernel
theorem dX12_leave_91 : decode cX12_leave 91 = .ok (.getfield 9, 3) := by decide +kernel
theorem dX12_leave_94 : decode cX12_leave 94 = .ok (.bipush 26, 2) := by decide +kernel
theorem dX12_leave_96 : decode cX12_leave 96 = .ok (.iaload, 1) := by decide +kernel
theorem dX12_leave_97 : decode cX12_leave 97 = .ok (.invokevirtual 403, 3) := by decide +kernel
theorem dX12_leave_100 : decode cX12_leave 100 = .ok (.ireturn, 1) := by decide +kernel
theorem dX12_room_0 : decode cX12_room 0 = .ok (.aload_n 0, 1) := by decide +kernel
theorem dX12_room_1 : decode cX12_room 1 = .ok (.iconst 0, 1) := by decide +kernel
theorem dX12_room_2 : decode cX12_room 2 = .ok (.putfield 68, 3) := by decide +kernel
theorem dX12_room_5 : decode cX12_room 5 = .ok (.iload_n 1, 1) := by decide +kernel
theorem dX12_room_6 : decode cX12_room 6 = .ok (.iconst 0, 1) := by decide +kernel
theorem dX12_room_7 : decode cX12_room 7 = .ok (.bipush 9, 2) := by decide +kernel
theorem dX12_room_9 : decode cX12_room 9 = .ok (.invokestatic 283, 3) := by decide +kernel
theorem dX12_room_12 : decode cX12_room 12 = .ok (.ifCond .ne 10, 3) := by decide +kernel
theorem dX12_room_15 : decode cX12_room 15 = .ok (.aload_n 0, 1) := by decide +kernel
theorem dX12_room_16 : decode cX12_room 16 = .ok (.iconst 1, 1) := by decide +kernel
theorem dX12_room_17 : decode cX12_room 17 = .ok (.iconst (-1), 1) := by decide +kernel
theorem dX12_room_18 : decode cX12_room 18 = .ok (.invokevirtual 391, 3) := by decide +kernel
theorem dX12_room_21 : decode cX12_room 21 = .ok (.ireturn, 1) := by decide +kernel
theorem dX12_room_22 : decode cX12_room 22 = .ok (.aload_n 0, 1) := by decide +kernel
theorem dX12_room_23 : decode cX12_room 23 = .ok (.invokevirtual 400, 3) := by decide +kernel
theorem dX12_room_26 : decode cX12_room 26 = .ok (.aload_n 0, 1) := by decide +kernel
theorem dX12_room_27 : decode cX12_room 27 = .ok (.getfield 9, 3) := by decide +kernel
theorem dX12_room_30 : decode cX12_room 30 = .ok (.bipush 39, 2) := by decide +kernel
theorem dX12_room_32 : decode cX12_room 32 = .ok (.iaload, 1) := by decide +kernel
theorem dX12_room_33 : decode cX12_room 33 = .ok (.istore_n 2, 1) := by decide +kernel
theorem dX12_room_34 : decode cX12_room 34 = .ok (.aload_n 0, 1) := by decide +kernel
theorem dX12_room_35 : decode cX12_room 35 = .ok (.getfield 9, 3) := by decide +kernel
theorem dX12_room_38 : decode cX12_room 38 = .ok (.bipush 39, 2) := by decide +kernel
theorem dX12_room_40 : decode cX12_room 40 = .ok (.iload_n 1, 1) := by decide +kernel
theorem dX12_room_41 : decode cX12_room 41 = .ok (.iastore, 1) := by decide +kernel
theorem dX12_room_42 : decode cX12_room 42 = .ok (.aload_n 0, 1) := by decide +kernel
theorem dX12_room_43 : decode cX12_room 43 = .ok (.getfield 9, 3) := by decide +kernel
theorem dX12_room_46 : decode cX12_room 46 = .ok (.bipush 40, 2) := by decide +kernel
theorem dX12_room_48 : decode cX12_room 48 = .ok (.iconst 0, 1) := by decide +kernel
theorem dX12_room_49 : decode cX12_room 49 = .ok (.iastore, 1) := by decide +kernel
theorem dX12_room_50 : decode cX12_room 50 = .ok (.aload_n 0, 1) := by decide +kernel
theorem dX12_room_51 : decode cX12_room 51 = .ok (.iload_n 2, 1) := by decide +kernel
theorem dX12_room_52 : decode cX12_room 52 = .ok (.invokevirtual 403, 3) := by decide +kernel
theorem dX12_room_55 : decode cX12_room 55 = .ok (.ireturn, 1) := by decide +kernel
theorem dX12_drawOf_0 : decode cX12_drawOf 0 = .ok (.aload_n 0, 1) := by decide +kernel
theorem dX12_drawOf_1 : decode cX12_drawOf 1 = .ok (.aload_n 0, 1) := by decide +kernel
theorem dX12_drawOf_2 : decode cX12_drawOf 2 = .ok (.getfield 423, 3) := by decide +kernel
theorem dX12_drawOf_5 : decode cX12_drawOf 5 = .ok (.ldc_w 426, 3) := by decide +kernel
theorem dX12_drawOf_8 : decode cX12_drawOf 8 = .ok (.imul, 1) := by decide +kernel
theorem dX12_drawOf_9 : decode cX12_drawOf 9 = .ok (.sipush 12345, 3) := by decide +kernel
theorem dX12_drawOf_12 : decode cX12_drawOf 12 = .ok (.iadd, 1) := by decide +kernel
theorem dX12_drawOf_13 : decode cX12_drawOf 13 = .ok (.putfield 423, 3) := by decide +kernel
theorem dX12_drawOf_16 : decode cX12_drawOf 16 = .ok (.aload_n 0, 1) := by decide +kernel
theorem dX12_drawOf_17 : decode cX12_drawOf 17 = .ok (.getfield 423, 3) := by decide +kernel
theorem dX12_drawOf_20 : decode cX12_drawOf 20 = .ok (.bipush 16, 2) := by decide +kernel
theorem dX12_drawOf_22 : decode cX12_drawOf 22 = .ok (.ishr, 1) := by decide +kernel
theorem dX12_drawOf_23 : decode cX12_drawOf 23 = .ok (.sipush 32767, 3) := by decide +kernel
theorem dX12_drawOf_26 : decode cX12_drawOf 26 = .ok (.iand, 1) := by decide +kernel
theorem dX12_drawOf_27 : decode cX12_drawOf 27 = .ok (.iload_n 1, 1) := by decide +kernel
theorem dX12_drawOf_28 : decode cX12_drawOf 28 = .ok (.irem, 1) := by decide +kernel
theorem dX12_drawOf_29 : decode cX12_drawOf 29 = .ok (.ireturn, 1) := by decide +kernel
theorem dX12_drawn_0 : decode cX12_drawn 0 = .ok (.aload_n 0, 1) := by decide +kernel
theorem dX12_drawn_1 : decode cX12_drawn 1 = .ok (.bipush 8, 2) := by decide +kernel
theorem dX12_drawn_3 : decode cX12_drawn 3 = .ok (.invokevirtual 427, 3) := by decide +kernel
theorem dX12_drawn_6 : decode cX12_drawn 6 = .ok (.istore_n 2, 1) := by decide +kernel
theorem dX12_drawn_7 : decode cX12_drawn 7 = .ok (.iload_n 2, 1) := by decide +kernel
theorem dX12_drawn_8 : decode cX12_drawn 8 = .ok (.ifCond .eq 15, 3) := by decide +kernel
theorem dX12_drawn_11 : decode cX12_drawn 11 = .ok (.iload_n 1, 1) := by decide +kernel
theorem dX12_drawn_12 : decode cX12_drawn 12 = .ok (.iconst 1, 1) := by decide +kernel
theorem dX12_drawn_13 : decode cX12_drawn 13 = .ok (.if_icmp .eq 10, 3) := by decide +kernel
theorem dX12_drawn_16 : decode cX12_drawn 16 = .ok (.aload_n 0, 1) := by decide +kernel
theorem dX12_drawn_17 : decode cX12_drawn 17 = .ok (.getfield 347, 3) := by decide +kernel
theorem dX12_drawn_20 : decode cX12_drawn 20 = .ok (.ifCond .ne 13, 3) := by decide +kernel
theorem dX12_drawn_23 : decode cX12_drawn 23 = .ok (.aload_n 0, 1) := by decide +kernel
theorem dX12_drawn_24 : decode cX12_drawn 24 = .ok (.aload_n 0, 1) := by decide +kernel
theorem dX12_drawn_25 : decode cX12_drawn 25 = .ok (.iconst 3, 1) := by decide +kernel
theorem dX12_drawn_26 : decode cX12_drawn 26 = .ok (.invokevirtual 427, 3) := by decide +kernel
theorem dX12_drawn_29 : decode cX12_drawn 29 = .ok (.invokevirtual 180, 3) := by decide +kernel
theorem dX12_drawn_32 : decode cX12_drawn 32 = .ok (.ireturn, 1) := by decide +kernel
theorem dX12_drawn_33 : decode cX12_drawn 33 = .ok (.aload_n 0, 1) := by decide +kernel
theorem dX12_drawn_34 : decode cX12_drawn 34 = .ok (.aload_n 0, 1) := by decide +kernel
theorem dX12_drawn_35 : decode cX12_drawn 35 = .ok (.getfield 347, 3) := by decide +kernel
theorem dX12_drawn_38 : decode cX12_drawn 38 = .ok (.invokevirtual 427, 3) := by decide +kernel
theorem dX12_drawn_41 : decode cX12_drawn 41 = .ok (.istore_n 3, 1) := by decide +kernel
theorem dX12_drawn_42 : decode cX12_drawn 42 = .ok (.aload_n 0, 1) := by decide +kernel
theorem dX12_drawn_43 : decode cX12_drawn 43 = .ok (.getfield 25, 3) := by decide +kernel
theorem dX12_drawn_46 : decode cX12_drawn 46 = .ok (.iload_n 3, 1) := by decide +kernel
theorem dX12_drawn_47 : decode cX12_drawn 47 = .ok (.iaload, 1) := by decide +kernel
theorem dX12_drawn_48 : decode cX12_drawn 48 = .ok (.ifCond .le 13, 3) := by decide +kernel
theorem dX12_drawn_51 : decode cX12_drawn 51 = .ok (.aload_n 0, 1) := by decide +kernel
theorem dX12_drawn_52 : decode cX12_drawn 52 = .ok (.iload_n 1, 1) := by decide +kernel
theorem dX12_drawn_53 : decode cX12_drawn 53 = .ok (.iconst 1, 1) := by decide +kernel
theorem dX12_drawn_54 : decode cX12_drawn 54 = .ok (.isub, 1) := by decide +kernel
theorem dX12_drawn_55 : decode cX12_drawn 55 = .ok (.invokevirtual 430, 3) := by decide +kernel
theorem dX12_drawn_58 : decode cX12_drawn 58 = .ok (.goto 4, 3) := by decide +kernel
theorem dX12_drawn_61 : decode cX12_drawn 61 = .ok (.iconst 0, 1) := by decide +kernel
theorem dX12_drawn_62 : decode cX12_drawn 62 = .ok (.istore 4, 2) := by decide +kernel
theorem dX12_drawn_64 : decode cX12_drawn 64 = .ok (.aload_n 0, 1) := by decide +kernel
theorem dX12_drawn_65 : decode cX12_drawn 65 = .ok (.getfield 25, 3) := by decide +kernel
theorem dX12_drawn_68 : decode cX12_drawn 68 = .ok (.iload_n 3, 1) := by decide +kernel
theorem dX12_drawn_69 : decode cX12_drawn 69 = .ok (.iaload, 1) := by decide +kernel
theorem dX12_drawn_70 : decode cX12_drawn 70 = .ok (.iconst 1, 1) := by decide +kernel
theorem dX12_drawn_71 : decode cX12_drawn 71 = .ok (.if_icmp .le 13, 3) := by decide +kernel
theorem dX12_drawn_74 : decode cX12_drawn 74 = .ok (.aload_n 0, 1) := by decide +kernel
theorem dX12_drawn_75 : decode cX12_drawn 75 = .ok (.iload_n 1, 1) := by decide +kernel
theorem dX12_drawn_76 : decode cX12_drawn 76 = .ok (.iconst 1, 1) := by decide +kernel
theorem dX12_drawn_77 : decode cX12_drawn 77 = .ok (.isub, 1) := by decide +kernel
theorem dX12_drawn_78 : decode cX12_drawn 78 = .ok (.invokevirtual 430, 3) := by decide +kernel
theorem dX12_drawn_81 : decode cX12_drawn 81 = .ok (.goto 4, 3) := by decide +kernel
theorem dX12_drawn_84 : decode cX12_drawn 84 = .ok (.iconst 0, 1) := by decide +kernel
theorem dX12_drawn_85 : decode cX12_drawn 85 = .ok (.istore 5, 2) := by decide +kernel
theorem dX12_drawn_87 : decode cX12_drawn 87 = .ok (.aload_n 0, 1) := by decide +kernel
theorem dX12_drawn_88 : decode cX12_drawn 88 = .ok (.getfield 25, 3) := by decide +kernel
theorem dX12_drawn_91 : decode cX12_drawn 91 = .ok (.iload_n 3, 1) := by decide +kernel
theorem dX12_drawn_92 : decode cX12_drawn 92 = .ok (.iaload, 1) := by decide +kernel
theorem dX12_drawn_93 : decode cX12_drawn 93 = .ok (.iconst 2, 1) := by decide +kernel
theorem dX12_drawn_94 : decode cX12_drawn 94 = .ok (.if_icmp .le 13, 3) := by decide +kernel
theorem dX12_drawn_97 : decode cX12_drawn 97 = .ok (.aload_n 0, 1) := by decide +kernel
theorem dX12_drawn_98 : decode cX12_drawn 98 = .ok (.iload_n 1, 1) := by decide +kernel
theorem dX12_drawn_99 : decode cX12_drawn 99 = .ok (.iconst 1, 1) := by decide +kernel
theorem dX12_drawn_100 : decode cX12_drawn 100 = .ok (.isub, 1) := by decide +kernel
theorem dX12_drawn_101 : decode cX12_drawn 101 = .ok (.invokevirtual 430, 3) := by decide +kernel
theorem dX12_drawn_104 : decode cX12_drawn 104 = .ok (.goto 4, 3) := by decide +kernel
theorem dX12_drawn_107 : decode cX12_drawn 107 = .ok (.iconst 0, 1) := by decide +kernel
theorem dX12_drawn_108 : decode cX12_drawn 108 = .ok (.istore 6, 2) := by decide +kernel
theorem dX12_drawn_110 : decode cX12_drawn 110 = .ok (.aload_n 0, 1) := by decide +kernel
theorem dX12_drawn_111 : decode cX12_drawn 111 = .ok (.iload_n 3, 1) := by decide +kernel
theorem dX12_drawn_112 : decode cX12_drawn 112 = .ok (.iload 4, 2) := by decide +kernel
theorem dX12_drawn_114 : decode cX12_drawn 114 = .ok (.iload 5, 2) := by decide +kernel
theorem dX12_drawn_116 : decode cX12_drawn 116 = .ok (.iload 6, 2) := by decide +kernel
theorem dX12_drawn_118 : decode cX12_drawn 118 = .ok (.invokevirtual 107, 3) := by decide +kernel
theorem dX12_drawn_121 : decode cX12_drawn 121 = .ok (.ireturn, 1) := by decide +kernel
theorem dX12_draw_0 : decode cX12_draw 0 = .ok (.aload_n 0, 1) := by decide +kernel
theorem dX12_draw_1 : decode cX12_draw 1 = .ok (.iconst 0, 1) := by decide +kernel
theorem dX12_draw_2 : decode cX12_draw 2 = .ok (.putfield 68, 3) := by decide +kernel
theorem dX12_draw_5 : decode cX12_draw 5 = .ok (.iload_n 2, 1) := by decide +kernel
theorem dX12_draw_6 : decode cX12_draw 6 = .ok (.iconst 1, 1) := by decide +kernel
theorem dX12_draw_7 : decode cX12_draw 7 = .ok (.iconst 4, 1) := by decide +kernel
theorem dX12_draw_8 : decode cX12_draw 8 = .ok (.invokestatic 283, 3) := by decide +kernel
theorem dX12_draw_11 : decode cX12_draw 11 = .ok (.ifCond .ne 10, 3) := by decide +kernel
theorem dX12_draw_14 : decode cX12_draw 14 = .ok (.aload_n 0, 1) := by decide +kernel
theorem dX12_draw_15 : decode cX12_draw 15 = .ok (.iconst 1, 1) := by decide +kernel
theorem dX12_draw_16 : decode cX12_draw 16 = .ok (.iconst (-1), 1) := by decide +kernel
theorem dX12_draw_17 : decode cX12_draw 17 = .ok (.invokevirtual 391, 3) := by decide +kernel
theorem dX12_draw_20 : decode cX12_draw 20 = .ok (.ireturn, 1) := by decide +kernel
theorem dX12_draw_21 : decode cX12_draw 21 = .ok (.aload_n 0, 1) := by decide +kernel
theorem dX12_draw_22 : decode cX12_draw 22 = .ok (.invokevirtual 400, 3) := by decide +kernel
theorem dX12_draw_25 : decode cX12_draw 25 = .ok (.aload_n 0, 1) := by decide +kernel
theorem dX12_draw_26 : decode cX12_draw 26 = .ok (.iload_n 1, 1) := by decide +kernel
theorem dX12_draw_27 : decode cX12_draw 27 = .ok (.putfield 423, 3) := by decide +kernel
theorem dX12_draw_30 : decode cX12_draw 30 = .ok (.aload_n 0, 1) := by decide +kernel
theorem dX12_draw_31 : decode cX12_draw 31 = .ok (.aload_n 0, 1) := by decide +kernel
theorem dX12_draw_32 : decode cX12_draw 32 = .ok (.iload_n 2, 1) := by decide +kernel
theorem dX12_draw_33 : decode cX12_draw 33 = .ok (.invokevirtual 430, 3) := by decide +kernel
theorem dX12_draw_36 : decode cX12_draw 36 = .ok (.invokevirtual 403, 3) := by decide +kernel
theorem dX12_draw_39 : decode cX12_draw 39 = .ok (.ireturn, 1) := by decide +kernel
theorem dX12_undo_0 : decode cX12_undo 0 = .ok (.aload_n 0, 1) := by decide +kernel
theorem dX12_undo_1 : decode cX12_undo 1 = .ok (.iconst 0, 1) := by decide +kernel
theorem dX12_undo_2 : decode cX12_undo 2 = .ok (.putfield 68, 3) := by decide +kernel
theorem dX12_undo_5 : decode cX12_undo 5 = .ok (.aload_n 0, 1) := by decide +kernel
theorem dX12_undo_6 : decode cX12_undo 6 = .ok (.getfield 356, 3) := by decide +kernel
theorem dX12_undo_9 : decode cX12_undo 9 = .ok (.ifCond .ne 5, 3) := by decide +kernel
theorem dX12_undo_12 : decode cX12_undo 12 = .ok (.iconst (-1), 1) := by decide +kernel
theorem dX12_undo_13 : decode cX12_undo 13 = .ok (.ireturn, 1) := by decide +kernel
theorem dX12_undo_14 : decode cX12_undo 14 = .ok (.aload_n 0, 1) := by decide +kernel
theorem dX12_undo_15 : decode cX12_undo 15 = .ok (.dup, 1) := by decide +kernel
theorem dX12_undo_16 : decode cX12_undo 16 = .ok (.getfield 356, 3) := by decide +kernel
theorem dX12_undo_19 : decode cX12_undo 19 = .ok (.iconst 1, 1) := by decide +kernel
theorem dX12_undo_20 : decode cX12_undo 20 = .ok (.isub, 1) := by decide +kernel
theorem dX12_undo_21 : decode cX12_undo 21 = .ok (.putfield 356, 3) := by decide +kernel
theorem dX12_undo_24 : decode cX12_undo 24 = .ok (.aload_n 0, 1) := by decide +kernel
theorem dX12_undo_25 : decode cX12_undo 25 = .ok (.aload_n 0, 1) := by decide +kernel
theorem dX12_undo_26 : decode cX12_undo 26 = .ok (.getfield 353, 3) := by decide +kernel
theorem dX12_undo_29 : decode cX12_undo 29 = .ok (.aload_n 0, 1) := by decide +kernel
theorem dX12_undo_30 : decode cX12_undo 30 = .ok (.getfield 356, 3) := by decide +kernel
theorem dX12_undo_33 : decode cX12_undo 33 = .ok (.invokestatic 397, 3) := by decide +kernel
theorem dX12_undo_36 : decode cX12_undo 36 = .ok (.iconst 0, 1) := by decide +kernel
theorem dX12_undo_37 : decode cX12_undo 37 = .ok (.bipush 63, 2) := by decide +kernel
theorem dX12_undo_39 : decode cX12_undo 39 = .ok (.invokevirtual 343, 3) := by decide +kernel
theorem dX12_undo_42 : decode cX12_undo 42 = .ok (.aload_n 0, 1) := by decide +kernel
theorem dX12_undo_43 : decode cX12_undo 43 = .ok (.getfield 356, 3) := by decide +kernel
theorem dX12_undo_46 : decode cX12_undo 46 = .ok (.ireturn, 1) := by decide +kernel
theorem dX12_years_0 : decode cX12_years 0 = .ok (.aload_n 0, 1) := by decide +kernel
theorem dX12_years_1 : decode cX12_years 1 = .ok (.iconst 0, 1) := by decide +kernel
theorem dX12_years_2 : decode cX12_years 2 = .ok (.putfield 68, 3) := by decide +kernel
theorem dX12_years_5 : decode cX12_years 5 = .ok (.aload_n 0, 1) := by decide +kernel
theorem dX12_years_6 : decode cX12_years 6 = .ok (.iload_n 3, 1) := by decide +kernel
theorem dX12_years_7 : decode cX12_years 7 = .ok (.iconst 0, 1) := by decide +kernel
theorem dX12_years_8 : decode cX12_years 8 = .ok (.iconst 2, 1) := by decide +kernel
theorem dX12_years_9 : decode cX12_years 9 = .ok (.invokestatic 283, 3) := by decide +kernel
theorem dX12_years_12 : decode cX12_years 12 = .ok (.iconst 1, 1) := by decide +kernel
theorem dX12_years_13 : decode cX12_years 13 = .ok (.invokevirtual 334, 3) := by decide +kernel
theorem dX12_years_16 : decode cX12_years 16 = .ok (.ifCond .eq 18, 3) := by decide +kernel
theorem dX12_years_19 : decode cX12_years 19 = .ok (.aload_n 0, 1) := by decide +kernel
theorem dX12_years_20 : decode cX12_years 20 = .ok (.iload_n 2, 1) := by decide +kernel
theorem dX12_years_21 : decode cX12_years 21 = .ok (.iconst 0, 1) := by decide +kernel
theorem dX12_years_22 : decode cX12_years 22 = .ok (.bipush 20, 2) := by decide +kernel
theorem dX12_years_24 : decode cX12_years 24 = .ok (.invokestatic 283, 3) := by decide +kernel
theorem dX12_years_27 : decode cX12_years 27 = .ok (.iconst 2, 1) := by decide +kernel
theorem dX12_years_28 : decode cX12_years 28 = .ok (.invokevirtual 334, 3) := by decide +kernel
theorem dX12_years_31 : decode cX12_years 31 = .ok (.ifCond .ne 5, 3) := by decide +kernel
theorem dX12_years_34 : decode cX12_years 34 = .ok (.iconst 0, 1) := by decide +kernel
theorem dX12_years_35 : decode cX12_years 35 = .ok (.ireturn, 1) := by decide +kernel
theorem dX12_years_36 : decode cX12_years 36 = .ok (.aload_n 0, 1) := by decide +kernel
theorem dX12_years_37 : decode cX12_years 37 = .ok (.invokevirtual 400, 3) := by decide +kernel
theorem dX12_years_40 : decode cX12_years 40 = .ok (.aload_n 0, 1) := by decide +kernel
theorem dX12_years_41 : decode cX12_years 41 = .ok (.iload_n 1, 1) := by decide +kernel
theorem dX12_years_42 : decode cX12_years 42 = .ok (.putfield 423, 3) := by decide +kernel
theorem dX12_years_45 : decode cX12_years 45 = .ok (.iconst 0, 1) := by decide +kernel
theorem dX12_years_46 : decode cX12_years 46 = .ok (.istore 4, 2) := by decide +kernel
theorem dX12_years_48 : decode cX12_years 48 = .ok (.iconst 1, 1) := by decide +kernel
theorem dX12_years_49 : decode cX12_years 49 = .ok (.istore 5, 2) := by decide +kernel
theorem dX12_years_51 : decode cX12_years 51 = .ok (.iconst 0, 1) := by decide +kernel
theorem dX12_years_52 : decode cX12_years 52 = .ok (.istore 6, 2) := by decide +kernel
theorem dX12_years_54 : decode cX12_years 54 = .ok (.iload 6, 2) := by decide +kernel
theorem dX12_years_56 : decode cX12_years 56 = .ok (.iload_n 2, 1) := by decide +kernel
theorem dX12_years_57 : decode cX12_years 57 = .ok (.if_icmp .ge 77, 3) := by decide +kernel
theorem dX12_years_60 : decode cX12_years 60 = .ok (.iload 5, 2) := by decide +kernel
theorem dX12_years_62 : decode cX12_years 62 = .ok (.ifCond .eq 72, 3) := by decide +kernel
theorem dX12_years_65 : decode cX12_years 65 = .ok (.aload_n 0, 1) := by decide +kernel
theorem dX12_years_66 : decode cX12_years 66 = .ok (.iconst 3, 1) := by decide +kernel
theorem dX12_years_67 : decode cX12_years 67 = .ok (.invokevirtual 430, 3) := by decide +kernel
theorem dX12_years_70 : decode cX12_years 70 = .ok (.istore 7, 2) := by decide +kernel
theorem dX12_years_72 : decode cX12_years 72 = .ok (.aload_n 0, 1) := by decide +kernel
theorem dX12_years_73 : decode cX12_years 73 = .ok (.getfield 92, 3) := by decide +kernel
theorem dX12_years_76 : decode cX12_years 76 = .ok (.ifCond .eq 7, 3) := by decide +kernel
theorem dX12_years_79 : decode cX12_years 79 = .ok (.iconst 0, 1) := by decide +kernel
theorem dX12_years_80 : decode cX12_years 80 = .ok (.goto 9, 3) := by decide +kernel
theorem dX12_years_83 : decode cX12_years 83 = .ok (.aload_n 0, 1) := by decide +kernel
theorem dX12_years_84 : decode cX12_years 84 = .ok (.iload 7, 2) := by decide +kernel
theorem dX12_years_86 : decode cX12_years 86 = .ok (.invokevirtual 221, 3) := by decide +kernel
theorem dX12_years_89 : decode cX12_years 89 = .ok (.istore 8, 2) := by decide +kernel
theorem dX12_years_91 : decode cX12_years 91 = .ok (.aload_n 0, 1) := by decide +kernel
theorem dX12_years_92 : decode cX12_years 92 = .ok (.invokevirtual 211, 3) := by decide +kernel
theorem dX12_years_95 : decode cX12_years 95 = .ok (.ifCond .ne 7, 3) := by decide +kernel
theorem dX12_years_98 : decode cX12_years 98 = .ok (.iconst 1, 1) := by decide +kernel
theorem dX12_years_99 : decode cX12_years 99 = .ok (.goto 4, 3) := by decide +kernel
theorem dX12_years_102 : decode cX12_years 102 = .ok (.iconst 0, 1) := by decide +kernel
theorem dX12_years_103 : decode cX12_years 103 = .ok (.istore 5, 2) := by decide +kernel
theorem dX12_years_105 : decode cX12_years 105 = .ok (.iload 5, 2) := by decide +kernel
theorem dX12_years_107 : decode cX12_years 107 = .ok (.ifCond .eq 21, 3) := by decide +kernel
theorem dX12_years_110 : decode cX12_years 110 = .ok (.iload 4, 2) := by decide +kernel
theorem dX12_years_112 : decode cX12_years 112 = .ok (.aload_n 0, 1) := by decide +kernel
theorem dX12_years_113 : decode cX12_years 113 = .ok (.iload 7, 2) := by decide +kernel
theorem dX12_years_115 : decode cX12_years 115 = .ok (.invokevirtual 120, 3) := by decide +kernel
theorem dX12_years_118 : decode cX12_years 118 = .ok (.aload_n 0, 1) := by decide +kernel
theorem dX12_years_119 : decode cX12_years 119 = .ok (.iload 8, 2) := by decide +kernel
theorem dX12_years_121 : decode cX12_years 121 = .ok (.invokevirtual 120, 3) := by decide +kernel
theorem dX12_years_124 : decode cX12_years 124 = .ok (.isub, 1) := by decide +kernel
theorem dX12_years_125 : decode cX12_years 125 = .ok (.iadd, 1) := by decide +kernel
theorem dX12_years_126 : decode cX12_years 126 = .ok (.istore 4, 2) := by decide +kernel
theorem dX12_years_128 : decode cX12_years 128 = .ok (.iinc 6 1, 3) := by decide +kernel
theorem dX12_years_131 : decode cX12_years 131 = .ok (.goto (-77), 3) := by decide +kernel
theorem dX12_years_134 : decode cX12_years 134 = .ok (.iload_n 3, 1) := by decide +kernel
theorem dX12_years_135 : decode cX12_years 135 = .ok (.ifCond .ne 8, 3) := by decide +kernel
theorem dX12_years_138 : decode cX12_years 138 = .ok (.iload 4, 2) := by decide +kernel
theorem dX12_years_140 : decode cX12_years 140 = .ok (.goto 41, 3) := by decide +kernel
theorem dX12_years_143 : decode cX12_years 143 = .ok (.iload_n 3, 1) := by decide +kernel
theorem dX12_years_144 : decode cX12_years 144 = .ok (.iconst 1, 1) := by decide +kernel
theorem dX12_years_145 : decode cX12_years 145 = .ok (.if_icmp .ne 21, 3) := by decide +kernel
theorem dX12_years_148 : decode cX12_years 148 = .ok (.aload_n 0, 1) := by decide +kernel
theorem dX12_years_149 : decode cX12_years 149 = .ok (.getfield 9, 3) := by decide +kernel
theorem dX12_years_152 : decode cX12_years 152 = .ok (.bipush 61, 2) := by decide +kernel
theorem dX12_years_154 : decode cX12_years 154 = .ok (.iaload, 1) := by decide +kernel
theorem dX12_years_155 : decode cX12_years 155 = .ok (.aload_n 0, 1) := by decide +kernel
theorem dX12_years_156 : decode cX12_years 156 = .ok (.getfield 9, 3) := by decide +kernel
theorem dX12_years_159 : decode cX12_years 159 = .ok (.bipush 124, 2) := by decide +kernel
theorem dX12_years_161 : decode cX12_years 161 = .ok (.iaload, 1) := by decide +kernel
theorem dX12_years_162 : decode cX12_years 162 = .ok (.isub, 1) := by decide +kernel
theorem dX12_years_163 : decode cX12_years 163 = .ok (.goto 18, 3) := by decide +kernel
theorem dX12_years_166 : decode cX12_years 166 = .ok (.aload_n 0, 1) := by decide +kernel
theorem dX12_years_167 : decode cX12_years 167 = .ok (.getfield 9, 3) := by decide +kernel
theorem dX12_years_170 : decode cX12_years 170 = .ok (.bipush 62, 2) := by decide +kernel
theorem dX12_years_172 : decode cX12_years 172 = .ok (.iaload, 1) := by decide +kernel
theorem dX12_years_173 : decode cX12_years 173 = .ok (.aload_n 0, 1) := by decide +kernel
theorem dX12_years_174 : decode cX12_years 174 = .ok (.getfield 9, 3) := by decide +kernel
theorem dX12_years_177 : decode cX12_years 177 = .ok (.bipush 125, 2) := by decide +kernel
theorem dX12_years_179 : decode cX12_years 179 = .ok (.iaload, 1) := by decide +kernel
theorem dX12_years_180 : decode cX12_years 180 = .ok (.isub, 1) := by decide +kernel
theorem dX12_years_181 : decode cX12_years 181 = .ok (.istore 6, 2) := by decide +kernel
theorem dX12_years_183 : decode cX12_years 183 = .ok (.aload_n 0, 1) := by decide +kernel
theorem dX12_years_184 : decode cX12_years 184 = .ok (.bipush 63, 2) := by decide +kernel
theorem dX12_years_186 : decode cX12_years 186 = .ok (.iconst 0, 1) := by decide +kernel
theorem dX12_years_187 : decode cX12_years 187 = .ok (.bipush 63, 2) := by decide +kernel
theorem dX12_years_189 : decode cX12_years 189 = .ok (.invokevirtual 343, 3) := by decide +kernel
theorem dX12_years_192 : decode cX12_years 192 = .ok (.iload 5, 2) := by decide +kernel
theorem dX12_years_194 : decode cX12_years 194 = .ok (.ifCond .eq 8, 3) := by decide +kernel
theorem dX12_years_197 : decode cX12_years 197 = .ok (.iload 6, 2) := by decide +kernel
theorem dX12_years_199 : decode cX12_years 199 = .ok (.goto 4, 3) := by decide +kernel
theorem dX12_years_202 : decode cX12_years 202 = .ok (.iconst (-1), 1) := by decide +kernel
theorem dX12_years_203 : decode cX12_years 203 = .ok (.ireturn, 1) := by decide +kernel
theorem dX12_image_0 : decode cX12_image 0 = .ok (.aload_n 0, 1) := by decide +kernel
theorem dX12_image_1 : decode cX12_image 1 = .ok (.iconst 0, 1) := by decide +kernel
theorem dX12_image_2 : decode cX12_image 2 = .ok (.putfield 68, 3) := by decide +kernel
theorem dX12_image_5 : decode cX12_image 5 = .ok (.aload_n 0, 1) := by decide +kernel
theorem dX12_image_6 : decode cX12_image 6 = .ok (.iconst 0, 1) := by decide +kernel
theorem dX12_image_7 : decode cX12_image 7 = .ok (.sipush 400, 3) := by decide +kernel
theorem dX12_image_10 : decode cX12_image 10 = .ok (.invokevirtual 340, 3) := by decide +kernel
theorem dX12_image_13 : decode cX12_image 13 = .ok (.aload_n 0, 1) := by decide +kernel
theorem dX12_image_14 : decode cX12_image 14 = .ok (.iconst 0, 1) := by decide +kernel
theorem dX12_image_15 : decode cX12_image 15 = .ok (.sipush 2709, 3) := by decide +kernel
theorem dX12_image_18 : decode cX12_image 18 = .ok (.bipush 63, 2) := by decide +kernel
theorem dX12_image_20 : decode cX12_image 20 = .ok (.invokevirtual 343, 3) := by decide +kernel
theorem dX12_image_23 : decode cX12_image 23 = .ok (.aload_n 0, 1) := by decide +kernel
theorem dX12_image_24 : decode cX12_image 24 = .ok (.sipush 189, 3) := by decide +kernel
theorem dX12_image_27 : decode cX12_image 27 = .ok (.sipush 2772, 3) := by decide +kernel
theorem dX12_image_30 : decode cX12_image 30 = .ok (.sipush 2520, 3) := by decide +kernel
theorem dX12_image_33 : decode cX12_image 33 = .ok (.invokevirtual 343, 3) := by decide +kernel
theorem dX12_image_36 : decode cX12_image 36 = .ok (.aload_n 0, 1) := by decide +kernel
theorem dX12_image_37 : decode cX12_image 37 = .ok (.aload_n 0, 1) := by decide +kernel
theorem dX12_image_38 : decode cX12_image 38 = .ok (.getfield 356, 3) := by decide +kernel
theorem dX12_image_41 : decode cX12_image 41 = .ok (.putfield 433, 3) := by decide +kernel
theorem dX12_image_44 : decode cX12_image 44 = .ok (.aload_n 0, 1) := by decide +kernel
theorem dX12_image_45 : decode cX12_image 45 = .ok (.aload_n 0, 1) := by decide +kernel
theorem dX12_image_46 : decode cX12_image 46 = .ok (.getfield 353, 3) := by decide +kernel
theorem dX12_image_49 : decode cX12_image 49 = .ok (.putfield 436, 3) := by decide +kernel
theorem dX12_image_52 : decode cX12_image 52 = .ok (.iconst 0, 1) := by decide +kernel
theorem dX12_image_53 : decode cX12_image 53 = .ok (.istore_n 1, 1) := by decide +kernel
theorem dX12_image_54 : decode cX12_image 54 = .ok (.iload_n 1, 1) := by decide +kernel
theorem dX12_image_55 : decode cX12_image 55 = .ok (.iconst 4, 1) := by decide +kernel
theorem dX12_image_56 : decode cX12_image 56 = .ok (.if_icmp .ge 23, 3) := by decide +kernel
theorem dX12_image_59 : decode cX12_image 59 = .ok (.aload_n 0, 1) := by decide +kernel
theorem dX12_image_60 : decode cX12_image 60 = .ok (.getfield 31, 3) := by decide +kernel
theorem dX12_image_63 : decode cX12_image 63 = .ok (.iconst 4, 1) := by decide +kernel
theorem dX12_image_64 : decode cX12_image 64 = .ok (.iload_n 1, 1) := by decide +kernel
theorem dX12_image_65 : decode cX12_image 65 = .ok (.iadd, 1) := by decide +kernel
theorem dX12_image_66 : decode cX12_image 66 = .ok (.aload_n 0, 1) := by decide +kernel
theorem dX12_image_67 : decode cX12_image 67 = .ok (.getfield 31, 3) := by decide +kernel
theorem dX12_image_70 : decode cX12_image 70 = .ok (.iload_n 1, 1) := by decide +kernel
theorem dX12_image_71 : decode cX12_image 71 = .ok (.iaload, 1) := by decide +kernel
theorem dX12_image_72 : decode cX12_image 72 = .ok (.iastore, 1) := by decide +kernel
theorem dX12_image_73 : decode cX12_image 73 = .ok (.iinc 1 1, 3) := by decide +kernel
theorem dX12_image_76 : decode cX12_image 76 = .ok (.goto (-22), 3) := by decide +kernel
theorem dX12_image_79 : decode cX12_image 79 = .ok (.aload_n 0, 1) := by decide +kernel
theorem dX12_image_80 : decode cX12_image 80 = .ok (.iconst 1, 1) := by decide +kernel
theorem dX12_image_81 : decode cX12_image 81 = .ok (.putfield 350, 3) := by decide +kernel
theorem dX12_image_84 : decode cX12_image 84 = .ok (.return_, 1) := by decide +kernel
theorem dX12_restore_0 : decode cX12_restore 0 = .ok (.aload_n 0, 1) := by decide +kernel
theorem dX12_restore_1 : decode cX12_restore 1 = .ok (.iconst 0, 1) := by decide +kernel
theorem dX12_restore_2 : decode cX12_restore 2 = .ok (.putfield 68, 3) := by decide +kernel
theorem dX12_restore_5 : decode cX12_restore 5 = .ok (.aload_n 0, 1) := by decide +kernel
theorem dX12_restore_6 : decode cX12_restore 6 = .ok (.getfield 350, 3) := by decide +kernel
theorem dX12_restore_9 : decode cX12_restore 9 = .ok (.ifCond .ne 5, 3) := by decide +kernel
theorem dX12_restore_12 : decode cX12_restore 12 = .ok (.iconst 0, 1) := by decide +kernel
theorem dX12_restore_13 : decode cX12_restore 13 = .ok (.ireturn, 1) := by decide +kernel
theorem dX12_restore_14 : decode cX12_restore 14 = .ok (.aload_n 0, 1) := by decide +kernel
theorem dX12_restore_15 : decode cX12_restore 15 = .ok (.sipush 400, 3) := by decide +kernel
theorem dX12_restore_18 : decode cX12_restore 18 = .ok (.iconst 0, 1) := by decide +kernel
theorem dX12_restore_19 : decode cX12_restore 19 = .ok (.invokevirtual 340, 3) := by decide +kernel
theorem dX12_restore_22 : decode cX12_restore 22 = .ok (.aload_n 0, 1) := by decide +kernel
theorem dX12_restore_23 : decode cX12_restore 23 = .ok (.sipush 2709, 3) := by decide +kernel
theorem dX12_restore_26 : decode cX12_restore 26 = .ok (.iconst 0, 1) := by decide +kernel
theorem dX12_restore_27 : decode cX12_restore 27 = .ok (.bipush 63, 2) := by decide +kernel
theorem dX12_restore_29 : decode cX12_restore 29 = .ok (.invokevirtual 343, 3) := by decide +kernel
theorem dX12_restore_32 : decode cX12_restore 32 = .ok (.aload_n 0, 1) := by decide +kernel
theorem dX12_restore_33 : decode cX12_restore 33 = .ok (.sipush 2772, 3) := by decide +kernel
theorem dX12_restore_36 : decode cX12_restore 36 = .ok (.sipush 189, 3) := by decide +kernel
theorem dX12_restore_39 : decode cX12_restore 39 = .ok (.sipush 2520, 3) := by decide +kernel
theorem dX12_restore_42 : decode cX12_restore 42 = .ok (.invokevirtual 343, 3) := by decide +kernel
theorem dX12_restore_45 : decode cX12_restore 45 = .ok (.aload_n 0, 1) := by decide +kernel
theorem dX12_restore_46 : decode cX12_restore 46 = .ok (.aload_n 0, 1) := by decide +kernel
theorem dX12_restore_47 : decode cX12_restore 47 = .ok (.getfield 433, 3) := by decide +kernel
theorem dX12_restore_50 : decode cX12_restore 50 = .ok (.putfield 356, 3) := by decide +kernel
theorem dX12_restore_53 : decode cX12_restore 53 = .ok (.aload_n 0, 1) := by decide +kernel
theorem dX12_restore_54 : decode cX12_restore 54 = .ok (.aload_n 0, 1) := by decide +kernel
theorem dX12_restore_55 : decode cX12_restore 55 = .ok (.getfield 436, 3) := by decide +kernel
theorem dX12_restore_58 : decode cX12_restore 58 = .ok (.putfield 353, 3) := by decide +kernel
theorem dX12_restore_61 : decode cX12_restore 61 = .ok (.iconst 0, 1) := by decide +kernel
theorem dX12_restore_62 : decode cX12_restore 62 = .ok (.istore_n 1, 1) := by decide +kernel
theorem dX12_restore_63 : decode cX12_restore 63 = .ok (.iload_n 1, 1) := by decide +kernel
theorem dX12_restore_64 : decode cX12_restore 64 = .ok (.iconst 4, 1) := by decide +kernel
theorem dX12_restore_65 : decode cX12_restore 65 = .ok (.if_icmp .ge 23, 3) := by decide +kernel
theorem dX12_restore_68 : decode cX12_restore 68 = .ok (.aload_n 0, 1) := by decide +kernel
theorem dX12_restore_69 : decode cX12_restore 69 = .ok (.getfield 31, 3) := by decide +kernel
theorem dX12_restore_72 : decode cX12_restore 72 = .ok (.iload_n 1, 1) := by decide +kernel
theorem dX12_restore_73 : decode cX12_restore 73 = .ok (.aload_n 0, 1) := by decide +kernel
theorem dX12_restore_74 : decode cX12_restore 74 = .ok (.getfield 31, 3) := by decide +kernel
theorem dX12_restore_77 : decode cX12_restore 77 = .ok (.iconst 4, 1) := by decide +kernel
theorem dX12_restore_78 : decode cX12_restore 78 = .ok (.iload_n 1, 1) := by decide +kernel
theorem dX12_restore_79 : decode cX12_restore 79 = .ok (.iadd, 1) := by decide +kernel
theorem dX12_restore_80 : decode cX12_restore 80 = .ok (.iaload, 1) := by decide +kernel
theorem dX12_restore_81 : decode cX12_restore 81 = .ok (.iastore, 1) := by decide +kernel
theorem dX12_restore_82 : decode cX12_restore 82 = .ok (.iinc 1 1, 3) := by decide +kernel
theorem dX12_restore_85 : decode cX12_restore 85 = .ok (.goto (-22), 3) := by decide +kernel
theorem dX12_restore_88 : decode cX12_restore 88 = .ok (.iconst 1, 1) := by decide +kernel
theorem dX12_restore_89 : decode cX12_restore 89 = .ok (.ireturn, 1) := by decide +kernel
theorem dJ0_length_8abf5_0 : decode cJ0_length_8abf5 0 = .ok (.aload_n 0, 1) := by decide +kernel
theorem dJ0_length_8abf5_1 : decode cJ0_length_8abf5 1 = .ok (.getfield 9, 3) := by decide +kernel
theorem dJ0_length_8abf5_4 : decode cJ0_length_8abf5 4 = .ok (.arraylength, 1) := by decide +kernel
theorem dJ0_length_8abf5_5 : decode cJ0_length_8abf5 5 = .ok (.aload_n 0, 1) := by decide +kernel
theorem dJ0_length_8abf5_6 : decode cJ0_length_8abf5 6 = .ok (.invokevirtual 335, 3) := by decide +kernel
theorem dJ0_length_8abf5_9 : decode cJ0_length_8abf5 9 = .ok (.ishr, 1) := by decide +kernel
theorem dJ0_length_8abf5_10 : decode cJ0_length_8abf5 10 = .ok (.ireturn, 1) := by decide +kernel
theorem dJ0_charAt_5068e_0 : decode cJ0_charAt_5068e 0 = .ok (.aload_n 0, 1) := by decide +kernel
theorem dJ0_charAt_5068e_1 : decode cJ0_charAt_5068e 1 = .ok (.invokevirtual 492, 3) := by decide +kernel
theorem dJ0_charAt_5068e_4 : decode cJ0_charAt_5068e 4 = .ok (.ifCond .eq 12, 3) := by decide +kernel
theorem dJ0_charAt_5068e_7 : decode cJ0_charAt_5068e 7 = .ok (.aload_n 0, 1) := by decide +kernel
theorem dJ0_charAt_5068e_8 : decode cJ0_charAt_5068e 8 = .ok (.getfield 9, 3) := by decide +kernel
theorem dJ0_charAt_5068e_11 : decode cJ0_charAt_5068e 11 = .ok (.iload_n 1, 1) := by decide +kernel
theorem dJ0_charAt_5068e_12 : decode cJ0_charAt_5068e 12 = .ok (.invokestatic 495, 3) := by decide +kernel
theorem dJ0_charAt_5068e_15 : decode cJ0_charAt_5068e 15 = .ok (.ireturn, 1) := by decide +kernel
theorem dJ0_coder_7d493_0 : decode cJ0_coder_7d493 0 = .ok (.getstatic 38, 3) := by decide +kernel
theorem dJ0_coder_7d493_3 : decode cJ0_coder_7d493 3 = .ok (.ifCond .eq 10, 3) := by decide +kernel
theorem dJ0_coder_7d493_6 : decode cJ0_coder_7d493 6 = .ok (.aload_n 0, 1) := by decide +kernel
theorem dJ0_coder_7d493_7 : decode cJ0_coder_7d493 7 = .ok (.getfield 15, 3) := by decide +kernel
theorem dJ0_coder_7d493_10 : decode cJ0_coder_7d493 10 = .ok (.goto 4, 3) := by decide +kernel
theorem dJ0_coder_7d493_14 : decode cJ0_coder_7d493 14 = .ok (.ireturn, 1) := by decide +kernel
theorem dJ0_isLatin1_aae02_0 : decode cJ0_isLatin1_aae02 0 = .ok (.getstatic 38, 3) := by decide +kernel
theorem dJ0_isLatin1_aae02_3 : decode cJ0_isLatin1_aae02 3 = .ok (.ifCond .eq 14, 3) := by decide +kernel
theorem dJ0_isLatin1_aae02_6 : decode cJ0_isLatin1_aae02 6 = .ok (.aload_n 0, 1) := by decide +kernel
theorem dJ0_isLatin1_aae02_7 : decode cJ0_isLatin1_aae02 7 = .ok (.getfield 15, 3) := by decide +kernel
theorem dJ0_isLatin1_aae02_10 : decode cJ0_isLatin1_aae02 10 = .ok (.ifCond .ne 7, 3) := by decide +kernel
theorem dJ0_isLatin1_aae02_13 : decode cJ0_isLatin1_aae02 13 = .ok (.iconst 1, 1) := by decide +kernel
theorem dJ0_isLatin1_aae02_14 : decode cJ0_isLatin1_aae02 14 = .ok (.goto 4, 3) := by decide +kernel
theorem dJ0_isLatin1_aae02_18 : decode cJ0_isLatin1_aae02 18 = .ok (.ireturn, 1) := by decide +kernel
theorem dJ0_checkIndex_df160_0 : decode cJ0_checkIndex_df160 0 = .ok (.iload_n 0, 1) := by decide +kernel
theorem dJ0_checkIndex_df160_1 : decode cJ0_checkIndex_df160 1 = .ok (.iload_n 1, 1) := by decide +kernel
theorem dJ0_checkIndex_df160_2 : decode cJ0_checkIndex_df160 2 = .ok (.getstatic 1053, 3) := by decide +kernel
theorem dJ0_checkIndex_df160_5 : decode cJ0_checkIndex_df160 5 = .ok (.invokestatic 1059, 3) := by decide +kernel
theorem dJ0_checkIndex_df160_8 : decode cJ0_checkIndex_df160 8 = .ok (.pop, 1) := by decide +kernel
theorem dJ0_checkIndex_df160_9 : decode cJ0_checkIndex_df160 9 = .ok (.return_, 1) := by decide +kernel
theorem dJ1_charAt_3b067_0 : decode cJ1_charAt_3b067 0 = .ok (.iload_n 1, 1) := by decide +kernel
theorem dJ1_charAt_3b067_1 : decode cJ1_charAt_3b067 1 = .ok (.aload_n 0, 1) := by decide +kernel
theorem dJ1_charAt_3b067_2 : decode cJ1_charAt_3b067 2 = .ok (.arraylength, 1) := by decide +kernel
theorem dJ1_charAt_3b067_3 : decode cJ1_charAt_3b067 3 = .ok (.invokestatic 9, 3) := by decide +kernel
theorem dJ1_charAt_3b067_6 : decode cJ1_charAt_3b067 6 = .ok (.aload_n 0, 1) := by decide +kernel
theorem dJ1_charAt_3b067_7 : decode cJ1_charAt_3b067 7 = .ok (.iload_n 1, 1) := by decide +kernel
theorem dJ1_charAt_3b067_8 : decode cJ1_charAt_3b067 8 = .ok (.baload, 1) := by decide +kernel
theorem dJ1_charAt_3b067_9 : decode cJ1_charAt_3b067 9 = .ok (.sipush 255, 3) := by decide +kernel
theorem dJ1_charAt_3b067_12 : decode cJ1_charAt_3b067 12 = .ok (.iand, 1) := by decide +kernel
theorem dJ1_charAt_3b067_13 : decode cJ1_charAt_3b067 13 = .ok (.i2c, 1) := by decide +kernel
theorem dJ1_charAt_3b067_14 : decode cJ1_charAt_3b067 14 = .ok (.ireturn, 1) := by decide +kernel
theorem dJ7_fill_53178_0 : decode cJ7_fill_53178 0 = .ok (.iconst 0, 1) := by decide +kernel
theorem dJ7_fill_53178_1 : decode cJ7_fill_53178 1 = .ok (.istore_n 2, 1) := by decide +kernel
theorem dJ7_fill_53178_2 : decode cJ7_fill_53178 2 = .ok (.aload_n 0, 1) := by decide +kernel
theorem dJ7_fill_53178_3 : decode cJ7_fill_53178 3 = .ok (.arraylength, 1) := by decide +kernel
theorem dJ7_fill_53178_4 : decode cJ7_fill_53178 4 = .ok (.istore_n 3, 1) := by decide +kernel
theorem dJ7_fill_53178_5 : decode cJ7_fill_53178 5 = .ok (.iload_n 2, 1) := by decide +kernel
theorem dJ7_fill_53178_6 : decode cJ7_fill_53178 6 = .ok (.iload_n 3, 1) := by decide +kernel
theorem dJ7_fill_53178_7 : decode cJ7_fill_53178 7 = .ok (.if_icmp .ge 13, 3) := by decide +kernel
theorem dJ7_fill_53178_10 : decode cJ7_fill_53178 10 = .ok (.aload_n 0, 1) := by decide +kernel
theorem dJ7_fill_53178_11 : decode cJ7_fill_53178 11 = .ok (.iload_n 2, 1) := by decide +kernel
theorem dJ7_fill_53178_12 : decode cJ7_fill_53178 12 = .ok (.iload_n 1, 1) := by decide +kernel
theorem dJ7_fill_53178_13 : decode cJ7_fill_53178 13 = .ok (.iastore, 1) := by decide +kernel
theorem dJ7_fill_53178_14 : decode cJ7_fill_53178 14 = .ok (.iinc 2 1, 3) := by decide +kernel
theorem dJ7_fill_53178_17 : decode cJ7_fill_53178 17 = .ok (.goto (-12), 3) := by decide +kernel
theorem dJ7_fill_53178_20 : decode cJ7_fill_53178 20 = .ok (.return_, 1) := by decide +kernel
theorem dJ3_checkIndex_8e157_0 : decode cJ3_checkIndex_8e157 0 = .ok (.iload_n 0, 1) := by decide +kernel
theorem dJ3_checkIndex_8e157_1 : decode cJ3_checkIndex_8e157 1 = .ok (.ifCond .lt 8, 3) := by decide +kernel
theorem dJ3_checkIndex_8e157_4 : decode cJ3_checkIndex_8e157 4 = .ok (.iload_n 0, 1) := by decide +kernel
theorem dJ3_checkIndex_8e157_5 : decode cJ3_checkIndex_8e157 5 = .ok (.iload_n 1, 1) := by decide +kernel
theorem dJ3_checkIndex_8e157_6 : decode cJ3_checkIndex_8e157 6 = .ok (.if_icmp .lt 10, 3) := by decide +kernel
theorem dJ3_checkIndex_8e157_16 : decode cJ3_checkIndex_8e157 16 = .ok (.iload_n 0, 1) := by decide +kernel
theorem dJ3_checkIndex_8e157_17 : decode cJ3_checkIndex_8e157 17 = .ok (.ireturn, 1) := by decide +kernel
end
section
theorem dL_bank_0 : decode cL_bank 0 = .ok (.aload_n 2, 1) := by decide +kernel
theorem dL_bank_1 : decode cL_bank 1 = .ok (.iconst 0, 1) := by decide +kernel
theorem dL_bank_2 : decode cL_bank 2 = .ok (.aload_n 0, 1) := by decide +kernel
theorem dL_bank_3 : decode cL_bank 3 = .ok (.iload_n 1, 1) := by decide +kernel
theorem dL_bank_4 : decode cL_bank 4 = .ok (.invokevirtual 7, 3) := by decide +kernel
theorem dL_bank_7 : decode cL_bank 7 = .ok (.i2l, 1) := by decide +kernel
theorem dL_bank_8 : decode cL_bank 8 = .ok (.lastore, 1) := by decide +kernel
theorem dL_bank_9 : decode cL_bank 9 = .ok (.goto 6, 3) := by decide +kernel
theorem dL_bank_12 : decode cL_bank 12 = .ok (.astore_n 3, 1) := by decide +kernel
theorem dL_bank_13 : decode cL_bank 13 = .ok (.iconst 1, 1) := by decide +kernel
theorem dL_bank_14 : decode cL_bank 14 = .ok (.ireturn, 1) := by decide +kernel
theorem dL_bank_15 : decode cL_bank 15 = .ok (.iconst 0, 1) := by decide +kernel
theorem dL_bank_16 : decode cL_bank 16 = .ok (.ireturn, 1) := by decide +kernel
theorem dL_count_0 : decode cL_count 0 = .ok (.aload_n 2, 1) := by decide +kernel
theorem dL_count_1 : decode cL_count 1 = .ok (.iconst 0, 1) := by decide +kernel
theorem dL_count_2 : decode cL_count 2 = .ok (.aload_n 0, 1) := by decide +kernel
theorem dL_count_3 : decode cL_count 3 = .ok (.iload_n 1, 1) := by decide +kernel
theorem dL_count_4 : decode cL_count 4 = .ok (.invokevirtual 15, 3) := by decide +kernel
theorem dL_count_7 : decode cL_count 7 = .ok (.i2l, 1) := by decide +kernel
theorem dL_count_8 : decode cL_count 8 = .ok (.lastore, 1) := by decide +kernel
theorem dL_count_9 : decode cL_count 9 = .ok (.goto 6, 3) := by decide +kernel
theorem dL_count_12 : decode cL_count 12 = .ok (.astore_n 3, 1) := by decide +kernel
theorem dL_count_13 : decode cL_count 13 = .ok (.iconst 1, 1) := by decide +kernel
theorem dL_count_14 : decode cL_count 14 = .ok (.ireturn, 1) := by decide +kernel
theorem dL_count_15 : decode cL_count 15 = .ok (.iconst 0, 1) := by decide +kernel
theorem dL_count_16 : decode cL_count 16 = .ok (.ireturn, 1) := by decide +kernel
theorem dL_symbol_0 : decode cL_symbol 0 = .ok (.aload_n 3, 1) := by decide +kernel
theorem dL_symbol_1 : decode cL_symbol 1 = .ok (.iconst 0, 1) := by decide +kernel
theorem dL_symbol_2 : decode cL_symbol 2 = .ok (.aload_n 0, 1) := by decide +kernel
theorem dL_symbol_3 : decode cL_symbol 3 = .ok (.iload_n 1, 1) := by decide +kernel
theorem dL_symbol_4 : decode cL_symbol 4 = .ok (.iload_n 2, 1) := by decide +kernel
theorem dL_symbol_5 : decode cL_symbol 5 = .ok (.invokevirtual 20, 3) := by decide +kernel
theorem dL_symbol_8 : decode cL_symbol 8 = .ok (.i2l, 1) := by decide +kernel
theorem dL_symbol_9 : decode cL_symbol 9 = .ok (.lastore, 1) := by decide +kernel
theorem dL_symbol_10 : decode cL_symbol 10 = .ok (.goto 7, 3) := by decide +kernel
theorem dL_symbol_13 : decode cL_symbol 13 = .ok (.astore 4, 2) := by decide +kernel
theorem dL_symbol_15 : decode cL_symbol 15 = .ok (.iconst 1, 1) := by decide +kernel
theorem dL_symbol_16 : decode cL_symbol 16 = .ok (.ireturn, 1) := by decide +kernel
theorem dL_symbol_17 : decode cL_symbol 17 = .ok (.iconst 0, 1) := by decide +kernel
theorem dL_symbol_18 : decode cL_symbol 18 = .ok (.ireturn, 1) := by decide +kernel
theorem dL_term_0 : decode cL_term 0 = .ok (.aload_n 3, 1) := by decide +kernel
theorem dL_term_1 : decode cL_term 1 = .ok (.iconst 0, 1) := by decide +kernel
theorem dL_term_2 : decode cL_term 2 = .ok (.aload_n 0, 1) := by decide +kernel
theorem dL_term_3 : decode cL_term 3 = .ok (.iload_n 1, 1) := by decide +kernel
theorem dL_term_4 : decode cL_term 4 = .ok (.iload_n 2, 1) := by decide +kernel
theorem dL_term_5 : decode cL_term 5 = .ok (.invokevirtual 24, 3) := by decide +kernel
theorem dL_term_8 : decode cL_term 8 = .ok (.i2l, 1) := by decide +kernel
theorem dL_term_9 : decode cL_term 9 = .ok (.lastore, 1) := by decide +kernel
theorem dL_term_10 : decode cL_term 10 = .ok (.goto 7, 3) := by decide +kernel
theorem dL_term_13 : decode cL_term 13 = .ok (.astore 4, 2) := by decide +kernel
theorem dL_term_15 : decode cL_term 15 = .ok (.iconst 1, 1) := by decide +kernel
theorem dL_term_16 : decode cL_term 16 = .ok (.ireturn, 1) := by decide +kernel
theorem dL_term_17 : decode cL_term 17 = .ok (.iconst 0, 1) := by decide +kernel
theorem dL_term_18 : decode cL_term 18 = .ok (.ireturn, 1) := by decide +kernel
theorem dL_argument_0 : decode cL_argument 0 = .ok (.aload_n 3, 1) := by decide +kernel
theorem dL_argument_1 : decode cL_argument 1 = .ok (.iconst 0, 1) := by decide +kernel
theorem dL_argument_2 : decode cL_argument 2 = .ok (.aload_n 0, 1) := by decide +kernel
theorem dL_argument_3 : decode cL_argument 3 = .ok (.iload_n 1, 1) := by decide +kernel
theorem dL_argument_4 : decode cL_argument 4 = .ok (.iload_n 2, 1) := by decide +kernel
theorem dL_argument_5 : decode cL_argument 5 = .ok (.invokevirtual 27, 3) := by decide +kernel
theorem dL_argument_8 : decode cL_argument 8 = .ok (.i2l, 1) := by decide +kernel
theorem dL_argument_9 : decode cL_argument 9 = .ok (.lastore, 1) := by decide +kernel
theorem dL_argument_10 : decode cL_argument 10 = .ok (.goto 7, 3) := by decide +kernel
theorem dL_argument_13 : decode cL_argument 13 = .ok (.astore 4, 2) := by decide +kernel
theorem dL_argument_15 : decode cL_argument 15 = .ok (.iconst 1, 1) := by decide +kernel
theorem dL_argument_16 : decode cL_argument 16 = .ok (.ireturn, 1) := by decide +kernel
theorem dL_argument_17 : decode cL_argument 17 = .ok (.iconst 0, 1) := by decide +kernel
theorem dL_argument_18 : decode cL_argument 18 = .ok (.ireturn, 1) := by decide +kernel
theorem dL_place_0 : decode cL_place 0 = .ok (.aload_n 3, 1) := by decide +kernel
theorem dL_place_1 : decode cL_place 1 = .ok (.iconst 0, 1) := by decide +kernel
theorem dL_place_2 : decode cL_place 2 = .ok (.aload_n 0, 1) := by decide +kernel
theorem dL_place_3 : decode cL_place 3 = .ok (.iload_n 1, 1) := by decide +kernel
theorem dL_place_4 : decode cL_place 4 = .ok (.iload_n 2, 1) := by decide +kernel
theorem dL_place_5 : decode cL_place 5 = .ok (.invokevirtual 30, 3) := by decide +kernel
theorem dL_place_8 : decode cL_place 8 = .ok (.i2l, 1) := by decide +kernel
theorem dL_place_9 : decode cL_place 9 = .ok (.lastore, 1) := by decide +kernel
theorem dL_place_10 : decode cL_place 10 = .ok (.goto 7, 3) := by decide +kernel
theorem dL_place_13 : decode cL_place 13 = .ok (.astore 4, 2) := by decide +kernel
theorem dL_place_15 : decode cL_place 15 = .ok (.iconst 1, 1) := by decide +kernel
theorem dL_place_16 : decode cL_place 16 = .ok (.ireturn, 1) := by decide +kernel
theorem dL_place_17 : decode cL_place 17 = .ok (.iconst 0, 1) := by decide +kernel
theorem dL_place_18 : decode cL_place 18 = .ok (.ireturn, 1) := by decide +kernel
theorem dL_order_0 : decode cL_order 0 = .ok (.aload_n 3, 1) := by decide +kernel
theorem dL_order_1 : decode cL_order 1 = .ok (.iconst 0, 1) := by decide +kernel
theorem dL_order_2 : decode cL_order 2 = .ok (.aload_n 0, 1) := by decide +kernel
theorem dL_order_3 : decode cL_order 3 = .ok (.iload_n 1, 1) := by decide +kernel
theorem dL_order_4 : decode cL_order 4 = .ok (.iload_n 2, 1) := by decide +kernel
theorem dL_order_5 : decode cL_order 5 = .ok (.invokevirtual 33, 3) := by decide +kernel
theorem dL_order_8 : decode cL_order 8 = .ok (.i2l, 1) := by decide +kernel
theorem dL_order_9 : decode cL_order 9 = .ok (.lastore, 1) := by decide +kernel
theorem dL_order_10 : decode cL_order 10 = .ok (.goto 7, 3) := by decide +kernel
theorem dL_order_13 : decode cL_order 13 = .ok (.astore 4, 2) := by decide +kernel
theorem dL_order_15 : decode cL_order 15 = .ok (.iconst 1, 1) := by decide +kernel
theorem dL_order_16 : decode cL_order 16 = .ok (.ireturn, 1) := by decide +kernel
theorem dL_order_17 : decode cL_order 17 = .ok (.iconst 0, 1) := by decide +kernel
theorem dL_order_18 : decode cL_order 18 = .ok (.ireturn, 1) := by decide +kernel
theorem dL_find_0 : decode cL_find 0 = .ok (.aload_n 3, 1) := by decide +kernel
theorem dL_find_1 : decode cL_find 1 = .ok (.iconst 0, 1) := by decide +kernel
theorem dL_find_2 : decode cL_find 2 = .ok (.aload_n 0, 1) := by decide +kernel
theorem dL_find_3 : decode cL_find 3 = .ok (.iload_n 1, 1) := by decide +kernel
theorem dL_find_4 : decode cL_find 4 = .ok (.iload_n 2, 1) := by decide +kernel
theorem dL_find_5 : decode cL_find 5 = .ok (.invokevirtual 36, 3) := by decide +kernel
theorem dL_find_8 : decode cL_find 8 = .ok (.i2l, 1) := by decide +kernel
theorem dL_find_9 : decode cL_find 9 = .ok (.lastore, 1) := by decide +kernel
theorem dL_find_10 : decode cL_find 10 = .ok (.goto 7, 3) := by decide +kernel
theorem dL_find_13 : decode cL_find 13 = .ok (.astore 4, 2) := by decide +kernel
theorem dL_find_15 : decode cL_find 15 = .ok (.iconst 1, 1) := by decide +kernel
theorem dL_find_16 : decode cL_find 16 = .ok (.ireturn, 1) := by decide +kernel
theorem dL_find_17 : decode cL_find 17 = .ok (.iconst 0, 1) := by decide +kernel
theorem dL_find_18 : decode cL_find 18 = .ok (.ireturn, 1) := by decide +kernel
theorem dL_rule_0 : decode cL_rule 0 = .ok (.aload_n 3, 1) := by decide +kernel
theorem dL_rule_1 : decode cL_rule 1 = .ok (.iconst 0, 1) := by decide +kernel
theorem dL_rule_2 : decode cL_rule 2 = .ok (.aload_n 0, 1) := by decide +kernel
theorem dL_rule_3 : decode cL_rule 3 = .ok (.iload_n 1, 1) := by decide +kernel
theorem dL_rule_4 : decode cL_rule 4 = .ok (.iload_n 2, 1) := by decide +kernel
theorem dL_rule_5 : decode cL_rule 5 = .ok (.invokevirtual 39, 3) := by decide +kernel
theorem dL_rule_8 : decode cL_rule 8 = .ok (.i2l, 1) := by decide +kernel
theorem dL_rule_9 : decode cL_rule 9 = .ok (.lastore, 1) := by decide +kernel
theorem dL_rule_10 : decode cL_rule 10 = .ok (.goto 7, 3) := by decide +kernel
theorem dL_rule_13 : decode cL_rule 13 = .ok (.astore 4, 2) := by decide +kernel
theorem dL_rule_15 : decode cL_rule 15 = .ok (.iconst 1, 1) := by decide +kernel
theorem dL_rule_16 : decode cL_rule 16 = .ok (.ireturn, 1) := by decide +kernel
theorem dL_rule_17 : decode cL_rule 17 = .ok (.iconst 0, 1) := by decide +kernel
theorem dL_rule_18 : decode cL_rule 18 = .ok (.ireturn, 1) := by decide +kernel
theorem dL_entry_0 : decode cL_entry 0 = .ok (.aload_n 2, 1) := by decide +kernel
theorem dL_entry_1 : decode cL_entry 1 = .ok (.iconst 0, 1) := by decide +kernel
theorem dL_entry_2 : decode cL_entry 2 = .ok (.aload_n 0, 1) := by decide +kernel
theorem dL_entry_3 : decode cL_entry 3 = .ok (.iload_n 1, 1) := by decide +kernel
theorem dL_entry_4 : decode cL_entry 4 = .ok (.invokevirtual 42, 3) := by decide +kernel
theorem dL_entry_7 : decode cL_entry 7 = .ok (.i2l, 1) := by decide +kernel
theorem dL_entry_8 : decode cL_entry 8 = .ok (.lastore, 1) := by decide +kernel
theorem dL_entry_9 : decode cL_entry 9 = .ok (.goto 6, 3) := by decide +kernel
theorem dL_entry_12 : decode cL_entry 12 = .ok (.astore_n 3, 1) := by decide +kernel
theorem dL_entry_13 : decode cL_entry 13 = .ok (.iconst 1, 1) := by decide +kernel
theorem dL_entry_14 : decode cL_entry 14 = .ok (.ireturn, 1) := by decide +kernel
theorem dL_entry_15 : decode cL_entry 15 = .ok (.iconst 0, 1) := by decide +kernel
theorem dL_entry_16 : decode cL_entry 16 = .ok (.ireturn, 1) := by decide +kernel
theorem dL_memo_0 : decode cL_memo 0 = .ok (.aload_n 3, 1) := by decide +kernel
theorem dL_memo_1 : decode cL_memo 1 = .ok (.iconst 0, 1) := by decide +kernel
theorem dL_memo_2 : decode cL_memo 2 = .ok (.aload_n 0, 1) := by decide +kernel
theorem dL_memo_3 : decode cL_memo 3 = .ok (.iload_n 1, 1) := by decide +kernel
theorem dL_memo_4 : decode cL_memo 4 = .ok (.iload_n 2, 1) := by decide +kernel
theorem dL_memo_5 : decode cL_memo 5 = .ok (.invokevirtual 45, 3) := by decide +kernel
theorem dL_memo_8 : decode cL_memo 8 = .ok (.i2l, 1) := by decide +kernel
theorem dL_memo_9 : decode cL_memo 9 = .ok (.lastore, 1) := by decide +kernel
theorem dL_memo_10 : decode cL_memo 10 = .ok (.goto 7, 3) := by decide +kernel
theorem dL_memo_13 : decode cL_memo 13 = .ok (.astore 4, 2) := by decide +kernel
theorem dL_memo_15 : decode cL_memo 15 = .ok (.iconst 1, 1) := by decide +kernel
theorem dL_memo_16 : decode cL_memo 16 = .ok (.ireturn, 1) := by decide +kernel
theorem dL_memo_17 : decode cL_memo 17 = .ok (.iconst 0, 1) := by decide +kernel
theorem dL_memo_18 : decode cL_memo 18 = .ok (.ireturn, 1) := by decide +kernel
theorem dL_bound_0 : decode cL_bound 0 = .ok (.aload_n 2, 1) := by decide +kernel
theorem dL_bound_1 : decode cL_bound 1 = .ok (.iconst 0, 1) := by decide +kernel
theorem dL_bound_2 : decode cL_bound 2 = .ok (.aload_n 0, 1) := by decide +kernel
theorem dL_bound_3 : decode cL_bound 3 = .ok (.iload_n 1, 1) := by decide +kernel
theorem dL_bound_4 : decode cL_bound 4 = .ok (.invokevirtual 48, 3) := by decide +kernel
theorem dL_bound_7 : decode cL_bound 7 = .ok (.i2l, 1) := by decide +kernel
theorem dL_bound_8 : decode cL_bound 8 = .ok (.lastore, 1) := by decide +kernel
theorem dL_bound_9 : decode cL_bound 9 = .ok (.goto 6, 3) := by decide +kernel
theorem dL_bound_12 : decode cL_bound 12 = .ok (.astore_n 3, 1) := by decide +kernel
theorem dL_bound_13 : decode cL_bound 13 = .ok (.iconst 1, 1) := by decide +kernel
theorem dL_bound_14 : decode cL_bound 14 = .ok (.ireturn, 1) := by decide +kernel
theorem dL_bound_15 : decode cL_bound 15 = .ok (.iconst 0, 1) := by decide +kernel
theorem dL_bound_16 : decode cL_bound 16 = .ok (.ireturn, 1) := by decide +kernel
theorem dL_years_0 : decode cL_years 0 = .ok (.aload 4, 2) := by decide +kernel
theorem dL_years_2 : decode cL_years 2 = .ok (.iconst 0, 1) := by decide +kernel
theorem dL_years_3 : decode cL_years 3 = .ok (.aload_n 0, 1) := by decide +kernel
theorem dL_years_4 : decode cL_years 4 = .ok (.iload_n 1, 1) := by decide +kernel
theorem dL_years_5 : decode cL_years 5 = .ok (.iload_n 2, 1) := by decide +kernel
theorem dL_years_6 : decode cL_years 6 = .ok (.iload_n 3, 1) := by decide +kernel
theorem dL_years_7 : decode cL_years 7 = .ok (.invokevirtual 51, 3) := by decide +kernel
theorem dL_years_10 : decode cL_years 10 = .ok (.i2l, 1) := by decide +kernel
theorem dL_years_11 : decode cL_years 11 = .ok (.lastore, 1) := by decide +kernel
theorem dL_years_12 : decode cL_years 12 = .ok (.goto 11, 3) := by decide +kernel
theorem dL_years_15 : decode cL_years 15 = .ok (.astore 5, 2) := by decide +kernel
theorem dL_years_17 : decode cL_years 17 = .ok (.iconst 1, 1) := by decide +kernel
theorem dL_years_18 : decode cL_years 18 = .ok (.ireturn, 1) := by decide +kernel
theorem dL_years_19 : decode cL_years 19 = .ok (.astore 5, 2) := by decide +kernel
theorem dL_years_21 : decode cL_years 21 = .ok (.iconst 2, 1) := by decide +kernel
theorem dL_years_22 : decode cL_years 22 = .ok (.ireturn, 1) := by decide +kernel
theorem dL_years_23 : decode cL_years 23 = .ok (.iconst 0, 1) := by decide +kernel
theorem dL_years_24 : decode cL_years 24 = .ok (.ireturn, 1) := by decide +kernel
theorem dL_law_0 : decode cL_law 0 = .ok (.new 8, 3) := by decide +kernel
theorem dL_law_3 : decode cL_law 3 = .ok (.dup, 1) := by decide +kernel
theorem dL_law_4 : decode cL_law 4 = .ok (.invokespecial 55, 3) := by decide +kernel
theorem dL_law_7 : decode cL_law 7 = .ok (.astore_n 1, 1) := by decide +kernel
theorem dL_law_8 : decode cL_law 8 = .ok (.new 56, 3) := by decide +kernel
theorem dL_law_11 : decode cL_law 11 = .ok (.dup, 1) := by decide +kernel
theorem dL_law_12 : decode cL_law 12 = .ok (.invokespecial 58, 3) := by decide +kernel
theorem dL_law_15 : decode cL_law 15 = .ok (.astore_n 2, 1) := by decide +kernel
theorem dL_law_16 : decode cL_law 16 = .ok (.iconst 1, 1) := by decide +kernel
theorem dL_law_17 : decode cL_law 17 = .ok (.newarray .long, 2) := by decide +kernel
theorem dL_law_19 : decode cL_law 19 = .ok (.astore_n 3, 1) := by decide +kernel
theorem dL_law_20 : decode cL_law 20 = .ok (.iconst 0, 1) := by decide +kernel
theorem dL_law_21 : decode cL_law 21 = .ok (.istore 4, 2) := by decide +kernel
theorem dL_law_23 : decode cL_law 23 = .ok (.iload 4, 2) := by decide +kernel
theorem dL_law_25 : decode cL_law 25 = .ok (.aload_n 0, 1) := by decide +kernel
theorem dL_law_26 : decode cL_law 26 = .ok (.arraylength, 1) := by decide +kernel
theorem dL_law_27 : decode cL_law 27 = .ok (.bipush 6, 2) := by decide +kernel
theorem dL_law_29 : decode cL_law 29 = .ok (.isub, 1) := by decide +kernel
theorem dL_law_30 : decode cL_law 30 = .ok (.if_icmp .gt 1306, 3) := by decide +kernel
theorem dL_law_33 : decode cL_law 33 = .ok (.aload_n 0, 1) := by decide +kernel
theorem dL_law_34 : decode cL_law 34 = .ok (.iload 4, 2) := by decide +kernel
theorem dL_law_36 : decode cL_law 36 = .ok (.iaload, 1) := by decide +kernel
theorem dL_law_37 : decode cL_law 37 = .ok (.bipush 63, 2) := by decide +kernel
theorem dL_law_39 : decode cL_law 39 = .ok (.iand, 1) := by decide +kernel
theorem dL_law_40 : decode cL_law 40 = .ok (.tableswitch 1290 0 32 #[148, 221, 249, 262, 290, 330, 370, 410, 450, 490, 530, 570, 598, 638, 666, 691, 752, 789, 814, 839, 876, 913, 950, 975, 1024, 1061, 1086, 1111, 1136, 1173, 1186, 1266, 1277], 148) := by decide +kernel
theorem dL_law_188 : decode cL_law 188 = .ok (.aload_n 1, 1) := by decide +kernel
theorem dL_law_189 : decode cL_law 189 = .ok (.aload_n 0, 1) := by decide +kernel
theorem dL_law_190 : decode cL_law 190 = .ok (.iload 4, 2) := by decide +kernel
theorem dL_law_192 : decode cL_law 192 = .ok (.iconst 1, 1) := by decide +kernel
theorem dL_law_193 : decode cL_law 193 = .ok (.iadd, 1) := by decide +kernel
theorem dL_law_194 : decode cL_law 194 = .ok (.iaload, 1) := by decide +kernel
theorem dL_law_195 : decode cL_law 195 = .ok (.aload_n 0, 1) := by decide +kernel
theorem dL_law_196 : decode cL_law 196 = .ok (.iload 4, 2) := by decide +kernel
theorem dL_law_198 : decode cL_law 198 = .ok (.iconst 2, 1) := by decide +kernel
theorem dL_law_199 : decode cL_law 199 = .ok (.iadd, 1) := by decide +kernel
theorem dL_law_200 : decode cL_law 200 = .ok (.iaload, 1) := by decide +kernel
theorem dL_law_201 : decode cL_law 201 = .ok (.aload_n 0, 1) := by decide +kernel
theorem dL_law_202 : decode cL_law 202 = .ok (.iload 4, 2) := by decide +kernel
theorem dL_law_204 : decode cL_law 204 = .ok (.iconst 3, 1) := by decide +kernel
theorem dL_law_205 : decode cL_law 205 = .ok (.iadd, 1) := by decide +kernel
theorem dL_law_206 : decode cL_law 206 = .ok (.iaload, 1) := by decide +kernel
theorem dL_law_207 : decode cL_law 207 = .ok (.aload_n 0, 1) := by decide +kernel
theorem dL_law_208 : decode cL_law 208 = .ok (.iload 4, 2) := by decide +kernel
theorem dL_law_210 : decode cL_law 210 = .ok (.iconst 4, 1) := by decide +kernel
theorem dL_law_211 : decode cL_law 211 = .ok (.iadd, 1) := by decide +kernel
theorem dL_law_212 : decode cL_law 212 = .ok (.iaload, 1) := by decide +kernel
theorem dL_law_213 : decode cL_law 213 = .ok (.aload_n 0, 1) := by decide +kernel
theorem dL_law_214 : decode cL_law 214 = .ok (.iload 4, 2) := by decide +kernel
theorem dL_law_216 : decode cL_law 216 = .ok (.iconst 5, 1) := by decide +kernel
theorem dL_law_217 : decode cL_law 217 = .ok (.iadd, 1) := by decide +kernel
theorem dL_law_218 : decode cL_law 218 = .ok (.iaload, 1) := by decide +kernel
theorem dL_law_219 : decode cL_law 219 = .ok (.invokevirtual 59, 3) := by decide +kernel
theorem dL_law_222 : decode cL_law 222 = .ok (.pop, 1) := by decide +kernel
theorem dL_law_223 : decode cL_law 223 = .ok (.aload_n 2, 1) := by decide +kernel
theorem dL_law_224 : decode cL_law 224 = .ok (.aload_n 0, 1) := by decide +kernel
theorem dL_law_225 : decode cL_law 225 = .ok (.iload 4, 2) := by decide +kernel
theorem dL_law_227 : decode cL_law 227 = .ok (.iconst 1, 1) := by decide +kernel
theorem dL_law_228 : decode cL_law 228 = .ok (.iadd, 1) := by decide +kernel
theorem dL_law_229 : decode cL_law 229 = .ok (.iaload, 1) := by decide +kernel
theorem dL_law_230 : decode cL_law 230 = .ok (.aload_n 0, 1) := by decide +kernel
theorem dL_law_231 : decode cL_law 231 = .ok (.iload 4, 2) := by decide +kernel
theorem dL_law_233 : decode cL_law 233 = .ok (.iconst 2, 1) := by decide +kernel
theorem dL_law_234 : decode cL_law 234 = .ok (.iadd, 1) := by decide +kernel
theorem dL_law_235 : decode cL_law 235 = .ok (.iaload, 1) := by decide +kernel
theorem dL_law_236 : decode cL_law 236 = .ok (.aload_n 0, 1) := by decide +kernel
theorem dL_law_237 : decode cL_law 237 = .ok (.iload 4, 2) := by decide +kernel
theorem dL_law_239 : decode cL_law 239 = .ok (.iconst 3, 1) := by decide +kernel
theorem dL_law_240 : decode cL_law 240 = .ok (.iadd, 1) := by decide +kernel
theorem dL_law_241 : decode cL_law 241 = .ok (.iaload, 1) := by decide +kernel
theorem dL_law_242 : decode cL_law 242 = .ok (.aload_n 0, 1) := by decide +kernel
theorem dL_law_243 : decode cL_law 243 = .ok (.iload 4, 2) := by decide +kernel
theorem dL_law_245 : decode cL_law 245 = .ok (.iconst 4, 1) := by decide +kernel
theorem dL_law_246 : decode cL_law 246 = .ok (.iadd, 1) := by decide +kernel
theorem dL_law_247 : decode cL_law 247 = .ok (.iaload, 1) := by decide +kernel
theorem dL_law_248 : decode cL_law 248 = .ok (.aload_n 0, 1) := by decide +kernel
theorem dL_law_249 : decode cL_law 249 = .ok (.iload 4, 2) := by decide +kernel
theorem dL_law_251 : decode cL_law 251 = .ok (.iconst 5, 1) := by decide +kernel
theorem dL_law_252 : decode cL_law 252 = .ok (.iadd, 1) := by decide +kernel
theorem dL_law_253 : decode cL_law 253 = .ok (.iaload, 1) := by decide +kernel
theorem dL_law_254 : decode cL_law 254 = .ok (.invokevirtual 63, 3) := by decide +kernel
theorem dL_law_257 : decode cL_law 257 = .ok (.pop, 1) := by decide +kernel
theorem dL_law_258 : decode cL_law 258 = .ok (.goto 1072, 3) := by decide +kernel
theorem dL_law_261 : decode cL_law 261 = .ok (.aload_n 1, 1) := by decide +kernel
theorem dL_law_262 : decode cL_law 262 = .ok (.aload_n 0, 1) := by decide +kernel
theorem dL_law_263 : decode cL_law 263 = .ok (.iload 4, 2) := by decide +kernel
theorem dL_law_265 : decode cL_law 265 = .ok (.iconst 1, 1) := by decide +kernel
theorem dL_law_266 : decode cL_law 266 = .ok (.iadd, 1) := by decide +kernel
theorem dL_law_267 : decode cL_law 267 = .ok (.iaload, 1) := by decide +kernel
theorem dL_law_268 : decode cL_law 268 = .ok (.aload_n 3, 1) := by decide +kernel
theorem dL_law_269 : decode cL_law 269 = .ok (.invokestatic 64, 3) := by decide +kernel
theorem dL_law_272 : decode cL_law 272 = .ok (.istore 5, 2) := by decide +kernel
theorem dL_law_274 : decode cL_law 274 = .ok (.aload_n 2, 1) := by decide +kernel
theorem dL_law_275 : decode cL_law 275 = .ok (.aload_n 0, 1) := by decide +kernel
theorem dL_law_276 : decode cL_law 276 = .ok (.iload 4, 2) := by decide +kernel
theorem dL_law_278 : decode cL_law 278 = .ok (.iconst 1, 1) := by decide +kernel
theorem dL_law_279 : decode cL_law 279 = .ok (.iadd, 1) := by decide +kernel
theorem dL_law_280 : decode cL_law 280 = .ok (.iaload, 1) := by decide +kernel
theorem dL_law_281 : decode cL_law 281 = .ok (.invokevirtual 69, 3) := by decide +kernel
theorem dL_law_284 : decode cL_law 284 = .ok (.istore 6, 2) := by decide +kernel
theorem dL_law_286 : decode cL_law 286 = .ok (.goto 1044, 3) := by decide +kernel
theorem dL_law_289 : decode cL_law 289 = .ok (.aload_n 1, 1) := by decide +kernel
theorem dL_law_290 : decode cL_law 290 = .ok (.invokevirtual 70, 3) := by decide +kernel
theorem dL_law_293 : decode cL_law 293 = .ok (.pop, 1) := by decide +kernel
theorem dL_law_294 : decode cL_law 294 = .ok (.aload_n 2, 1) := by decide +kernel
theorem dL_law_295 : decode cL_law 295 = .ok (.invokevirtual 74, 3) := by decide +kernel
theorem dL_law_298 : decode cL_law 298 = .ok (.pop, 1) := by decide +kernel
theorem dL_law_299 : decode cL_law 299 = .ok (.goto 1031, 3) := by decide +kernel
theorem dL_law_302 : decode cL_law 302 = .ok (.aload_n 1, 1) := by decide +kernel
theorem dL_law_303 : decode cL_law 303 = .ok (.aload_n 0, 1) := by decide +kernel
theorem dL_law_304 : decode cL_law 304 = .ok (.iload 4, 2) := by decide +kernel
theorem dL_law_306 : decode cL_law 306 = .ok (.iconst 1, 1) := by decide +kernel
theorem dL_law_307 : decode cL_law 307 = .ok (.iadd, 1) := by decide +kernel
theorem dL_law_308 : decode cL_law 308 = .ok (.iaload, 1) := by decide +kernel
theorem dL_law_309 : decode cL_law 309 = .ok (.aload_n 3, 1) := by decide +kernel
theorem dL_law_310 : decode cL_law 310 = .ok (.invokestatic 75, 3) := by decide +kernel
theorem dL_law_313 : decode cL_law 313 = .ok (.istore 5, 2) := by decide +kernel
theorem dL_law_315 : decode cL_law 315 = .ok (.aload_n 2, 1) := by decide +kernel
theorem dL_law_316 : decode cL_law 316 = .ok (.aload_n 0, 1) := by decide +kernel
theorem dL_law_317 : decode cL_law 317 = .ok (.iload 4, 2) := by decide +kernel
theorem dL_law_319 : decode cL_law 319 = .ok (.iconst 1, 1) := by decide +kernel
theorem dL_law_320 : decode cL_law 320 = .ok (.iadd, 1) := by decide +kernel
theorem dL_law_321 : decode cL_law 321 = .ok (.iaload, 1) := by decide +kernel
theorem dL_law_322 : decode cL_law 322 = .ok (.invokevirtual 77, 3) := by decide +kernel
theorem dL_law_325 : decode cL_law 325 = .ok (.istore 6, 2) := by decide +kernel
theorem dL_law_327 : decode cL_law 327 = .ok (.goto 1003, 3) := by decide +kernel
theorem dL_law_330 : decode cL_law 330 = .ok (.aload_n 1, 1) := by decide +kernel
theorem dL_law_331 : decode cL_law 331 = .ok (.aload_n 0, 1) := by decide +kernel
theorem dL_law_332 : decode cL_law 332 = .ok (.iload 4, 2) := by decide +kernel
theorem dL_law_334 : decode cL_law 334 = .ok (.iconst 1, 1) := by decide +kernel
theorem dL_law_335 : decode cL_law 335 = .ok (.iadd, 1) := by decide +kernel
theorem dL_law_336 : decode cL_law 336 = .ok (.iaload, 1) := by decide +kernel
theorem dL_law_337 : decode cL_law 337 = .ok (.aload_n 0, 1) := by decide +kernel
theorem dL_law_338 : decode cL_law 338 = .ok (.iload 4, 2) := by decide +kernel
theorem dL_law_340 : decode cL_law 340 = .ok (.iconst 2, 1) := by decide +kernel
theorem dL_law_341 : decode cL_law 341 = .ok (.iadd, 1) := by decide +kernel
theorem dL_law_342 : decode cL_law 342 = .ok (.iaload, 1) := by decide +kernel
theorem dL_law_343 : decode cL_law 343 = .ok (.aload_n 3, 1) := by decide +kernel
theorem dL_law_344 : decode cL_law 344 = .ok (.invokestatic 78, 3) := by decide +kernel
theorem dL_law_347 : decode cL_law 347 = .ok (.istore 5, 2) := by decide +kernel
theorem dL_law_349 : decode cL_law 349 = .ok (.aload_n 2, 1) := by decide +kernel
theorem dL_law_350 : decode cL_law 350 = .ok (.aload_n 0, 1) := by decide +kernel
theorem dL_law_351 : decode cL_law 351 = .ok (.iload 4, 2) := by decide +kernel
theorem dL_law_353 : decode cL_law 353 = .ok (.iconst 1, 1) := by decide +kernel
theorem dL_law_354 : decode cL_law 354 = .ok (.iadd, 1) := by decide +kernel
theorem dL_law_355 : decode cL_law 355 = .ok (.iaload, 1) := by decide +kernel
theorem dL_law_356 : decode cL_law 356 = .ok (.aload_n 0, 1) := by decide +kernel
theorem dL_law_357 : decode cL_law 357 = .ok (.iload 4, 2) := by decide +kernel
theorem dL_law_359 : decode cL_law 359 = .ok (.iconst 2, 1) := by decide +kernel
theorem dL_law_360 : decode cL_law 360 = .ok (.iadd, 1) := by decide +kernel
theorem dL_law_361 : decode cL_law 361 = .ok (.iaload, 1) := by decide +kernel
theorem dL_law_362 : decode cL_law 362 = .ok (.invokevirtual 81, 3) := by decide +kernel
theorem dL_law_365 : decode cL_law 365 = .ok (.istore 6, 2) := by decide +kernel
theorem dL_law_367 : decode cL_law 367 = .ok (.goto 963, 3) := by decide +kernel
theorem dL_law_370 : decode cL_law 370 = .ok (.aload_n 1, 1) := by decide +kernel
theorem dL_law_371 : decode cL_law 371 = .ok (.aload_n 0, 1) := by decide +kernel
theorem dL_law_372 : decode cL_law 372 = .ok (.iload 4, 2) := by decide +kernel
theorem dL_law_374 : decode cL_law 374 = .ok (.iconst 1, 1) := by decide +kernel
theorem dL_law_375 : decode cL_law 375 = .ok (.iadd, 1) := by decide +kernel
theorem dL_law_376 : decode cL_law 376 = .ok (.iaload, 1) := by decide +kernel
theorem dL_law_377 : decode cL_law 377 = .ok (.aload_n 0, 1) := by decide +kernel
theorem dL_law_378 : decode cL_law 378 = .ok (.iload 4, 2) := by decide +kernel
theorem dL_law_380 : decode cL_law 380 = .ok (.iconst 2, 1) := by decide +kernel
theorem dL_law_381 : decode cL_law 381 = .ok (.iadd, 1) := by decide +kernel
theorem dL_law_382 : decode cL_law 382 = .ok (.iaload, 1) := by decide +kernel
theorem dL_law_383 : decode cL_law 383 = .ok (.aload_n 3, 1) := by decide +kernel
theorem dL_law_384 : decode cL_law 384 = .ok (.invokestatic 82, 3) := by decide +kernel
theorem dL_law_387 : decode cL_law 387 = .ok (.istore 5, 2) := by decide +kernel
theorem dL_law_389 : decode cL_law 389 = .ok (.aload_n 2, 1) := by decide +kernel
theorem dL_law_390 : decode cL_law 390 = .ok (.aload_n 0, 1) := by decide +kernel
theorem dL_law_391 : decode cL_law 391 = .ok (.iload 4, 2) := by decide +kernel
theorem dL_law_393 : decode cL_law 393 = .ok (.iconst 1, 1) := by decide +kernel
theorem dL_law_394 : decode cL_law 394 = .ok (.iadd, 1) := by decide +kernel
theorem dL_law_395 : decode cL_law 395 = .ok (.iaload, 1) := by decide +kernel
theorem dL_law_396 : decode cL_law 396 = .ok (.aload_n 0, 1) := by decide +kernel
theorem dL_law_397 : decode cL_law 397 = .ok (.iload 4, 2) := by decide +kernel
theorem dL_law_399 : decode cL_law 399 = .ok (.iconst 2, 1) := by decide +kernel
theorem dL_law_400 : decode cL_law 400 = .ok (.iadd, 1) := by decide +kernel
theorem dL_law_401 : decode cL_law 401 = .ok (.iaload, 1) := by decide +kernel
theorem dL_law_402 : decode cL_law 402 = .ok (.invokevirtual 84, 3) := by decide +kernel
theorem dL_law_405 : decode cL_law 405 = .ok (.istore 6, 2) := by decide +kernel
theorem dL_law_407 : decode cL_law 407 = .ok (.goto 923, 3) := by decide +kernel
theorem dL_law_410 : decode cL_law 410 = .ok (.aload_n 1, 1) := by decide +kernel
theorem dL_law_411 : decode cL_law 411 = .ok (.aload_n 0, 1) := by decide +kernel
theorem dL_law_412 : decode cL_law 412 = .ok (.iload 4, 2) := by decide +kernel
theorem dL_law_414 : decode cL_law 414 = .ok (.iconst 1, 1) := by decide +kernel
theorem dL_law_415 : decode cL_law 415 = .ok (.iadd, 1) := by decide +kernel
theorem dL_law_416 : decode cL_law 416 = .ok (.iaload, 1) := by decide +kernel
theorem dL_law_417 : decode cL_law 417 = .ok (.aload_n 0, 1) := by decide +kernel
theorem dL_law_418 : decode cL_law 418 = .ok (.iload 4, 2) := by decide +kernel
theorem dL_law_420 : decode cL_law 420 = .ok (.iconst 2, 1) := by decide +kernel
theorem dL_law_421 : decode cL_law 421 = .ok (.iadd, 1) := by decide +kernel
theorem dL_law_422 : decode cL_law 422 = .ok (.iaload, 1) := by decide +kernel
theorem dL_law_423 : decode cL_law 423 = .ok (.aload_n 3, 1) := by decide +kernel
theorem dL_law_424 : decode cL_law 424 = .ok (.invokestatic 85, 3) := by decide +kernel
theorem dL_law_427 : decode cL_law 427 = .ok (.istore 5, 2) := by decide +kernel
theorem dL_law_429 : decode cL_law 429 = .ok (.aload_n 2, 1) := by decide +kernel
theorem dL_law_430 : decode cL_law 430 = .ok (.aload_n 0, 1) := by decide +kernel
theorem dL_law_431 : decode cL_law 431 = .ok (.iload 4, 2) := by decide +kernel
theorem dL_law_433 : decode cL_law 433 = .ok (.iconst 1, 1) := by decide +kernel
theorem dL_law_434 : decode cL_law 434 = .ok (.iadd, 1) := by decide +kernel
theorem dL_law_435 : decode cL_law 435 = .ok (.iaload, 1) := by decide +kernel
theorem dL_law_436 : decode cL_law 436 = .ok (.aload_n 0, 1) := by decide +kernel
theorem dL_law_437 : decode cL_law 437 = .ok (.iload 4, 2) := by decide +kernel
theorem dL_law_439 : decode cL_law 439 = .ok (.iconst 2, 1) := by decide +kernel
theorem dL_law_440 : decode cL_law 440 = .ok (.iadd, 1) := by decide +kernel
theorem dL_law_441 : decode cL_law 441 = .ok (.iaload, 1) := by decide +kernel
theorem dL_law_442 : decode cL_law 442 = .ok (.invokevirtual 87, 3) := by decide +kernel
theorem dL_law_445 : decode cL_law 445 = .ok (.istore 6, 2) := by decide +kernel
theorem dL_law_447 : decode cL_law 447 = .ok (.goto 883, 3) := by decide +kernel
theorem dL_law_450 : decode cL_law 450 = .ok (.aload_n 1, 1) := by decide +kernel
theorem dL_law_451 : decode cL_law 451 = .ok (.aload_n 0, 1) := by decide +kernel
theorem dL_law_452 : decode cL_law 452 = .ok (.iload 4, 2) := by decide +kernel
theorem dL_law_454 : decode cL_law 454 = .ok (.iconst 1, 1) := by decide +kernel
theorem dL_law_455 : decode cL_law 455 = .ok (.iadd, 1) := by decide +kernel
theorem dL_law_456 : decode cL_law 456 = .ok (.iaload, 1) := by decide +kernel
theorem dL_law_457 : decode cL_law 457 = .ok (.aload_n 0, 1) := by decide +kernel
theorem dL_law_458 : decode cL_law 458 = .ok (.iload 4, 2) := by decide +kernel
theorem dL_law_460 : decode cL_law 460 = .ok (.iconst 2, 1) := by decide +kernel
theorem dL_law_461 : decode cL_law 461 = .ok (.iadd, 1) := by decide +kernel
theorem dL_law_462 : decode cL_law 462 = .ok (.iaload, 1) := by decide +kernel
theorem dL_law_463 : decode cL_law 463 = .ok (.aload_n 3, 1) := by decide +kernel
theorem dL_law_464 : decode cL_law 464 = .ok (.invokestatic 88, 3) := by decide +kernel
theorem dL_law_467 : decode cL_law 467 = .ok (.istore 5, 2) := by decide +kernel
theorem dL_law_469 : decode cL_law 469 = .ok (.aload_n 2, 1) := by decide +kernel
theorem dL_law_470 : decode cL_law 470 = .ok (.aload_n 0, 1) := by decide +kernel
theorem dL_law_471 : decode cL_law 471 = .ok (.iload 4, 2) := by decide +kernel
theorem dL_law_473 : decode cL_law 473 = .ok (.iconst 1, 1) := by decide +kernel
theorem dL_law_474 : decode cL_law 474 = .ok (.iadd, 1) := by decide +kernel
theorem dL_law_475 : decode cL_law 475 = .ok (.iaload, 1) := by decide +kernel
theorem dL_law_476 : decode cL_law 476 = .ok (.aload_n 0, 1) := by decide +kernel
theorem dL_law_477 : decode cL_law 477 = .ok (.iload 4, 2) := by decide +kernel
theorem dL_law_479 : decode cL_law 479 = .ok (.iconst 2, 1) := by decide +kernel
theorem dL_law_480 : decode cL_law 480 = .ok (.iadd, 1) := by decide +kernel
theorem dL_law_481 : decode cL_law 481 = .ok (.iaload, 1) := by decide +kernel
theorem dL_law_482 : decode cL_law 482 = .ok (.invokevirtual 90, 3) := by decide +kernel
theorem dL_law_485 : decode cL_law 485 = .ok (.istore 6, 2) := by decide +kernel
theorem dL_law_487 : decode cL_law 487 = .ok (.goto 843, 3) := by decide +kernel
theorem dL_law_490 : decode cL_law 490 = .ok (.aload_n 1, 1) := by decide +kernel
theorem dL_law_491 : decode cL_law 491 = .ok (.aload_n 0, 1) := by decide +kernel
theorem dL_law_492 : decode cL_law 492 = .ok (.iload 4, 2) := by decide +kernel
theorem dL_law_494 : decode cL_law 494 = .ok (.iconst 1, 1) := by decide +kernel
theorem dL_law_495 : decode cL_law 495 = .ok (.iadd, 1) := by decide +kernel
theorem dL_law_496 : decode cL_law 496 = .ok (.iaload, 1) := by decide +kernel
theorem dL_law_497 : decode cL_law 497 = .ok (.aload_n 0, 1) := by decide +kernel
theorem dL_law_498 : decode cL_law 498 = .ok (.iload 4, 2) := by decide +kernel
theorem dL_law_500 : decode cL_law 500 = .ok (.iconst 2, 1) := by decide +kernel
theorem dL_law_501 : decode cL_law 501 = .ok (.iadd, 1) := by decide +kernel
theorem dL_law_502 : decode cL_law 502 = .ok (.iaload, 1) := by decide +kernel
theorem dL_law_503 : decode cL_law 503 = .ok (.aload_n 3, 1) := by decide +kernel
theorem dL_law_504 : decode cL_law 504 = .ok (.invokestatic 91, 3) := by decide +kernel
theorem dL_law_507 : decode cL_law 507 = .ok (.istore 5, 2) := by decide +kernel
theorem dL_law_509 : decode cL_law 509 = .ok (.aload_n 2, 1) := by decide +kernel
theorem dL_law_510 : decode cL_law 510 = .ok (.aload_n 0, 1) := by decide +kernel
theorem dL_law_511 : decode cL_law 511 = .ok (.iload 4, 2) := by decide +kernel
theorem dL_law_513 : decode cL_law 513 = .ok (.iconst 1, 1) := by decide +kernel
theorem dL_law_514 : decode cL_law 514 = .ok (.iadd, 1) := by decide +kernel
theorem dL_law_515 : decode cL_law 515 = .ok (.iaload, 1) := by decide +kernel
theorem dL_law_516 : decode cL_law 516 = .ok (.aload_n 0, 1) := by decide +kernel
theorem dL_law_517 : decode cL_law 517 = .ok (.iload 4, 2) := by decide +kernel
theorem dL_law_519 : decode cL_law 519 = .ok (.iconst 2, 1) := by decide +kernel
theorem dL_law_520 : decode cL_law 520 = .ok (.iadd, 1) := by decide +kernel
theorem dL_law_521 : decode cL_law 521 = .ok (.iaload, 1) := by decide +kernel
theorem dL_law_522 : decode cL_law 522 = .ok (.invokevirtual 93, 3) := by decide +kernel
theorem dL_law_525 : decode cL_law 525 = .ok (.istore 6, 2) := by decide +kernel
theorem dL_law_527 : decode cL_law 527 = .ok (.goto 803, 3) := by decide +kernel
theorem dL_law_530 : decode cL_law 530 = .ok (.aload_n 1, 1) := by decide +kernel
theorem dL_law_531 : decode cL_law 531 = .ok (.aload_n 0, 1) := by decide +kernel
theorem dL_law_532 : decode cL_law 532 = .ok (.iload 4, 2) := by decide +kernel
theorem dL_law_534 : decode cL_law 534 = .ok (.iconst 1, 1) := by decide +kernel
theorem dL_law_535 : decode cL_law 535 = .ok (.iadd, 1) := by decide +kernel
theorem dL_law_536 : decode cL_law 536 = .ok (.iaload, 1) := by decide +kernel
theorem dL_law_537 : decode cL_law 537 = .ok (.aload_n 0, 1) := by decide +kernel
theorem dL_law_538 : decode cL_law 538 = .ok (.iload 4, 2) := by decide +kernel
theorem dL_law_540 : decode cL_law 540 = .ok (.iconst 2, 1) := by decide +kernel
theorem dL_law_541 : decode cL_law 541 = .ok (.iadd, 1) := by decide +kernel
theorem dL_law_542 : decode cL_law 542 = .ok (.iaload, 1) := by decide +kernel
theorem dL_law_543 : decode cL_law 543 = .ok (.aload_n 3, 1) := by decide +kernel
theorem dL_law_544 : decode cL_law 544 = .ok (.invokestatic 94, 3) := by decide +kernel
theorem dL_law_547 : decode cL_law 547 = .ok (.istore 5, 2) := by decide +kernel
theorem dL_law_549 : decode cL_law 549 = .ok (.aload_n 2, 1) := by decide +kernel
theorem dL_law_550 : decode cL_law 550 = .ok (.aload_n 0, 1) := by decide +kernel
theorem dL_law_551 : decode cL_law 551 = .ok (.iload 4, 2) := by decide +kernel
theorem dL_law_553 : decode cL_law 553 = .ok (.iconst 1, 1) := by decide +kernel
theorem dL_law_554 : decode cL_law 554 = .ok (.iadd, 1) := by decide +kernel
theorem dL_law_555 : decode cL_law 555 = .ok (.iaload, 1) := by decide +kernel
theorem dL_law_556 : decode cL_law 556 = .ok (.aload_n 0, 1) := by decide +kernel
theorem dL_law_557 : decode cL_law 557 = .ok (.iload 4, 2) := by decide +kernel
theorem dL_law_559 : decode cL_law 559 = .ok (.iconst 2, 1) := by decide +kernel
theorem dL_law_560 : decode cL_law 560 = .ok (.iadd, 1) := by decide +kernel
theorem dL_law_561 : decode cL_law 561 = .ok (.iaload, 1) := by decide +kernel
theorem dL_law_562 : decode cL_law 562 = .ok (.invokevirtual 96, 3) := by decide +kernel
theorem dL_law_565 : decode cL_law 565 = .ok (.istore 6, 2) := by decide +kernel
theorem dL_law_567 : decode cL_law 567 = .ok (.goto 763, 3) := by decide +kernel
theorem dL_law_570 : decode cL_law 570 = .ok (.aload_n 1, 1) := by decide +kernel
theorem dL_law_571 : decode cL_law 571 = .ok (.aload_n 0, 1) := by decide +kernel
theorem dL_law_572 : decode cL_law 572 = .ok (.iload 4, 2) := by decide +kernel
theorem dL_law_574 : decode cL_law 574 = .ok (.iconst 1, 1) := by decide +kernel
theorem dL_law_575 : decode cL_law 575 = .ok (.iadd, 1) := by decide +kernel
theorem dL_law_576 : decode cL_law 576 = .ok (.iaload, 1) := by decide +kernel
theorem dL_law_577 : decode cL_law 577 = .ok (.aload_n 0, 1) := by decide +kernel
theorem dL_law_578 : decode cL_law 578 = .ok (.iload 4, 2) := by decide +kernel
theorem dL_law_580 : decode cL_law 580 = .ok (.iconst 2, 1) := by decide +kernel
theorem dL_law_581 : decode cL_law 581 = .ok (.iadd, 1) := by decide +kernel
theorem dL_law_582 : decode cL_law 582 = .ok (.iaload, 1) := by decide +kernel
theorem dL_law_583 : decode cL_law 583 = .ok (.aload_n 3, 1) := by decide +kernel
theorem dL_law_584 : decode cL_law 584 = .ok (.invokestatic 97, 3) := by decide +kernel
theorem dL_law_587 : decode cL_law 587 = .ok (.istore 5, 2) := by decide +kernel
theorem dL_law_589 : decode cL_law 589 = .ok (.aload_n 2, 1) := by decide +kernel
theorem dL_law_590 : decode cL_law 590 = .ok (.aload_n 0, 1) := by decide +kernel
theorem dL_law_591 : decode cL_law 591 = .ok (.iload 4, 2) := by decide +kernel
theorem dL_law_593 : decode cL_law 593 = .ok (.iconst 1, 1) := by decide +kernel
theorem dL_law_594 : decode cL_law 594 = .ok (.iadd, 1) := by decide +kernel
theorem dL_law_595 : decode cL_law 595 = .ok (.iaload, 1) := by decide +kernel
theorem dL_law_596 : decode cL_law 596 = .ok (.aload_n 0, 1) := by decide +kernel
theorem dL_law_597 : decode cL_law 597 = .ok (.iload 4, 2) := by decide +kernel
theorem dL_law_599 : decode cL_law 599 = .ok (.iconst 2, 1) := by decide +kernel
theorem dL_law_600 : decode cL_law 600 = .ok (.iadd, 1) := by decide +kernel
theorem dL_law_601 : decode cL_law 601 = .ok (.iaload, 1) := by decide +kernel
theorem dL_law_602 : decode cL_law 602 = .ok (.invokevirtual 99, 3) := by decide +kernel
theorem dL_law_605 : decode cL_law 605 = .ok (.istore 6, 2) := by decide +kernel
theorem dL_law_607 : decode cL_law 607 = .ok (.goto 723, 3) := by decide +kernel
theorem dL_law_610 : decode cL_law 610 = .ok (.aload_n 1, 1) := by decide +kernel
theorem dL_law_611 : decode cL_law 611 = .ok (.aload_n 0, 1) := by decide +kernel
theorem dL_law_612 : decode cL_law 612 = .ok (.iload 4, 2) := by decide +kernel
theorem dL_law_614 : decode cL_law 614 = .ok (.iconst 1, 1) := by decide +kernel
theorem dL_law_615 : decode cL_law 615 = .ok (.iadd, 1) := by decide +kernel
theorem dL_law_616 : decode cL_law 616 = .ok (.iaload, 1) := by decide +kernel
theorem dL_law_617 : decode cL_law 617 = .ok (.aload_n 3, 1) := by decide +kernel
theorem dL_law_618 : decode cL_law 618 = .ok (.invokestatic 100, 3) := by decide +kernel
theorem dL_law_621 : decode cL_law 621 = .ok (.istore 5, 2) := by decide +kernel
theorem dL_law_623 : decode cL_law 623 = .ok (.aload_n 2, 1) := by decide +kernel
theorem dL_law_624 : decode cL_law 624 = .ok (.aload_n 0, 1) := by decide +kernel
theorem dL_law_625 : decode cL_law 625 = .ok (.iload 4, 2) := by decide +kernel
theorem dL_law_627 : decode cL_law 627 = .ok (.iconst 1, 1) := by decide +kernel
theorem dL_law_628 : decode cL_law 628 = .ok (.iadd, 1) := by decide +kernel
theorem dL_law_629 : decode cL_law 629 = .ok (.iaload, 1) := by decide +kernel
theorem dL_law_630 : decode cL_law 630 = .ok (.invokevirtual 102, 3) := by decide +kernel
theorem dL_law_633 : decode cL_law 633 = .ok (.istore 6, 2) := by decide +kernel
theorem dL_law_635 : decode cL_law 635 = .ok (.goto 695, 3) := by decide +kernel
theorem dL_law_638 : decode cL_law 638 = .ok (.aload_n 1, 1) := by decide +kernel
theorem dL_law_639 : decode cL_law 639 = .ok (.aload_n 0, 1) := by decide +kernel
theorem dL_law_640 : decode cL_law 640 = .ok (.iload 4, 2) := by decide +kernel
theorem dL_law_642 : decode cL_law 642 = .ok (.iconst 1, 1) := by decide +kernel
theorem dL_law_643 : decode cL_law 643 = .ok (.iadd, 1) := by decide +kernel
theorem dL_law_644 : decode cL_law 644 = .ok (.iaload, 1) := by decide +kernel
theorem dL_law_645 : decode cL_law 645 = .ok (.aload_n 0, 1) := by decide +kernel
theorem dL_law_646 : decode cL_law 646 = .ok (.iload 4, 2) := by decide +kernel
theorem dL_law_648 : decode cL_law 648 = .ok (.iconst 2, 1) := by decide +kernel
theorem dL_law_649 : decode cL_law 649 = .ok (.iadd, 1) := by decide +kernel
theorem dL_law_650 : decode cL_law 650 = .ok (.iaload, 1) := by decide +kernel
theorem dL_law_651 : decode cL_law 651 = .ok (.aload_n 3, 1) := by decide +kernel
theorem dL_law_652 : decode cL_law 652 = .ok (.invokestatic 103, 3) := by decide +kernel
theorem dL_law_655 : decode cL_law 655 = .ok (.istore 5, 2) := by decide +kernel
theorem dL_law_657 : decode cL_law 657 = .ok (.aload_n 2, 1) := by decide +kernel
theorem dL_law_658 : decode cL_law 658 = .ok (.aload_n 0, 1) := by decide +kernel
theorem dL_law_659 : decode cL_law 659 = .ok (.iload 4, 2) := by decide +kernel
theorem dL_law_661 : decode cL_law 661 = .ok (.iconst 1, 1) := by decide +kernel
theorem dL_law_662 : decode cL_law 662 = .ok (.iadd, 1) := by decide +kernel
theorem dL_law_663 : decode cL_law 663 = .ok (.iaload, 1) := by decide +kernel
theorem dL_law_664 : decode cL_law 664 = .ok (.aload_n 0, 1) := by decide +kernel
theorem dL_law_665 : decode cL_law 665 = .ok (.iload 4, 2) := by decide +kernel
theorem dL_law_667 : decode cL_law 667 = .ok (.iconst 2, 1) := by decide +kernel
theorem dL_law_668 : decode cL_law 668 = .ok (.iadd, 1) := by decide +kernel
theorem dL_law_669 : decode cL_law 669 = .ok (.iaload, 1) := by decide +kernel
theorem dL_law_670 : decode cL_law 670 = .ok (.invokevirtual 105, 3) := by decide +kernel
theorem dL_law_673 : decode cL_law 673 = .ok (.istore 6, 2) := by decide +kernel
theorem dL_law_675 : decode cL_law 675 = .ok (.goto 655, 3) := by decide +kernel
theorem dL_law_678 : decode cL_law 678 = .ok (.aload_n 1, 1) := by decide +kernel
theorem dL_law_679 : decode cL_law 679 = .ok (.aload_n 0, 1) := by decide +kernel
theorem dL_law_680 : decode cL_law 680 = .ok (.iload 4, 2) := by decide +kernel
theorem dL_law_682 : decode cL_law 682 = .ok (.iconst 1, 1) := by decide +kernel
theorem dL_law_683 : decode cL_law 683 = .ok (.iadd, 1) := by decide +kernel
theorem dL_law_684 : decode cL_law 684 = .ok (.iaload, 1) := by decide +kernel
theorem dL_law_685 : decode cL_law 685 = .ok (.aload_n 3, 1) := by decide +kernel
theorem dL_law_686 : decode cL_law 686 = .ok (.invokestatic 106, 3) := by decide +kernel
theorem dL_law_689 : decode cL_law 689 = .ok (.istore 5, 2) := by decide +kernel
theorem dL_law_691 : decode cL_law 691 = .ok (.aload_n 2, 1) := by decide +kernel
theorem dL_law_692 : decode cL_law 692 = .ok (.aload_n 0, 1) := by decide +kernel
theorem dL_law_693 : decode cL_law 693 = .ok (.iload 4, 2) := by decide +kernel
theorem dL_law_695 : decode cL_law 695 = .ok (.iconst 1, 1) := by decide +kernel
theorem dL_law_696 : decode cL_law 696 = .ok (.iadd, 1) := by decide +kernel
theorem dL_law_697 : decode cL_law 697 = .ok (.iaload, 1) := by decide +kernel
theorem dL_law_698 : decode cL_law 698 = .ok (.invokevirtual 108, 3) := by decide +kernel
theorem dL_law_701 : decode cL_law 701 = .ok (.istore 6, 2) := by decide +kernel
theorem dL_law_703 : decode cL_law 703 = .ok (.goto 627, 3) := by decide +kernel
theorem dL_law_706 : decode cL_law 706 = .ok (.aload_n 1, 1) := by decide +kernel
theorem dL_law_707 : decode cL_law 707 = .ok (.aload_n 0, 1) := by decide +kernel
theorem dL_law_708 : decode cL_law 708 = .ok (.iload 4, 2) := by decide +kernel
theorem dL_law_710 : decode cL_law 710 = .ok (.iconst 1, 1) := by decide +kernel
theorem dL_law_711 : decode cL_law 711 = .ok (.iadd, 1) := by decide +kernel
theorem dL_law_712 : decode cL_law 712 = .ok (.iaload, 1) := by decide +kernel
theorem dL_law_713 : decode cL_law 713 = .ok (.invokevirtual 109, 3) := by decide +kernel
theorem dL_law_716 : decode cL_law 716 = .ok (.pop, 1) := by decide +kernel
theorem dL_law_717 : decode cL_law 717 = .ok (.aload_n 2, 1) := by decide +kernel
theorem dL_law_718 : decode cL_law 718 = .ok (.aload_n 0, 1) := by decide +kernel
theorem dL_law_719 : decode cL_law 719 = .ok (.iload 4, 2) := by decide +kernel
theorem dL_law_721 : decode cL_law 721 = .ok (.iconst 1, 1) := by decide +kernel
theorem dL_law_722 : decode cL_law 722 = .ok (.iadd, 1) := by decide +kernel
theorem dL_law_723 : decode cL_law 723 = .ok (.iaload, 1) := by decide +kernel
theorem dL_law_724 : decode cL_law 724 = .ok (.invokevirtual 112, 3) := by decide +kernel
theorem dL_law_727 : decode cL_law 727 = .ok (.pop, 1) := by decide +kernel
theorem dL_law_728 : decode cL_law 728 = .ok (.goto 602, 3) := by decide +kernel
theorem dL_law_731 : decode cL_law 731 = .ok (.aload_n 1, 1) := by decide +kernel
theorem dL_law_732 : decode cL_law 732 = .ok (.aload_n 0, 1) := by decide +kernel
theorem dL_law_733 : decode cL_law 733 = .ok (.iload 4, 2) := by decide +kernel
theorem dL_law_735 : decode cL_law 735 = .ok (.iconst 1, 1) := by decide +kernel
theorem dL_law_736 : decode cL_law 736 = .ok (.iadd, 1) := by decide +kernel
theorem dL_law_737 : decode cL_law 737 = .ok (.iaload, 1) := by decide +kernel
theorem dL_law_738 : decode cL_law 738 = .ok (.aload_n 0, 1) := by decide +kernel
theorem dL_law_739 : decode cL_law 739 = .ok (.iload 4, 2) := by decide +kernel
theorem dL_law_741 : decode cL_law 741 = .ok (.iconst 2, 1) := by decide +kernel
theorem dL_law_742 : decode cL_law 742 = .ok (.iadd, 1) := by decide +kernel
theorem dL_law_743 : decode cL_law 743 = .ok (.iaload, 1) := by decide +kernel
theorem dL_law_744 : decode cL_law 744 = .ok (.aload_n 0, 1) := by decide +kernel
theorem dL_law_745 : decode cL_law 745 = .ok (.iload 4, 2) := by decide +kernel
theorem dL_law_747 : decode cL_law 747 = .ok (.iconst 3, 1) := by decide +kernel
theorem dL_law_748 : decode cL_law 748 = .ok (.iadd, 1) := by decide +kernel
theorem dL_law_749 : decode cL_law 749 = .ok (.iaload, 1) := by decide +kernel
theorem dL_law_750 : decode cL_law 750 = .ok (.aload_n 0, 1) := by decide +kernel
theorem dL_law_751 : decode cL_law 751 = .ok (.iload 4, 2) := by decide +kernel
theorem dL_law_753 : decode cL_law 753 = .ok (.iconst 4, 1) := by decide +kernel
theorem dL_law_754 : decode cL_law 754 = .ok (.iadd, 1) := by decide +kernel
theorem dL_law_755 : decode cL_law 755 = .ok (.iaload, 1) := by decide +kernel
theorem dL_law_756 : decode cL_law 756 = .ok (.invokevirtual 113, 3) := by decide +kernel
theorem dL_law_759 : decode cL_law 759 = .ok (.pop, 1) := by decide +kernel
theorem dL_law_760 : decode cL_law 760 = .ok (.aload_n 2, 1) := by decide +kernel
theorem dL_law_761 : decode cL_law 761 = .ok (.aload_n 0, 1) := by decide +kernel
theorem dL_law_762 : decode cL_law 762 = .ok (.iload 4, 2) := by decide +kernel
theorem dL_law_764 : decode cL_law 764 = .ok (.iconst 1, 1) := by decide +kernel
theorem dL_law_765 : decode cL_law 765 = .ok (.iadd, 1) := by decide +kernel
theorem dL_law_766 : decode cL_law 766 = .ok (.iaload, 1) := by decide +kernel
theorem dL_law_767 : decode cL_law 767 = .ok (.aload_n 0, 1) := by decide +kernel
theorem dL_law_768 : decode cL_law 768 = .ok (.iload 4, 2) := by decide +kernel
theorem dL_law_770 : decode cL_law 770 = .ok (.iconst 2, 1) := by decide +kernel
theorem dL_law_771 : decode cL_law 771 = .ok (.iadd, 1) := by decide +kernel
theorem dL_law_772 : decode cL_law 772 = .ok (.iaload, 1) := by decide +kernel
theorem dL_law_773 : decode cL_law 773 = .ok (.aload_n 0, 1) := by decide +kernel
theorem dL_law_774 : decode cL_law 774 = .ok (.iload 4, 2) := by decide +kernel
theorem dL_law_776 : decode cL_law 776 = .ok (.iconst 3, 1) := by decide +kernel
theorem dL_law_777 : decode cL_law 777 = .ok (.iadd, 1) := by decide +kernel
theorem dL_law_778 : decode cL_law 778 = .ok (.iaload, 1) := by decide +kernel
theorem dL_law_779 : decode cL_law 779 = .ok (.aload_n 0, 1) := by decide +kernel
theorem dL_law_780 : decode cL_law 780 = .ok (.iload 4, 2) := by decide +kernel
theorem dL_law_782 : decode cL_law 782 = .ok (.iconst 4, 1) := by decide +kernel
theorem dL_law_783 : decode cL_law 783 = .ok (.iadd, 1) := by decide +kernel
theorem dL_law_784 : decode cL_law 784 = .ok (.iaload, 1) := by decide +kernel
theorem dL_law_785 : decode cL_law 785 = .ok (.invokevirtual 117, 3) := by decide +kernel
theorem dL_law_788 : decode cL_law 788 = .ok (.pop, 1) := by decide +kernel
theorem dL_law_789 : decode cL_law 789 = .ok (.goto 541, 3) := by decide +kernel
theorem dL_law_792 : decode cL_law 792 = .ok (.aload_n 1, 1) := by decide +kernel
theorem dL_law_793 : decode cL_law 793 = .ok (.aload_n 0, 1) := by decide +kernel
theorem dL_law_794 : decode cL_law 794 = .ok (.iload 4, 2) := by decide +kernel
theorem dL_law_796 : decode cL_law 796 = .ok (.iconst 1, 1) := by decide +kernel
theorem dL_law_797 : decode cL_law 797 = .ok (.iadd, 1) := by decide +kernel
theorem dL_law_798 : decode cL_law 798 = .ok (.iaload, 1) := by decide +kernel
theorem dL_law_799 : decode cL_law 799 = .ok (.aload_n 0, 1) := by decide +kernel
theorem dL_law_800 : decode cL_law 800 = .ok (.iload 4, 2) := by decide +kernel
theorem dL_law_802 : decode cL_law 802 = .ok (.iconst 2, 1) := by decide +kernel
theorem dL_law_803 : decode cL_law 803 = .ok (.iadd, 1) := by decide +kernel
theorem dL_law_804 : decode cL_law 804 = .ok (.iaload, 1) := by decide +kernel
theorem dL_law_805 : decode cL_law 805 = .ok (.invokevirtual 118, 3) := by decide +kernel
theorem dL_law_808 : decode cL_law 808 = .ok (.pop, 1) := by decide +kernel
theorem dL_law_809 : decode cL_law 809 = .ok (.aload_n 2, 1) := by decide +kernel
theorem dL_law_810 : decode cL_law 810 = .ok (.aload_n 0, 1) := by decide +kernel
theorem dL_law_811 : decode cL_law 811 = .ok (.iload 4, 2) := by decide +kernel
theorem dL_law_813 : decode cL_law 813 = .ok (.iconst 1, 1) := by decide +kernel
theorem dL_law_814 : decode cL_law 814 = .ok (.iadd, 1) := by decide +kernel
theorem dL_law_815 : decode cL_law 815 = .ok (.iaload, 1) := by decide +kernel
theorem dL_law_816 : decode cL_law 816 = .ok (.aload_n 0, 1) := by decide +kernel
theorem dL_law_817 : decode cL_law 817 = .ok (.iload 4, 2) := by decide +kernel
theorem dL_law_819 : decode cL_law 819 = .ok (.iconst 2, 1) := by decide +kernel
theorem dL_law_820 : decode cL_law 820 = .ok (.iadd, 1) := by decide +kernel
theorem dL_law_821 : decode cL_law 821 = .ok (.iaload, 1) := by decide +kernel
theorem dL_law_822 : decode cL_law 822 = .ok (.invokevirtual 121, 3) := by decide +kernel
theorem dL_law_825 : decode cL_law 825 = .ok (.pop, 1) := by decide +kernel
theorem dL_law_826 : decode cL_law 826 = .ok (.goto 504, 3) := by decide +kernel
theorem dL_law_829 : decode cL_law 829 = .ok (.aload_n 1, 1) := by decide +kernel
theorem dL_law_830 : decode cL_law 830 = .ok (.aload_n 0, 1) := by decide +kernel
theorem dL_law_831 : decode cL_law 831 = .ok (.iload 4, 2) := by decide +kernel
theorem dL_law_833 : decode cL_law 833 = .ok (.iconst 1, 1) := by decide +kernel
theorem dL_law_834 : decode cL_law 834 = .ok (.iadd, 1) := by decide +kernel
theorem dL_law_835 : decode cL_law 835 = .ok (.iaload, 1) := by decide +kernel
theorem dL_law_836 : decode cL_law 836 = .ok (.invokevirtual 122, 3) := by decide +kernel
theorem dL_law_839 : decode cL_law 839 = .ok (.pop, 1) := by decide +kernel
theorem dL_law_840 : decode cL_law 840 = .ok (.aload_n 2, 1) := by decide +kernel
theorem dL_law_841 : decode cL_law 841 = .ok (.aload_n 0, 1) := by decide +kernel
theorem dL_law_842 : decode cL_law 842 = .ok (.iload 4, 2) := by decide +kernel
theorem dL_law_844 : decode cL_law 844 = .ok (.iconst 1, 1) := by decide +kernel
theorem dL_law_845 : decode cL_law 845 = .ok (.iadd, 1) := by decide +kernel
theorem dL_law_846 : decode cL_law 846 = .ok (.iaload, 1) := by decide +kernel
theorem dL_law_847 : decode cL_law 847 = .ok (.invokevirtual 125, 3) := by decide +kernel
theorem dL_law_850 : decode cL_law 850 = .ok (.pop, 1) := by decide +kernel
theorem dL_law_851 : decode cL_law 851 = .ok (.goto 479, 3) := by decide +kernel
theorem dL_law_854 : decode cL_law 854 = .ok (.aload_n 1, 1) := by decide +kernel
theorem dL_law_855 : decode cL_law 855 = .ok (.aload_n 0, 1) := by decide +kernel
theorem dL_law_856 : decode cL_law 856 = .ok (.iload 4, 2) := by decide +kernel
theorem dL_law_858 : decode cL_law 858 = .ok (.iconst 1, 1) := by decide +kernel
theorem dL_law_859 : decode cL_law 859 = .ok (.iadd, 1) := by decide +kernel
theorem dL_law_860 : decode cL_law 860 = .ok (.iaload, 1) := by decide +kernel
theorem dL_law_861 : decode cL_law 861 = .ok (.invokevirtual 126, 3) := by decide +kernel
theorem dL_law_864 : decode cL_law 864 = .ok (.pop, 1) := by decide +kernel
theorem dL_law_865 : decode cL_law 865 = .ok (.aload_n 2, 1) := by decide +kernel
theorem dL_law_866 : decode cL_law 866 = .ok (.aload_n 0, 1) := by decide +kernel
theorem dL_law_867 : decode cL_law 867 = .ok (.iload 4, 2) := by decide +kernel
theorem dL_law_869 : decode cL_law 869 = .ok (.iconst 1, 1) := by decide +kernel
theorem dL_law_870 : decode cL_law 870 = .ok (.iadd, 1) := by decide +kernel
theorem dL_law_871 : decode cL_law 871 = .ok (.iaload, 1) := by decide +kernel
theorem dL_law_872 : decode cL_law 872 = .ok (.invokevirtual 129, 3) := by decide +kernel
theorem dL_law_875 : decode cL_law 875 = .ok (.pop, 1) := by decide +kernel
theorem dL_law_876 : decode cL_law 876 = .ok (.goto 454, 3) := by decide +kernel
theorem dL_law_879 : decode cL_law 879 = .ok (.aload_n 1, 1) := by decide +kernel
theorem dL_law_880 : decode cL_law 880 = .ok (.aload_n 0, 1) := by decide +kernel
theorem dL_law_881 : decode cL_law 881 = .ok (.iload 4, 2) := by decide +kernel
theorem dL_law_883 : decode cL_law 883 = .ok (.iconst 1, 1) := by decide +kernel
theorem dL_law_884 : decode cL_law 884 = .ok (.iadd, 1) := by decide +kernel
theorem dL_law_885 : decode cL_law 885 = .ok (.iaload, 1) := by decide +kernel
theorem dL_law_886 : decode cL_law 886 = .ok (.aload_n 0, 1) := by decide +kernel
theorem dL_law_887 : decode cL_law 887 = .ok (.iload 4, 2) := by decide +kernel
theorem dL_law_889 : decode cL_law 889 = .ok (.iconst 2, 1) := by decide +kernel
theorem dL_law_890 : decode cL_law 890 = .ok (.iadd, 1) := by decide +kernel
theorem dL_law_891 : decode cL_law 891 = .ok (.iaload, 1) := by decide +kernel
theorem dL_law_892 : decode cL_law 892 = .ok (.invokevirtual 130, 3) := by decide +kernel
theorem dL_law_895 : decode cL_law 895 = .ok (.pop, 1) := by decide +kernel
theorem dL_law_896 : decode cL_law 896 = .ok (.aload_n 2, 1) := by decide +kernel
theorem dL_law_897 : decode cL_law 897 = .ok (.aload_n 0, 1) := by decide +kernel
theorem dL_law_898 : decode cL_law 898 = .ok (.iload 4, 2) := by decide +kernel
theorem dL_law_900 : decode cL_law 900 = .ok (.iconst 1, 1) := by decide +kernel
theorem dL_law_901 : decode cL_law 901 = .ok (.iadd, 1) := by decide +kernel
theorem dL_law_902 : decode cL_law 902 = .ok (.iaload, 1) := by decide +kernel
theorem dL_law_903 : decode cL_law 903 = .ok (.aload_n 0, 1) := by decide +kernel
theorem dL_law_904 : decode cL_law 904 = .ok (.iload 4, 2) := by decide +kernel
theorem dL_law_906 : decode cL_law 906 = .ok (.iconst 2, 1) := by decide +kernel
theorem dL_law_907 : decode cL_law 907 = .ok (.iadd, 1) := by decide +kernel
theorem dL_law_908 : decode cL_law 908 = .ok (.iaload, 1) := by decide +kernel
theorem dL_law_909 : decode cL_law 909 = .ok (.invokevirtual 133, 3) := by decide +kernel
theorem dL_law_912 : decode cL_law 912 = .ok (.pop, 1) := by decide +kernel
theorem dL_law_913 : decode cL_law 913 = .ok (.goto 417, 3) := by decide +kernel
theorem dL_law_916 : decode cL_law 916 = .ok (.aload_n 1, 1) := by decide +kernel
theorem dL_law_917 : decode cL_law 917 = .ok (.aload_n 0, 1) := by decide +kernel
theorem dL_law_918 : decode cL_law 918 = .ok (.iload 4, 2) := by decide +kernel
theorem dL_law_920 : decode cL_law 920 = .ok (.iconst 1, 1) := by decide +kernel
theorem dL_law_921 : decode cL_law 921 = .ok (.iadd, 1) := by decide +kernel
theorem dL_law_922 : decode cL_law 922 = .ok (.iaload, 1) := by decide +kernel
theorem dL_law_923 : decode cL_law 923 = .ok (.aload_n 0, 1) := by decide +kernel
theorem dL_law_924 : decode cL_law 924 = .ok (.iload 4, 2) := by decide +kernel
theorem dL_law_926 : decode cL_law 926 = .ok (.iconst 2, 1) := by decide +kernel
theorem dL_law_927 : decode cL_law 927 = .ok (.iadd, 1) := by decide +kernel
theorem dL_law_928 : decode cL_law 928 = .ok (.iaload, 1) := by decide +kernel
theorem dL_law_929 : decode cL_law 929 = .ok (.invokevirtual 134, 3) := by decide +kernel
theorem dL_law_932 : decode cL_law 932 = .ok (.pop, 1) := by decide +kernel
theorem dL_law_933 : decode cL_law 933 = .ok (.aload_n 2, 1) := by decide +kernel
theorem dL_law_934 : decode cL_law 934 = .ok (.aload_n 0, 1) := by decide +kernel
theorem dL_law_935 : decode cL_law 935 = .ok (.iload 4, 2) := by decide +kernel
theorem dL_law_937 : decode cL_law 937 = .ok (.iconst 1, 1) := by decide +kernel
theorem dL_law_938 : decode cL_law 938 = .ok (.iadd, 1) := by decide +kernel
theorem dL_law_939 : decode cL_law 939 = .ok (.iaload, 1) := by decide +kernel
theorem dL_law_940 : decode cL_law 940 = .ok (.aload_n 0, 1) := by decide +kernel
theorem dL_law_941 : decode cL_law 941 = .ok (.iload 4, 2) := by decide +kernel
theorem dL_law_943 : decode cL_law 943 = .ok (.iconst 2, 1) := by decide +kernel
theorem dL_law_944 : decode cL_law 944 = .ok (.iadd, 1) := by decide +kernel
theorem dL_law_945 : decode cL_law 945 = .ok (.iaload, 1) := by decide +kernel
theorem dL_law_946 : decode cL_law 946 = .ok (.invokevirtual 137, 3) := by decide +kernel
theorem dL_law_949 : decode cL_law 949 = .ok (.pop, 1) := by decide +kernel
theorem dL_law_950 : decode cL_law 950 = .ok (.goto 380, 3) := by decide +kernel
theorem dL_law_953 : decode cL_law 953 = .ok (.aload_n 1, 1) := by decide +kernel
theorem dL_law_954 : decode cL_law 954 = .ok (.aload_n 0, 1) := by decide +kernel
theorem dL_law_955 : decode cL_law 955 = .ok (.iload 4, 2) := by decide +kernel
theorem dL_law_957 : decode cL_law 957 = .ok (.iconst 1, 1) := by decide +kernel
theorem dL_law_958 : decode cL_law 958 = .ok (.iadd, 1) := by decide +kernel
theorem dL_law_959 : decode cL_law 959 = .ok (.iaload, 1) := by decide +kernel
theorem dL_law_960 : decode cL_law 960 = .ok (.aload_n 0, 1) := by decide +kernel
theorem dL_law_961 : decode cL_law 961 = .ok (.iload 4, 2) := by decide +kernel
theorem dL_law_963 : decode cL_law 963 = .ok (.iconst 2, 1) := by decide +kernel
theorem dL_law_964 : decode cL_law 964 = .ok (.iadd, 1) := by decide +kernel
theorem dL_law_965 : decode cL_law 965 = .ok (.iaload, 1) := by decide +kernel
theorem dL_law_966 : decode cL_law 966 = .ok (.invokevirtual 138, 3) := by decide +kernel
theorem dL_law_969 : decode cL_law 969 = .ok (.pop, 1) := by decide +kernel
theorem dL_law_970 : decode cL_law 970 = .ok (.aload_n 2, 1) := by decide +kernel
theorem dL_law_971 : decode cL_law 971 = .ok (.aload_n 0, 1) := by decide +kernel
theorem dL_law_972 : decode cL_law 972 = .ok (.iload 4, 2) := by decide +kernel
theorem dL_law_974 : decode cL_law 974 = .ok (.iconst 1, 1) := by decide +kernel
theorem dL_law_975 : decode cL_law 975 = .ok (.iadd, 1) := by decide +kernel
theorem dL_law_976 : decode cL_law 976 = .ok (.iaload, 1) := by decide +kernel
theorem dL_law_977 : decode cL_law 977 = .ok (.aload_n 0, 1) := by decide +kernel
theorem dL_law_978 : decode cL_law 978 = .ok (.iload 4, 2) := by decide +kernel
theorem dL_law_980 : decode cL_law 980 = .ok (.iconst 2, 1) := by decide +kernel
theorem dL_law_981 : decode cL_law 981 = .ok (.iadd, 1) := by decide +kernel
theorem dL_law_982 : decode cL_law 982 = .ok (.iaload, 1) := by decide +kernel
theorem dL_law_983 : decode cL_law 983 = .ok (.invokevirtual 141, 3) := by decide +kernel
theorem dL_law_986 : decode cL_law 986 = .ok (.pop, 1) := by decide +kernel
theorem dL_law_987 : decode cL_law 987 = .ok (.goto 343, 3) := by decide +kernel
theorem dL_law_990 : decode cL_law 990 = .ok (.aload_n 1, 1) := by decide +kernel
theorem dL_law_991 : decode cL_law 991 = .ok (.aload_n 0, 1) := by decide +kernel
theorem dL_law_992 : decode cL_law 992 = .ok (.iload 4, 2) := by decide +kernel
theorem dL_law_994 : decode cL_law 994 = .ok (.iconst 1, 1) := by decide +kernel
theorem dL_law_995 : decode cL_law 995 = .ok (.iadd, 1) := by decide +kernel
theorem dL_law_996 : decode cL_law 996 = .ok (.iaload, 1) := by decide +kernel
theorem dL_law_997 : decode cL_law 997 = .ok (.invokevirtual 142, 3) := by decide +kernel
theorem dL_law_1000 : decode cL_law 1000 = .ok (.pop, 1) := by decide +kernel
theorem dL_law_1001 : decode cL_law 1001 = .ok (.aload_n 2, 1) := by decide +kernel
theorem dL_law_1002 : decode cL_law 1002 = .ok (.aload_n 0, 1) := by decide +kernel
theorem dL_law_1003 : decode cL_law 1003 = .ok (.iload 4, 2) := by decide +kernel
theorem dL_law_1005 : decode cL_law 1005 = .ok (.iconst 1, 1) := by decide +kernel
theorem dL_law_1006 : decode cL_law 1006 = .ok (.iadd, 1) := by decide +kernel
theorem dL_law_1007 : decode cL_law 1007 = .ok (.iaload, 1) := by decide +kernel
theorem dL_law_1008 : decode cL_law 1008 = .ok (.invokevirtual 145, 3) := by decide +kernel
theorem dL_law_1011 : decode cL_law 1011 = .ok (.pop, 1) := by decide +kernel
theorem dL_law_1012 : decode cL_law 1012 = .ok (.goto 318, 3) := by decide +kernel
theorem dL_law_1015 : decode cL_law 1015 = .ok (.aload_n 1, 1) := by decide +kernel
theorem dL_law_1016 : decode cL_law 1016 = .ok (.aload_n 0, 1) := by decide +kernel
theorem dL_law_1017 : decode cL_law 1017 = .ok (.iload 4, 2) := by decide +kernel
theorem dL_law_1019 : decode cL_law 1019 = .ok (.iconst 1, 1) := by decide +kernel
theorem dL_law_1020 : decode cL_law 1020 = .ok (.iadd, 1) := by decide +kernel
theorem dL_law_1021 : decode cL_law 1021 = .ok (.iaload, 1) := by decide +kernel
theorem dL_law_1022 : decode cL_law 1022 = .ok (.aload_n 0, 1) := by decide +kernel
theorem dL_law_1023 : decode cL_law 1023 = .ok (.iload 4, 2) := by decide +kernel
theorem dL_law_1025 : decode cL_law 1025 = .ok (.iconst 2, 1) := by decide +kernel
theorem dL_law_1026 : decode cL_law 1026 = .ok (.iadd, 1) := by decide +kernel
theorem dL_law_1027 : decode cL_law 1027 = .ok (.iaload, 1) := by decide +kernel
theorem dL_law_1028 : decode cL_law 1028 = .ok (.aload_n 0, 1) := by decide +kernel
theorem dL_law_1029 : decode cL_law 1029 = .ok (.iload 4, 2) := by decide +kernel
theorem dL_law_1031 : decode cL_law 1031 = .ok (.iconst 3, 1) := by decide +kernel
theorem dL_law_1032 : decode cL_law 1032 = .ok (.iadd, 1) := by decide +kernel
theorem dL_law_1033 : decode cL_law 1033 = .ok (.iaload, 1) := by decide +kernel
theorem dL_law_1034 : decode cL_law 1034 = .ok (.invokevirtual 146, 3) := by decide +kernel
theorem dL_law_1037 : decode cL_law 1037 = .ok (.pop, 1) := by decide +kernel
theorem dL_law_1038 : decode cL_law 1038 = .ok (.aload_n 2, 1) := by decide +kernel
theorem dL_law_1039 : decode cL_law 1039 = .ok (.aload_n 0, 1) := by decide +kernel
theorem dL_law_1040 : decode cL_law 1040 = .ok (.iload 4, 2) := by decide +kernel
theorem dL_law_1042 : decode cL_law 1042 = .ok (.iconst 1, 1) := by decide +kernel
theorem dL_law_1043 : decode cL_law 1043 = .ok (.iadd, 1) := by decide +kernel
theorem dL_law_1044 : decode cL_law 1044 = .ok (.iaload, 1) := by decide +kernel
theorem dL_law_1045 : decode cL_law 1045 = .ok (.aload_n 0, 1) := by decide +kernel
theorem dL_law_1046 : decode cL_law 1046 = .ok (.iload 4, 2) := by decide +kernel
theorem dL_law_1048 : decode cL_law 1048 = .ok (.iconst 2, 1) := by decide +kernel
theorem dL_law_1049 : decode cL_law 1049 = .ok (.iadd, 1) := by decide +kernel
theorem dL_law_1050 : decode cL_law 1050 = .ok (.iaload, 1) := by decide +kernel
theorem dL_law_1051 : decode cL_law 1051 = .ok (.aload_n 0, 1) := by decide +kernel
theorem dL_law_1052 : decode cL_law 1052 = .ok (.iload 4, 2) := by decide +kernel
theorem dL_law_1054 : decode cL_law 1054 = .ok (.iconst 3, 1) := by decide +kernel
theorem dL_law_1055 : decode cL_law 1055 = .ok (.iadd, 1) := by decide +kernel
theorem dL_law_1056 : decode cL_law 1056 = .ok (.iaload, 1) := by decide +kernel
theorem dL_law_1057 : decode cL_law 1057 = .ok (.invokevirtual 149, 3) := by decide +kernel
theorem dL_law_1060 : decode cL_law 1060 = .ok (.pop, 1) := by decide +kernel
theorem dL_law_1061 : decode cL_law 1061 = .ok (.goto 269, 3) := by decide +kernel
theorem dL_law_1064 : decode cL_law 1064 = .ok (.aload_n 1, 1) := by decide +kernel
theorem dL_law_1065 : decode cL_law 1065 = .ok (.aload_n 0, 1) := by decide +kernel
theorem dL_law_1066 : decode cL_law 1066 = .ok (.iload 4, 2) := by decide +kernel
theorem dL_law_1068 : decode cL_law 1068 = .ok (.iconst 1, 1) := by decide +kernel
theorem dL_law_1069 : decode cL_law 1069 = .ok (.iadd, 1) := by decide +kernel
theorem dL_law_1070 : decode cL_law 1070 = .ok (.iaload, 1) := by decide +kernel
theorem dL_law_1071 : decode cL_law 1071 = .ok (.aload_n 0, 1) := by decide +kernel
theorem dL_law_1072 : decode cL_law 1072 = .ok (.iload 4, 2) := by decide +kernel
theorem dL_law_1074 : decode cL_law 1074 = .ok (.iconst 2, 1) := by decide +kernel
theorem dL_law_1075 : decode cL_law 1075 = .ok (.iadd, 1) := by decide +kernel
theorem dL_law_1076 : decode cL_law 1076 = .ok (.iaload, 1) := by decide +kernel
theorem dL_law_1077 : decode cL_law 1077 = .ok (.invokevirtual 150, 3) := by decide +kernel
theorem dL_law_1080 : decode cL_law 1080 = .ok (.pop, 1) := by decide +kernel
theorem dL_law_1081 : decode cL_law 1081 = .ok (.aload_n 2, 1) := by decide +kernel
theorem dL_law_1082 : decode cL_law 1082 = .ok (.aload_n 0, 1) := by decide +kernel
theorem dL_law_1083 : decode cL_law 1083 = .ok (.iload 4, 2) := by decide +kernel
theorem dL_law_1085 : decode cL_law 1085 = .ok (.iconst 1, 1) := by decide +kernel
theorem dL_law_1086 : decode cL_law 1086 = .ok (.iadd, 1) := by decide +kernel
theorem dL_law_1087 : decode cL_law 1087 = .ok (.iaload, 1) := by decide +kernel
theorem dL_law_1088 : decode cL_law 1088 = .ok (.aload_n 0, 1) := by decide +kernel
theorem dL_law_1089 : decode cL_law 1089 = .ok (.iload 4, 2) := by decide +kernel
theorem dL_law_1091 : decode cL_law 1091 = .ok (.iconst 2, 1) := by decide +kernel
theorem dL_law_1092 : decode cL_law 1092 = .ok (.iadd, 1) := by decide +kernel
theorem dL_law_1093 : decode cL_law 1093 = .ok (.iaload, 1) := by decide +kernel
theorem dL_law_1094 : decode cL_law 1094 = .ok (.invokevirtual 153, 3) := by decide +kernel
theorem dL_law_1097 : decode cL_law 1097 = .ok (.pop, 1) := by decide +kernel
theorem dL_law_1098 : decode cL_law 1098 = .ok (.goto 232, 3) := by decide +kernel
theorem dL_law_1101 : decode cL_law 1101 = .ok (.aload_n 1, 1) := by decide +kernel
theorem dL_law_1102 : decode cL_law 1102 = .ok (.aload_n 0, 1) := by decide +kernel
theorem dL_law_1103 : decode cL_law 1103 = .ok (.iload 4, 2) := by decide +kernel
theorem dL_law_1105 : decode cL_law 1105 = .ok (.iconst 1, 1) := by decide +kernel
theorem dL_law_1106 : decode cL_law 1106 = .ok (.iadd, 1) := by decide +kernel
theorem dL_law_1107 : decode cL_law 1107 = .ok (.iaload, 1) := by decide +kernel
theorem dL_law_1108 : decode cL_law 1108 = .ok (.invokevirtual 154, 3) := by decide +kernel
theorem dL_law_1111 : decode cL_law 1111 = .ok (.pop, 1) := by decide +kernel
theorem dL_law_1112 : decode cL_law 1112 = .ok (.aload_n 2, 1) := by decide +kernel
theorem dL_law_1113 : decode cL_law 1113 = .ok (.aload_n 0, 1) := by decide +kernel
theorem dL_law_1114 : decode cL_law 1114 = .ok (.iload 4, 2) := by decide +kernel
theorem dL_law_1116 : decode cL_law 1116 = .ok (.iconst 1, 1) := by decide +kernel
theorem dL_law_1117 : decode cL_law 1117 = .ok (.iadd, 1) := by decide +kernel
theorem dL_law_1118 : decode cL_law 1118 = .ok (.iaload, 1) := by decide +kernel
theorem dL_law_1119 : decode cL_law 1119 = .ok (.invokevirtual 157, 3) := by decide +kernel
theorem dL_law_1122 : decode cL_law 1122 = .ok (.pop, 1) := by decide +kernel
theorem dL_law_1123 : decode cL_law 1123 = .ok (.goto 207, 3) := by decide +kernel
theorem dL_law_1126 : decode cL_law 1126 = .ok (.aload_n 1, 1) := by decide +kernel
theorem dL_law_1127 : decode cL_law 1127 = .ok (.aload_n 0, 1) := by decide +kernel
theorem dL_law_1128 : decode cL_law 1128 = .ok (.iload 4, 2) := by decide +kernel
theorem dL_law_1130 : decode cL_law 1130 = .ok (.iconst 1, 1) := by decide +kernel
theorem dL_law_1131 : decode cL_law 1131 = .ok (.iadd, 1) := by decide +kernel
theorem dL_law_1132 : decode cL_law 1132 = .ok (.iaload, 1) := by decide +kernel
theorem dL_law_1133 : decode cL_law 1133 = .ok (.invokevirtual 158, 3) := by decide +kernel
theorem dL_law_1136 : decode cL_law 1136 = .ok (.pop, 1) := by decide +kernel
theorem dL_law_1137 : decode cL_law 1137 = .ok (.aload_n 2, 1) := by decide +kernel
theorem dL_law_1138 : decode cL_law 1138 = .ok (.aload_n 0, 1) := by decide +kernel
theorem dL_law_1139 : decode cL_law 1139 = .ok (.iload 4, 2) := by decide +kernel
theorem dL_law_1141 : decode cL_law 1141 = .ok (.iconst 1, 1) := by decide +kernel
theorem dL_law_1142 : decode cL_law 1142 = .ok (.iadd, 1) := by decide +kernel
theorem dL_law_1143 : decode cL_law 1143 = .ok (.iaload, 1) := by decide +kernel
theorem dL_law_1144 : decode cL_law 1144 = .ok (.invokevirtual 161, 3) := by decide +kernel
theorem dL_law_1147 : decode cL_law 1147 = .ok (.pop, 1) := by decide +kernel
theorem dL_law_1148 : decode cL_law 1148 = .ok (.goto 182, 3) := by decide +kernel
theorem dL_law_1151 : decode cL_law 1151 = .ok (.aload_n 1, 1) := by decide +kernel
theorem dL_law_1152 : decode cL_law 1152 = .ok (.aload_n 0, 1) := by decide +kernel
theorem dL_law_1153 : decode cL_law 1153 = .ok (.iload 4, 2) := by decide +kernel
theorem dL_law_1155 : decode cL_law 1155 = .ok (.iconst 1, 1) := by decide +kernel
theorem dL_law_1156 : decode cL_law 1156 = .ok (.iadd, 1) := by decide +kernel
theorem dL_law_1157 : decode cL_law 1157 = .ok (.iaload, 1) := by decide +kernel
theorem dL_law_1158 : decode cL_law 1158 = .ok (.invokevirtual 162, 3) := by decide +kernel
theorem dL_law_1161 : decode cL_law 1161 = .ok (.pop, 1) := by decide +kernel
theorem dL_law_1162 : decode cL_law 1162 = .ok (.aload_n 2, 1) := by decide +kernel
theorem dL_law_1163 : decode cL_law 1163 = .ok (.aload_n 0, 1) := by decide +kernel
theorem dL_law_1164 : decode cL_law 1164 = .ok (.iload 4, 2) := by decide +kernel
theorem dL_law_1166 : decode cL_law 1166 = .ok (.iconst 1, 1) := by decide +kernel
end
section
theorem dL_law_1167 : decode cL_law 1167 = .ok (.iadd, 1) := by decide +kernel
theorem dL_law_1168 : decode cL_law 1168 = .ok (.iaload, 1) := by decide +kernel
theorem dL_law_1169 : decode cL_law 1169 = .ok (.invokevirtual 165, 3) := by decide +kernel
theorem dL_law_1172 : decode cL_law 1172 = .ok (.pop, 1) := by decide +kernel
theorem dL_law_1173 : decode cL_law 1173 = .ok (.goto 157, 3) := by decide +kernel
theorem dL_law_1176 : decode cL_law 1176 = .ok (.aload_n 1, 1) := by decide +kernel
theorem dL_law_1177 : decode cL_law 1177 = .ok (.aload_n 0, 1) := by decide +kernel
theorem dL_law_1178 : decode cL_law 1178 = .ok (.iload 4, 2) := by decide +kernel
theorem dL_law_1180 : decode cL_law 1180 = .ok (.iconst 1, 1) := by decide +kernel
theorem dL_law_1181 : decode cL_law 1181 = .ok (.iadd, 1) := by decide +kernel
theorem dL_law_1182 : decode cL_law 1182 = .ok (.iaload, 1) := by decide +kernel
theorem dL_law_1183 : decode cL_law 1183 = .ok (.aload_n 0, 1) := by decide +kernel
theorem dL_law_1184 : decode cL_law 1184 = .ok (.iload 4, 2) := by decide +kernel
theorem dL_law_1186 : decode cL_law 1186 = .ok (.iconst 2, 1) := by decide +kernel
theorem dL_law_1187 : decode cL_law 1187 = .ok (.iadd, 1) := by decide +kernel
theorem dL_law_1188 : decode cL_law 1188 = .ok (.iaload, 1) := by decide +kernel
theorem dL_law_1189 : decode cL_law 1189 = .ok (.invokevirtual 166, 3) := by decide +kernel
theorem dL_law_1192 : decode cL_law 1192 = .ok (.pop, 1) := by decide +kernel
theorem dL_law_1193 : decode cL_law 1193 = .ok (.aload_n 2, 1) := by decide +kernel
theorem dL_law_1194 : decode cL_law 1194 = .ok (.aload_n 0, 1) := by decide +kernel
theorem dL_law_1195 : decode cL_law 1195 = .ok (.iload 4, 2) := by decide +kernel
theorem dL_law_1197 : decode cL_law 1197 = .ok (.iconst 1, 1) := by decide +kernel
theorem dL_law_1198 : decode cL_law 1198 = .ok (.iadd, 1) := by decide +kernel
theorem dL_law_1199 : decode cL_law 1199 = .ok (.iaload, 1) := by decide +kernel
theorem dL_law_1200 : decode cL_law 1200 = .ok (.aload_n 0, 1) := by decide +kernel
theorem dL_law_1201 : decode cL_law 1201 = .ok (.iload 4, 2) := by decide +kernel
theorem dL_law_1203 : decode cL_law 1203 = .ok (.iconst 2, 1) := by decide +kernel
theorem dL_law_1204 : decode cL_law 1204 = .ok (.iadd, 1) := by decide +kernel
theorem dL_law_1205 : decode cL_law 1205 = .ok (.iaload, 1) := by decide +kernel
theorem dL_law_1206 : decode cL_law 1206 = .ok (.invokevirtual 169, 3) := by decide +kernel
theorem dL_law_1209 : decode cL_law 1209 = .ok (.pop, 1) := by decide +kernel
theorem dL_law_1210 : decode cL_law 1210 = .ok (.goto 120, 3) := by decide +kernel
theorem dL_law_1213 : decode cL_law 1213 = .ok (.aload_n 1, 1) := by decide +kernel
theorem dL_law_1214 : decode cL_law 1214 = .ok (.invokevirtual 170, 3) := by decide +kernel
theorem dL_law_1217 : decode cL_law 1217 = .ok (.pop, 1) := by decide +kernel
theorem dL_law_1218 : decode cL_law 1218 = .ok (.aload_n 2, 1) := by decide +kernel
theorem dL_law_1219 : decode cL_law 1219 = .ok (.invokevirtual 173, 3) := by decide +kernel
theorem dL_law_1222 : decode cL_law 1222 = .ok (.pop, 1) := by decide +kernel
theorem dL_law_1223 : decode cL_law 1223 = .ok (.goto 107, 3) := by decide +kernel
theorem dL_law_1226 : decode cL_law 1226 = .ok (.aload_n 1, 1) := by decide +kernel
theorem dL_law_1227 : decode cL_law 1227 = .ok (.aload_n 0, 1) := by decide +kernel
theorem dL_law_1228 : decode cL_law 1228 = .ok (.iload 4, 2) := by decide +kernel
theorem dL_law_1230 : decode cL_law 1230 = .ok (.iconst 1, 1) := by decide +kernel
theorem dL_law_1231 : decode cL_law 1231 = .ok (.iadd, 1) := by decide +kernel
theorem dL_law_1232 : decode cL_law 1232 = .ok (.iaload, 1) := by decide +kernel
theorem dL_law_1233 : decode cL_law 1233 = .ok (.aload_n 0, 1) := by decide +kernel
theorem dL_law_1234 : decode cL_law 1234 = .ok (.iload 4, 2) := by decide +kernel
theorem dL_law_1236 : decode cL_law 1236 = .ok (.iconst 2, 1) := by decide +kernel
theorem dL_law_1237 : decode cL_law 1237 = .ok (.iadd, 1) := by decide +kernel
theorem dL_law_1238 : decode cL_law 1238 = .ok (.iaload, 1) := by decide +kernel
theorem dL_law_1239 : decode cL_law 1239 = .ok (.aload_n 0, 1) := by decide +kernel
theorem dL_law_1240 : decode cL_law 1240 = .ok (.iload 4, 2) := by decide +kernel
theorem dL_law_1242 : decode cL_law 1242 = .ok (.iconst 3, 1) := by decide +kernel
theorem dL_law_1243 : decode cL_law 1243 = .ok (.iadd, 1) := by decide +kernel
theorem dL_law_1244 : decode cL_law 1244 = .ok (.iaload, 1) := by decide +kernel
theorem dL_law_1245 : decode cL_law 1245 = .ok (.aload_n 3, 1) := by decide +kernel
theorem dL_law_1246 : decode cL_law 1246 = .ok (.invokestatic 174, 3) := by decide +kernel
theorem dL_law_1249 : decode cL_law 1249 = .ok (.istore 5, 2) := by decide +kernel
theorem dL_law_1251 : decode cL_law 1251 = .ok (.aload_n 2, 1) := by decide +kernel
theorem dL_law_1252 : decode cL_law 1252 = .ok (.aload_n 0, 1) := by decide +kernel
theorem dL_law_1253 : decode cL_law 1253 = .ok (.iload 4, 2) := by decide +kernel
theorem dL_law_1255 : decode cL_law 1255 = .ok (.iconst 1, 1) := by decide +kernel
theorem dL_law_1256 : decode cL_law 1256 = .ok (.iadd, 1) := by decide +kernel
theorem dL_law_1257 : decode cL_law 1257 = .ok (.iaload, 1) := by decide +kernel
theorem dL_law_1258 : decode cL_law 1258 = .ok (.aload_n 0, 1) := by decide +kernel
theorem dL_law_1259 : decode cL_law 1259 = .ok (.iload 4, 2) := by decide +kernel
theorem dL_law_1261 : decode cL_law 1261 = .ok (.iconst 2, 1) := by decide +kernel
theorem dL_law_1262 : decode cL_law 1262 = .ok (.iadd, 1) := by decide +kernel
theorem dL_law_1263 : decode cL_law 1263 = .ok (.iaload, 1) := by decide +kernel
theorem dL_law_1264 : decode cL_law 1264 = .ok (.aload_n 0, 1) := by decide +kernel
theorem dL_law_1265 : decode cL_law 1265 = .ok (.iload 4, 2) := by decide +kernel
theorem dL_law_1267 : decode cL_law 1267 = .ok (.iconst 3, 1) := by decide +kernel
theorem dL_law_1268 : decode cL_law 1268 = .ok (.iadd, 1) := by decide +kernel
theorem dL_law_1269 : decode cL_law 1269 = .ok (.iaload, 1) := by decide +kernel
theorem dL_law_1270 : decode cL_law 1270 = .ok (.invokevirtual 177, 3) := by decide +kernel
theorem dL_law_1273 : decode cL_law 1273 = .ok (.istore 6, 2) := by decide +kernel
theorem dL_law_1275 : decode cL_law 1275 = .ok (.aload_n 2, 1) := by decide +kernel
theorem dL_law_1276 : decode cL_law 1276 = .ok (.invokevirtual 178, 3) := by decide +kernel
theorem dL_law_1279 : decode cL_law 1279 = .ok (.iload 5, 2) := by decide +kernel
theorem dL_law_1281 : decode cL_law 1281 = .ok (.if_icmp .eq 5, 3) := by decide +kernel
theorem dL_law_1286 : decode cL_law 1286 = .ok (.iload 5, 2) := by decide +kernel
theorem dL_law_1288 : decode cL_law 1288 = .ok (.ifCond .ne 15, 3) := by decide +kernel
theorem dL_law_1291 : decode cL_law 1291 = .ok (.aload_n 3, 1) := by decide +kernel
theorem dL_law_1292 : decode cL_law 1292 = .ok (.iconst 0, 1) := by decide +kernel
theorem dL_law_1293 : decode cL_law 1293 = .ok (.laload, 1) := by decide +kernel
theorem dL_law_1294 : decode cL_law 1294 = .ok (.iload 6, 2) := by decide +kernel
theorem dL_law_1296 : decode cL_law 1296 = .ok (.i2l, 1) := by decide +kernel
theorem dL_law_1297 : decode cL_law 1297 = .ok (.lcmp, 1) := by decide +kernel
theorem dL_law_1298 : decode cL_law 1298 = .ok (.ifCond .eq 5, 3) := by decide +kernel
theorem dL_law_1303 : decode cL_law 1303 = .ok (.goto 27, 3) := by decide +kernel
theorem dL_law_1306 : decode cL_law 1306 = .ok (.aload_n 1, 1) := by decide +kernel
theorem dL_law_1307 : decode cL_law 1307 = .ok (.invokevirtual 181, 3) := by decide +kernel
theorem dL_law_1310 : decode cL_law 1310 = .ok (.aload_n 2, 1) := by decide +kernel
theorem dL_law_1311 : decode cL_law 1311 = .ok (.invokevirtual 184, 3) := by decide +kernel
theorem dL_law_1314 : decode cL_law 1314 = .ok (.goto 16, 3) := by decide +kernel
theorem dL_law_1317 : decode cL_law 1317 = .ok (.aload_n 1, 1) := by decide +kernel
theorem dL_law_1318 : decode cL_law 1318 = .ok (.invokevirtual 185, 3) := by decide +kernel
theorem dL_law_1321 : decode cL_law 1321 = .ok (.pop, 1) := by decide +kernel
theorem dL_law_1322 : decode cL_law 1322 = .ok (.aload_n 2, 1) := by decide +kernel
theorem dL_law_1323 : decode cL_law 1323 = .ok (.invokevirtual 189, 3) := by decide +kernel
theorem dL_law_1326 : decode cL_law 1326 = .ok (.pop, 1) := by decide +kernel
theorem dL_law_1327 : decode cL_law 1327 = .ok (.goto 3, 3) := by decide +kernel
theorem dL_law_1330 : decode cL_law 1330 = .ok (.iinc 4 6, 3) := by decide +kernel
theorem dL_law_1333 : decode cL_law 1333 = .ok (.goto (-1310), 3) := by decide +kernel
theorem dL_law_1336 : decode cL_law 1336 = .ok (.iconst 1, 1) := by decide +kernel
theorem dL_law_1337 : decode cL_law 1337 = .ok (.ireturn, 1) := by decide +kernel
end
section
/-! ===== a world by numbers of cells: shapes, ints, and where each cell lies ===== -/
abbrev tb_Sh : Type := Nat × Nat × List (Option Nat)
abbrev tb_I : Type := Nat → Nat → Int32
abbrev tb_G : Type := va_G × ClassId × ClassId × ClassId
/-- a method: its name, its bytes, its locals, what it answers, its handlers -/
abbrev tb_Mt : Type := MethodName × ByteArray × Nat × Option FieldType × List (Nat × Nat × Nat × Nat)
def tb_ftab : List (List FieldType) := [[.object "TermBank$Terms", .object "TermBank$Ledger", .array (.array .int), .array .int, .array .int, .int, .int],
  [.array .int],
  [.object "TermBank$Terms", .array .int, .array .int, .array .int, .int, .int],
  [.object "TermBank$Terms", .array .int],
  [.object "TermBank$Terms", .array .int, .int, .int, .int],
  [.array .int, .object "TermBank$Core", .object "TermBank$Symbols", .object "TermBank$Rulebook", .int, .int, .int, .int, .int, .int, .boolean],
  [.object "TermBank$Core", .object "TermBank$Terms", .object "TermBank$Matcher", .object "TermBank$Maker", .array .int, .array .int, .array .int, .int, .int],
  [.object "TermBank$Core", .object "TermBank$Terms", .object "TermBank$Matcher", .object "TermBank$Unifier", .object "TermBank$Ordering"],
  [.array .int, .array .int, .array .int, .int],
  [.object "TermBank$Symbols", .array .int, .array .int, .array .int, .array .int, .array .int, .array .int, .array .int, .array .int, .array .int, .array .int, .array .int, .int],
  [.object "TermBank$Terms", .array .int, .array .int, .array .int, .array .int, .array .int, .array .int, .array .int, .array .int, .array .int, .int, .int],
  [.object "TermBank$Symbols", .object "TermBank$Core", .object "TermBank$Core", .object "TermBank$Symbols", .object "TermBank$Terms", .object "TermBank$Ledger", .object "TermBank$Matcher", .object "TermBank$Maker", .object "TermBank$Unifier", .object "TermBank$Rulebook", .object "TermBank$Rewriter", .object "TermBank$Reader", .array .int, .int, .int, .boolean],
  [.array .int, .array .int, .array .int, .array .int, .array .int, .array .int, .array .int, .array .int, .int, .int, .int, .int, .int, .int, .int, .int, .int, .int, .array .int, .int, .int, .boolean, .array .int, .array .int, .array .int, .array .int, .array .int, .array .int, .array .int, .array .int, .boolean, .array .int, .int, .boolean, .int, .int, .int, .int, .int, .int, .int, .int, .int, .int, .int, .int, .int]]
def tb_ft (ci j : Nat) : FieldType := (tb_ftab.getD ci []).getD j .int
def tb_isr (ci j : Nat) : Bool := refKind (tb_ft ci j)
def tb_rn (adr : Nat → Nat) (v : Value) : Value := match v with
  | .ref k => .ref (adr k)
  | w => w
def tb_fv (adr : Nat → Nat) (b : Bool) (r : Option Nat) (x : Int32) : Value := if b = true then va_rf (r.map adr) else .int x
def tb_fs (adr : Nat → Nat) (ci N : Nat) (rs : List (Option Nat)) (f : Nat → Int32) : List Value := (List.range N).map fun j => tb_fv adr (tb_isr ci j) (rs.getD j none) (f j)
def tb_en (G : tb_G) (adr : Nat → Nat) (s : tb_Sh) (f : Nat → Int32) : va_E :=
  if s.1 = 100 then .inl (G.2.1, s.2.1, .inl f)
  else if s.1 = 101 then .inl (G.2.2.1, s.2.1, .inr (.inr (.inr (.inr fun i => (s.2.2.getD i none).map adr))))
  else if s.1 = 102 then .inl (G.2.2.2, s.2.1, .inr (.inl fun i => (f i).toInt64))
  else .inr (s.1, tb_fs adr s.1 s.2.1 s.2.2 f)
def tb_ws (G : tb_G) (adr : Nat → Nat) (n : Nat) (sh : Nat → tb_Sh) (I : tb_I) : va_W := (List.range n).map fun k => (adr k, tb_en G adr (sh k) (I k))
def tb_row (I : tb_I) (c : Nat) (f : Nat → Int32) : tb_I := fun k => if k = c then f else I k
def tb_up (I : tb_I) (c k : Nat) (x : Int32) : tb_I := tb_row I c (upd (I c) k x)
def tb_sup (sh : Nat → tb_Sh) (c : Nat) (s : tb_Sh) : Nat → tb_Sh := fun k => if k = c then s else sh k
def tb_ad (adr : Nat → Nat) (n q : Nat) : Nat → Nat := fun k => if k = n then q else adr k
theorem tb_ws_at {G : tb_G} {adr : Nat → Nat} {n : Nat} {sh : Nat → tb_Sh} {I : tb_I} {k : Nat} (h : k < n) : (tb_ws G adr n sh I)[k]? = some (adr k, tb_en G adr (sh k) (I k)) := by
  simp [tb_ws, h]
theorem tb_ws_len {G : tb_G} {adr : Nat → Nat} {n : Nat} {sh : Nat → tb_Sh} {I : tb_I} : (tb_ws G adr n sh I).length = n := by simp [tb_ws]
theorem tb_ws_row {G : tb_G} {adr : Nat → Nat} {n : Nat} {sh : Nat → tb_Sh} {I : tb_I} {c : Nat} (f : Nat → Int32) : (tb_ws G adr n sh I).set c (adr c, tb_en G adr (sh c) f) = tb_ws G adr n sh (tb_row I c f) := by
  apply List.ext_getElem?
  intro k
  by_cases hk : k < n
  · rw [tb_ws_at hk]
    by_cases hc : k = c
    · subst hc
      rw [List.getElem?_set_self (by rw [tb_ws_len]; exact hk)]
      simp [tb_row]
    · rw [List.getElem?_set_ne (Ne.symm hc), tb_ws_at hk]
      simp [tb_row, hc]
  · rw [List.getElem?_eq_none (by rw [List.length_set, tb_ws_len]; omega), List.getElem?_eq_none (by rw [tb_ws_len]; omega)]
theorem tb_ws_sup {G : tb_G} {adr : Nat → Nat} {n : Nat} {sh : Nat → tb_Sh} {I : tb_I} {c : Nat} (s : tb_Sh) : (tb_ws G adr n sh I).set c (adr c, tb_en G adr s (I c)) = tb_ws G adr n (tb_sup sh c s) I := by
  apply List.ext_getElem?
  intro k
  by_cases hk : k < n
  · rw [tb_ws_at hk]
    by_cases hc : k = c
    · subst hc
      rw [List.getElem?_set_self (by rw [tb_ws_len]; exact hk)]
      simp [tb_sup]
    · rw [List.getElem?_set_ne (Ne.symm hc), tb_ws_at hk]
      simp [tb_sup, hc]
  · rw [List.getElem?_eq_none (by rw [List.length_set, tb_ws_len]; omega), List.getElem?_eq_none (by rw [tb_ws_len]; omega)]
theorem tb_fs_at {adr : Nat → Nat} {ci N : Nat} {rs : List (Option Nat)} {f : Nat → Int32} {k : Nat} (h : k < N) : (tb_fs adr ci N rs f)[k]? = some (tb_fv adr (tb_isr ci k) (rs.getD k none) (f k)) := by
  simp [tb_fs, h]
theorem tb_fs_len {adr : Nat → Nat} {ci N : Nat} {rs : List (Option Nat)} {f : Nat → Int32} : (tb_fs adr ci N rs f).length = N := by simp [tb_fs]
theorem tb_fs_setI {adr : Nat → Nat} {ci N : Nat} {rs : List (Option Nat)} {f : Nat → Int32} {k : Nat} {x : Int32} (hr : tb_isr ci k = false) : (tb_fs adr ci N rs f).set k (.int x) = tb_fs adr ci N rs (upd f k x) := by
  apply List.ext_getElem?
  intro j
  by_cases hj : j < N
  · rw [tb_fs_at hj]
    by_cases hc : j = k
    · subst hc
      rw [List.getElem?_set_self (by rw [tb_fs_len]; exact hj)]
      simp [tb_fv, hr, upd]
    · rw [List.getElem?_set_ne (Ne.symm hc), tb_fs_at hj]
      simp [upd, hc]
  · rw [List.getElem?_eq_none (by rw [List.length_set, tb_fs_len]; omega), List.getElem?_eq_none (by rw [tb_fs_len]; omega)]
theorem tb_fs_setR {adr : Nat → Nat} {ci N : Nat} {rs : List (Option Nat)} {f : Nat → Int32} {k r : Nat} (hr : tb_isr ci k = true) (hl : k < rs.length) : (tb_fs adr ci N rs f).set k (.ref (adr r)) = tb_fs adr ci N (rs.set k (some r)) f := by
  apply List.ext_getElem?
  intro j
  by_cases hj : j < N
  · rw [tb_fs_at hj]
    by_cases hc : j = k
    · subst hc
      rw [List.getElem?_set_self (by rw [tb_fs_len]; exact hj)]
      simp [tb_fv, hr, va_rf, List.getD, hl]
    · rw [List.getElem?_set_ne (Ne.symm hc), tb_fs_at hj]
      simp [List.getD, List.getElem?_set_ne (Ne.symm hc)]
  · rw [List.getElem?_eq_none (by rw [List.length_set, tb_fs_len]; omega), List.getElem?_eq_none (by rw [tb_fs_len]; omega)]
/-! what refers to a cell refers to one that is there -/
def tb_cl (n : Nat) (sh : Nat → tb_Sh) : Prop := ∀ k, k < n → ∀ r, some r ∈ (sh k).2.2 → r < n
def tb_sc : Nat := 1000000
def tb_vk (n : Nat) (v : Value) : Prop := match v with
  | .ref k => k < n ∨ k = tb_sc
  | _ => True
def tb_so (n : Nat) (S : List Value) : Prop := ∀ v ∈ S, tb_vk n v
def tb_lo (n : Nat) (L : List (Option Value)) : Prop := ∀ v, some v ∈ L → tb_vk n v ∧ v.category = 1
theorem tb_vk.mono {n n' : Nat} {v : Value} (h : tb_vk n v) (hn : n ≤ n') : tb_vk n' v := by
  cases v with
  | ref k => exact h.elim (fun h => Or.inl (Nat.lt_of_lt_of_le h hn)) Or.inr
  | _ => trivial
theorem tb_rn_eq {n : Nat} {adr adr' : Nat → Nat} (h : ∀ k, k < n → adr' k = adr k) (hx : adr' tb_sc = adr tb_sc) {v : Value} (hv : tb_vk n v) : tb_rn adr' v = tb_rn adr v := by
  cases v with
  | ref k =>
    rcases hv with hv | hv
    · show Value.ref _ = Value.ref _
      rw [h k hv]
    · subst hv
      show Value.ref _ = Value.ref _
      rw [hx]
  | _ => rfl
theorem tb_rn_map {n : Nat} {adr adr' : Nat → Nat} (h : ∀ k, k < n → adr' k = adr k) (hx : adr' tb_sc = adr tb_sc) {S : List Value} (hv : tb_so n S) : S.map (tb_rn adr') = S.map (tb_rn adr) := by
  apply List.map_congr_left
  intro v hv'
  exact tb_rn_eq h hx (hv v hv')
theorem tb_so.cons {n : Nat} {v : Value} {S : List Value} (hv : tb_vk n v) (h : tb_so n S) : tb_so n (v :: S) := fun w hw => (List.mem_cons.mp hw).elim (fun e => by rw [e]; exact hv) (h w)
theorem tb_so.tail {n : Nat} {v : Value} {S : List Value} (h : tb_so n (v :: S)) : tb_so n S := fun w hw => h w (List.mem_cons_of_mem _ hw)
theorem tb_so.head {n : Nat} {v : Value} {S : List Value} (h : tb_so n (v :: S)) : tb_vk n v := h v List.mem_cons_self
theorem tb_cat (adr : Nat → Nat) (v : Value) : (tb_rn adr v).category = v.category := by cases v <;> rfl
theorem tb_cats (adr : Nat → Nat) (S : List Value) : ((S.map (tb_rn adr)).map fun v => v.category) = S.map fun v => v.category := by
  rw [List.map_map]
  exact List.map_congr_left fun v _ => tb_cat adr v
/-! locals, by their places -/
def tb_LL (adr : Nat → Nat) (ls : Array Slot) (nL : Nat) (L : List (Option Value)) : Prop := ls.size = nL ∧ lv_wf ls ∧ L.length = nL ∧ ∀ (i : Nat) (v : Value), L[i]? = some (some v) → ls[i]? = some (.val (tb_rn adr v))
theorem tb_LL.has {adr : Nat → Nat} {ls : Array Slot} {nL : Nat} {L : List (Option Value)} (h : tb_LL adr ls nL L) : lv_has ls nL (L.zipIdx.filterMap fun q => q.1.map fun v => (q.2, tb_rn adr v)) := by
  refine ⟨h.1, h.2.1, fun q hq => ?_⟩
  obtain ⟨⟨o, i⟩, h1, h2⟩ := List.mem_filterMap.mp hq
  cases o with
  | none => cases h2
  | some v =>
    cases h2
    have h3 := List.mem_zipIdx_iff_getElem?.mp h1
    exact h.2.2.2 i v h3
end
section
/-! ===== the words, what is known of the machine around the world ===== -/
def tb_W : List Cond := lw_tbl.filter goodWord
theorem tb_W_good {w : Cond} (h : w ∈ tb_W) : goodWord w = true := (List.mem_filter.mp h).2
theorem tb_W_in {w : Cond} (h : w ∈ tb_W) : w ∈ lw_tbl := (List.mem_filter.mp h).1
def tb_wy (y : tb_Mt) : List Cond := Cond.code y.1 y.2.1 y.2.2.1 y.2.2.2.1 :: tb_W
def tb_wh (y : tb_Mt) : List Cond := Cond.codeWith y.1 y.2.1 y.2.2.1 y.2.2.2.1 y.2.2.2.2 :: tb_W
theorem tb_gI {ws : List Cond} (h : ∀ w ∈ ws, w ∈ tb_W) : GoodIn tb_W ws := fun w hw => ⟨h w hw, good_of_word (tb_W_good (h w hw))⟩
def tb_K (G : tb_G) (U : State) : Prop := va_K G.1 vwCl [(G.2.1, .int), (G.2.2.1, .array .int), (G.2.2.2, .long)] U
theorem tb_AOA_spec {ty : FieldType} {s : State} (h : va_AOA ty s) : ∃ comp c k, s.vm.findClass (FieldType.array ty).toString = some comp ∧ (s.vm.classes.findIdx? fun x => match x.kind with | .array component _ => component == comp | _ => false) = some c ∧ s.vm.classes[c]? = some k ∧ k.kind = .array comp (.array ty) ∧ s.vm.findClass ("[" ++ (FieldType.array ty).toString) = some c := by
  unfold va_AOA Cond.before at h
  simp only [Cond.holds, Cond.value, beq_iff_eq] at h
  cases hc : s.vm.findClass (FieldType.array ty).toString with
  | none => simp [hc] at h
  | some comp =>
    simp only [hc, Option.bind_some, Option.bind_eq_some_iff, Option.map_eq_some_iff] at h
    obtain ⟨c, hi, k, hk, hb⟩ := h
    obtain ⟨hlt, hp, -⟩ := Array.findIdx?_eq_some_iff_getElem.mp hi
    have hk2 : s.vm.classes[c] = k := by
      rw [Array.getElem?_eq_getElem hlt] at hk
      exact Option.some.inj hk
    rw [hk2] at hp
    cases hkk : k.kind with
    | array component ty2 =>
      rw [hkk] at hp hb
      simp only [beq_iff_eq] at hp
      simp only [Bool.and_eq_true, decide_eq_true_eq] at hb
      exact ⟨comp, c, k, rfl, hi, hk, by rw [hkk, hp, hb.1], hb.2⟩
    | _ => rw [hkk] at hb; simp at hb
theorem va_AOA.moved {ty : FieldType} {u U : State} (hvm : u.vm.Alike U.vm) (h : va_AOA ty u) : va_AOA ty U := by
  obtain ⟨comp, c, k, h1, h2, h3, h4, h5⟩ := tb_AOA_spec h
  obtain ⟨k', hk', he⟩ := hvm.2.2 _ _ h3
  have hi : (U.vm.classes.findIdx? fun (x : Class) => match x.kind with | .array component _ => component == comp | _ => false) = some c := by
    have e1 := va_idx_bare U.vm comp
    have e2 := va_idx_bare u.vm comp
    have eb : U.vm.bare = u.vm.bare := by first | exact hvm.bare_eq | exact hvm.bare_eq.symm
    rw [eb] at e1
    exact e1.symm.trans (e2.trans h2)
  have hkind : k'.kind = .array comp (.array ty) := by rw [he]; exact h4
  have f1 : U.vm.findClass (FieldType.array ty).toString = some comp := by rw [hvm.findClass]; exact h1
  have f2 : U.vm.findClass ("[" ++ (FieldType.array ty).toString) = some c := by rw [hvm.findClass]; exact h5
  unfold va_AOA Cond.before Cond.holds
  simp only [Cond.value]
  rw [f1, Option.bind_some]
  refine (congrArg (fun o : Option Nat => (o.bind (fun c => (U.vm.classes[c]?).map fun (k : Class) => match k.kind with | .array _ ty' => decide (ty' = FieldType.array ty) && decide (U.vm.findClass ("[" ++ (FieldType.array ty).toString) = some c) | _ => false) == some true)) hi).trans ?_
  simp [hk', hkind, f2]
def tb_strs : List (String × Nat × String) := [("TermBank", 124, "the tape has not so many bytes"), ("TermBank$Reader", 68, "symbol"), ("TermBank$Reader", 77, "term"), ("TermBank$Reader", 82, "rule"), ("TermBank$Reader", 160, "to"), ("TermBank$Reader", 87, "entry"), ("TermBank$Reader", 92, "room"), ("TermBank", 190, "no such count"), ("TermBank", 197, "no such symbol"), ("TermBank", 214, "no such question of a symbol"), ("TermBank", 397, "no such term"), ("TermBank", 247, "no such question of a term"), ("TermBank", 250, "no such argument"), ("TermBank", 260, "no such place"), ("TermBank", 268, "no such question of the index"), ("TermBank", 273, "no such rule or side"), ("TermBank", 275, "no such entry"), ("TermBank", 277, "no such memo or side"), ("TermBank", 282, "no such variable"), ("TermBank", 378, "no such question of the years"), ("TermBank", 380, "not so many years")]
def tb_casts : List (String × String) := [("java/lang/IllegalArgumentException", "java/lang/IllegalArgumentException"), ("java/util/NoSuchElementException", "java/util/NoSuchElementException"), ("TermBank", "java/lang/Object"), ("TermBank$Symbols", "java/lang/Object"), ("TermBank$Core", "java/lang/Object"), ("TermBank$Terms", "java/lang/Object"), ("TermBank$Ledger", "java/lang/Object"), ("TermBank$Matcher", "java/lang/Object"), ("TermBank$Maker", "java/lang/Object"), ("TermBank$Unifier", "java/lang/Object"), ("TermBank$Rulebook", "java/lang/Object"), ("TermBank$Ordering", "java/lang/Object"), ("TermBank$Rewriter", "java/lang/Object"), ("TermBank$Reader", "java/lang/Object"), ("TermBankModel", "java/lang/Object"), ("java/lang/IllegalArgumentException", "java/lang/Object"), ("java/util/NoSuchElementException", "java/lang/Object"), ("java/lang/Throwable", "java/lang/Object"), ("java/lang/String", "java/lang/Object")]
def tb_nocs : List (String × String) := [("java/lang/IllegalArgumentException", "java/util/NoSuchElementException")]
def tb_decls : List MethodName := [⟨"java/lang/RuntimeException", "<init>", "()V"⟩, ⟨"java/lang/RuntimeException", "<init>", "(Ljava/lang/String;)V"⟩, ⟨"java/lang/Exception", "<init>", "()V"⟩, ⟨"java/lang/Exception", "<init>", "(Ljava/lang/String;)V"⟩, ⟨"java/lang/Throwable", "<init>", "()V"⟩, ⟨"java/lang/Throwable", "<init>", "(Ljava/lang/String;)V"⟩]
/-- the reader's texts, with their bytes; the reference's row of known words -/
def tb_rs : List (Nat × String × List Int32) := [(68, "symbol", [115, 121, 109, 98, 111, 108]), (77, "term", [116, 101, 114, 109]), (82, "rule", [114, 117, 108, 101]), (87, "entry", [101, 110, 116, 114, 121]), (92, "room", [114, 111, 111, 109]), (160, "to", [116, 111])]
def tb_kn : List Int32 := [115, 121, 109, 98, 111, 108, 32, 116, 101, 114, 109, 32, 114, 117, 108, 101, 32, 101, 110, 116, 114, 121, 32, 114, 111, 111, 109, 32, 116, 111, 32]
def tb_SX (A : Nat → Prop) (U : State) (H : Heap) : Prop := (∀ q ∈ tb_rs, ∃ a v : Nat, vk_R "TermBank$Reader" q.1 q.2.1 a U ∧ vk_S 1 [q.2.2.length] [q.2.2] (fun _ => a) (fun _ => v) A U H) ∧ va_Z "java/lang/String" "COMPACT_STRINGS" "Z" (.int 1) A U H ∧ ∃ ka : Nat, va_Z "TermBankModel" "KNOWN" "[B" (.ref ka) A U H ∧ va_T .byte ka 31 (fun j => .int (tb_kn.getD j 0)) A U H ∧ va_Zq "jdk/internal/util/Preconditions" "SIOOBE_FORMATTER" "Ljava/util/function/BiFunction;" A U H
theorem tb_SX.go {A B : Nat → Prop} {s U : State} {H H1 : Heap} (h : tb_SX A s H) (hW : s.WarmedH U.vm) (hk : ∀ a : Nat, a < H.size → ¬ A a → H1[a]? = H[a]?) (hAB : ∀ q, B q → A q) : tb_SX B U H1 := by
  obtain ⟨h1, h2, ka, h3, h4, h5⟩ := h
  refine ⟨fun q hq => ?_, ((h2.kept hk).moved hW.alike).narrow hAB, ka, ((h3.kept hk).moved hW.alike).narrow hAB, ((h4.kept hk).moved hW.alike).narrow hAB, ((h5.kept hk).moved hW.alike).narrow hAB⟩
  obtain ⟨a, v, g1, g2⟩ := h1 q hq
  exact ⟨a, v, vk_R.warm hW g1, ((g2.kept hk).moved hW.alike).narrow hAB⟩
def tb_EX (A : Nat → Prop) (U : State) (H : Heap) : Prop := vx_Zq Bundle.tN "UNASSIGNED_STACK" Bundle.steD A U H ∧ vx_Zq Bundle.tN "SUPPRESSED_SENTINEL" Bundle.listD A U H ∧ (∀ q ∈ tb_strs, ∃ sa, vk_R q.1 q.2.1 q.2.2 sa U) ∧ (∀ q ∈ tb_casts, va_Nw (.castable q.1 q.2) U) ∧ (∀ q ∈ tb_nocs, va_Nc q.1 q.2 U) ∧ (∀ x ∈ tb_decls, va_Nw (.declares x) U) ∧ va_Nw (.methodLinkNest "TermBank" 9 yX8_init "TermBank") U ∧ va_AOA .int U ∧ tb_SX A U H
theorem tb_Nc_moved {C T : String} {u U : State} (hvm : u.vm.Alike U.vm) (h : va_Nc C T u) : va_Nc C T U := by
  obtain ⟨c, t, h1, h2, h3⟩ := h
  exact ⟨c, t, by rw [hvm.findClass]; exact h1, by rw [hvm.findClass]; exact h2, by rw [hvm.assignable]; exact h3⟩
theorem tb_EX.go {A B : Nat → Prop} {s U : State} {H H1 : Heap} (h : tb_EX A s H) (hW : s.WarmedH U.vm) (hk : ∀ a : Nat, a < H.size → ¬ A a → H1[a]? = H[a]?) (hAB : ∀ q, B q → A q) : tb_EX B U H1 := by
  obtain ⟨h1, h2, h3, h4, h5, h6, h7, h8, h9⟩ := h
  refine ⟨((h1.kept hk).moved hW.alike).narrow hAB, ((h2.kept hk).moved hW.alike).narrow hAB, fun q hq => ?_, fun q hq => va_Nw.warmC hW (h4 q hq), fun q hq => tb_Nc_moved hW.alike (h5 q hq), fun x hx => va_Nw.warmD hW (h6 x hx), va_Nw.warmM hW h7, h8.moved hW.alike, h9.go hW hk hAB⟩
  obtain ⟨sa, hs⟩ := h3 q hq
  exact ⟨sa, vk_R.warm hW hs⟩
/-! ===== the room, the context, the walk ===== -/
def tb_rm (d mc ms : Nat) : Room := { frames := d, cells := mc, slots := ms, locals := 40 * d }
abbrev tb_CT : Type := State × Array Value × List Frame × (Nat → Prop) × (Nat → Nat) × Nat
def tb_Xs (xt : Option (Nat × (Nat → Int32))) (A : Nat → Prop) (s : State) (bx : Nat) : Prop := match xt with
  | none => True
  | some q => va_X bx q.1 q.2 s s.heap ∧ ¬ A bx ∧ bx < s.heap.size
/-- what stays the same along a method's body -/
def tb_Cx (l : Launch) (G : tb_G) (y : tb_Mt) (R : Room) (xt : Option (Nat × (Nat → Int32))) (p : Program) (e : Env) (s : State) (m : MethodId) (args : Array Value) (meth : Method) (c : Code) (A : Nat → Prop) (bx : Nat) : Prop :=
  p.tables.exec = Jvm.exec ∧ c.code = y.2.1 ∧ c.maxLocals = y.2.2.1 ∧ meth.sig.returnType = y.2.2.2.1 ∧ meth.locks = false ∧ s.vm.findClass y.1.cls = some m.cls ∧ meth.name = y.1.name ∧ c.exceptionTable.toList = tableOf y.2.2.2.2 ∧ (∀ w ∈ tb_W, w.before args s = true) ∧ (∀ q, s.heap.size ≤ q → A q) ∧ tb_K G s ∧ tb_EX A s s.heap ∧ l.stackTraces = false ∧ tb_Xs xt A s bx
def tb_ok (n : Nat) (sh : Nat → tb_Sh) (L : List (Option Value)) (S : List Value) : Prop := tb_cl n sh ∧ tb_lo n L ∧ tb_so n S
/-- the method y, at pc, with these locals and this stack, in this world, comes to its end Z; k1 cells and k2 slots are made already -/
def tb_At (l : Launch) (G : tb_G) (y : tb_Mt) (R : Room) (xt : Option (Nat × (Nat → Int32))) (Z : tb_CT → State → Prop) (k1 k2 n : Nat) (sh : Nat → tb_Sh) (I : tb_I) (pc : Nat) (L : List (Option Value)) (S : List Value) : Prop :=
  tb_ok n sh L S → ∀ (p : Program) (e : Env) (s : State) (m : MethodId) (args : Array Value) (below : List Frame) (meth : Method) (c : Code) (A : Nat → Prop) (adr0 : Nat → Nat) (n0 bx : Nat), tb_Cx l G y R xt p e s m args meth c A bx →
    ∀ (H : Heap) (locs : List Loc) (adr : Nat → Nat) (ls : Array Slot), ((∀ k, k < n0 → adr k = adr0 k) ∧ adr tb_sc = adr0 tb_sc ∧ n0 ≤ n ∧ adr0 tb_sc = bx) → va_P G.1 vwCl (tb_ws G adr n sh I) H → va_D A (tb_ws G adr n sh I) → va_S A s.heap H locs → tb_LL adr ls y.2.2.1 L →
      W p l e R s m args below meth c H locs k1 k2 (Z (s, args, below, A, adr0, n0)) (F0 m pc ls (S.map (tb_rn adr)))
/-- the world behind a method -/
def tb_Wd (G : tb_G) (A : Nat → Prop) (adr0 : Nat → Nat) (n0 : Nat) (adr : Nat → Nat) (n : Nat) (sh : Nat → tb_Sh) (I : tb_I) (t : State) : Prop := (∀ k, k < n0 → adr k = adr0 k) ∧ adr tb_sc = adr0 tb_sc ∧ n0 ≤ n ∧ va_P G.1 vwCl (tb_ws G adr n sh I) t.heap ∧ va_D A (tb_ws G adr n sh I) ∧ tb_K G t ∧ tb_cl n sh
abbrev tb_Q : Type := Option Value → Nat → (Nat → tb_Sh) → tb_I → Prop
abbrev tb_X : Type := String → Nat → (Nat → tb_Sh) → tb_I → Prop
def tb_Qc (G : tb_G) (Q : tb_Q) (A : Nat → Prop) (adr0 : Nat → Nat) (n0 : Nat) : Array Value → State → Outcome → State → Prop := fun _ st o t => ∃ (r : Option Value) (n : Nat) (sh : Nat → tb_Sh) (I : tb_I) (adr : Nat → Nat), o = .returned (r.map (tb_rn adr)) ∧ Q r n sh I ∧ (∀ v, r = some v → tb_vk n v) ∧ tb_Wd G A adr0 n0 adr n sh I t ∧ va_F A st t
def tb_XC (G : tb_G) (X : tb_X) (A : Nat → Prop) (adr0 : Nat → Nat) (n0 : Nat) : String → State → State → Prop := fun E st t => ∃ (n : Nat) (sh : Nat → tb_Sh) (I : tb_I) (adr : Nat → Nat), X E n sh I ∧ tb_Wd G A adr0 n0 adr n sh I t ∧ va_F A st t
def tb_ZM (G : tb_G) (mc ms : Nat) (Q : tb_Q) (X : tb_X) : tb_CT → State → Prop := fun K => vx_MQ K.2.2.1 (tb_Qc G Q K.2.2.2.1 K.2.2.2.2.1 K.2.2.2.2.2) (tb_XC G X K.2.2.2.1 K.2.2.2.2.1 K.2.2.2.2.2) K.2.1 K.1 mc ms K.2.2.2.1
def tb_Pr (G : tb_G) (adr : Nat → Nat) (sz n : Nat) (sh : Nat → tb_Sh) (I : tb_I) (U : State) : Prop := U.heap.size = sz ∧ va_P G.1 vwCl (tb_ws G adr n sh I) U.heap ∧ tb_K G U ∧ va_D (fun _ => True) (tb_ws G adr n sh I) ∧ tb_EX (va_A (tb_ws G adr n sh I) sz) U U.heap
/-- a method's contract, said of the world by numbers -/
def tb_Okw (l : Launch) (G : tb_G) (y : tb_Mt) (ws : List Cond) (d mc ms : Nat) (as : List Value) (n : Nat) (sh : Nat → tb_Sh) (I : tb_I) (Q : tb_Q) (X : tb_X) : Prop :=
  tb_so n as → tb_cl n sh → ∀ (adr : Nat → Nat) (sz : Nat), vx_Met l y.1 ws (tb_rm d mc ms) (va_Pc (as.map (tb_rn adr)) (tb_Pr G adr sz n sh I)) (tb_Qc G Q (va_A (tb_ws G adr n sh I) sz) adr n) (tb_XC G X (va_A (tb_ws G adr n sh I) sz) adr n) mc ms (va_A (tb_ws G adr n sh I) sz)
def tb_Ok (l : Launch) (G : tb_G) (y : tb_Mt) (d mc ms : Nat) (as : List Value) (n : Nat) (sh : Nat → tb_Sh) (I : tb_I) (Q : tb_Q) (X : tb_X) : Prop := tb_Okw l G y (tb_wy y) d mc ms as n sh I Q X
def tb_Nx : tb_X := fun _ _ _ _ => False
theorem tb_args : ∀ (vs : List Value) (i : Nat), (∀ v ∈ vs, v.category = 1) → ∀ (j : Nat) (v : Value), vs[j]? = some v → (i + j, v) ∈ lv_args i vs
  | [], _, _, j, v, h => by simp at h
  | w :: vs, i, hc, j, v, h => by
    have hw : ¬ w.category = 2 := by rw [hc w List.mem_cons_self]; decide
    cases j with
    | zero =>
      rw [List.getElem?_cons_zero] at h
      cases h
      exact List.mem_cons_self
    | succ j =>
      rw [List.getElem?_cons_succ] at h
      have h1 := tb_args vs (i + 1) (fun v hv => hc v (List.mem_cons_of_mem _ hv)) j v h
      show (i + (j + 1), v) ∈ (i, w) :: lv_args (if w.category = 2 then i + 2 else i + 1) vs
      rw [if_neg hw]
      refine List.mem_cons_of_mem _ ?_
      rw [show i + (j + 1) = i + 1 + j by omega]
      exact h1
theorem tb_sl : ∀ (vs : List Value), (∀ v ∈ vs, v.category = 1) → (lg_sl vs).length = vs.length
  | [], _ => rfl
  | w :: vs, hc => by
    have hw : ¬ w.category = 2 := by rw [hc w List.mem_cons_self]; decide
    have h1 := tb_sl vs (fun v hv => hc v (List.mem_cons_of_mem _ hv))
    have e : lg_sl (w :: vs) = (if w.category = 2 then [.val w, .second] else [.val w]) ++ lg_sl vs := rfl
    rw [e, if_neg hw, List.length_append, h1]
    simp
    omega
def tb_L0 (as : List Value) (nL : Nat) : List (Option Value) := as.map some ++ List.replicate (nL - as.length) none
theorem tb_entry {as : List Value} {adr : Nat → Nat} {nL : Nat} (hc : ∀ v ∈ as, v.category = 1) (hn : as.length ≤ nL) : tb_LL adr ((lg_sl (as.map (tb_rn adr)) ++ List.replicate (nL - (lg_sl (as.map (tb_rn adr))).length) Slot.unset).toArray) nL (tb_L0 as nL) := by
  have hc' : ∀ v ∈ as.map (tb_rn adr), v.category = 1 := by
    intro v hv
    obtain ⟨w, hw, rfl⟩ := List.mem_map.mp hv
    rw [tb_cat]
    exact hc w hw
  have hlen : (lg_sl (as.map (tb_rn adr))).length = as.length := by rw [tb_sl _ hc', List.length_map]
  obtain ⟨h1, h2, h3⟩ := lv_entry (as.map (tb_rn adr)) (n := nL) (by rw [hlen]; exact hn)
  refine ⟨h1, h2, by simp [tb_L0]; omega, fun i v hv => ?_⟩
  have hi : i < as.length := by
    by_cases hi : i < as.length
    · exact hi
    · rw [tb_L0, List.getElem?_append_right (by rw [List.length_map]; omega)] at hv
      have := List.mem_of_getElem? hv
      rw [List.mem_replicate] at this
      cases this.2
  rw [tb_L0, List.getElem?_append_left (by rw [List.length_map]; exact hi), List.getElem?_map] at hv
  have hv' : as[i]? = some v := by
    cases ha : as[i]? with
    | none => rw [ha] at hv; cases hv
    | some w => rw [ha] at hv; cases hv; rfl
  have h4 := tb_args (as.map (tb_rn adr)) 0 hc' i (tb_rn adr v) (by rw [List.getElem?_map, hv']; rfl)
  rw [Nat.zero_add] at h4
  exact h3 _ h4
theorem tb_lo0 {as : List Value} {n nL : Nat} (hc : ∀ v ∈ as, v.category = 1) (hs : tb_so n as) : tb_lo n (tb_L0 as nL) := by
  intro v hv
  rcases List.mem_append.mp hv with h | h
  · obtain ⟨w, hw, e⟩ := List.mem_map.mp h
    cases e
    exact ⟨hs v hw, hc v hw⟩
  · rw [List.mem_replicate] at h
    cases h.2
/-- a contract out of a walk from the entry -/
theorem tb_Ok.of {l : Launch} {G : tb_G} {y : tb_Mt} {d mc ms : Nat} {as : List Value} {n : Nat} {sh : Nat → tb_Sh} {I : tb_I} {Q : tb_Q} {X : tb_X} (hl : l.stackTraces = false) (hy : plainName y.1.cls = true) (hh : y.2.2.2.2 = []) (hc : ∀ v ∈ as, v.category = 1) (hn : as.length ≤ y.2.2.1)
    (h : tb_At l G y (tb_rm d mc ms) none (tb_ZM G mc ms Q X) 0 0 n sh I 0 (tb_L0 as y.2.2.1) []) : tb_Ok l G y d mc ms as n sh I Q X := by
  intro hs hcl adr sz
  refine vx_ofW (cc := y.2.1) (maxL := y.2.2.1) (ret := y.2.2.2.1) hy rfl ?_
  intro p e s m args below meth c s₁ B hml ht hv
  obtain ⟨rfl, hsz, hP, hK, hD0, hE⟩ := hv
  have hts := atoms_spec (ws := tb_wy y) B.pre
  have hown : s.vm.findClass y.1.cls = some m.cls := findClass_of_methodNamed B.named
  subst hsz
  have hS : va_S (va_A (tb_ws G adr n sh I) s.heap.size) s.heap s.heap [] := va_S.rf
  have htab : c.exceptionTable.toList = tableOf y.2.2.2.2 := by
    rw [hh]
    cases e9 : c.exceptionTable.toList with
    | nil => rfl
    | cons x xs => exact (ht x (by rw [e9]; exact List.mem_cons_self)).elim
  rw [lg_entry_eq]
  exact h ⟨hcl, tb_lo0 hc hs, fun _ h9 => nomatch h9⟩ p e s m _ below meth c (va_A (tb_ws G adr n sh I) s.heap.size) adr n (adr tb_sc)
    ⟨B.exec, B.bytes, hml, B.returns, B.notSynchronized, hown, (name_of_methodNamed B.named B.method).1, htab, fun w hw => hts w (List.mem_cons_of_mem _ hw), fun q hq => Or.inr hq, hK, hE, hl, trivial⟩
    s.heap [] adr _ ⟨fun _ _ => rfl, rfl, Nat.le_refl _, rfl⟩ hP hD0.self hS (tb_entry hc hn)
end
section
/-! ===== one row an instruction, over the world by numbers ===== -/
theorem tb_LL.stored {adr : Nat → Nat} {ls ls' : Array Slot} {nL : Nat} {L : List (Option Value)} (h : tb_LL adr ls nL L) (hc1 : ∀ v, some v ∈ L → v.category = 1) {i : Nat} {v : Value} (hi : i < nL)
    (h' : lv_has ls' nL ((i, tb_rn adr v) :: (L.zipIdx.filterMap fun q => q.1.map fun v => (q.2, tb_rn adr v)).filter (fun q => !(q.1 == i) && !(q.1 + 1 == i && q.2.category == 2)))) : tb_LL adr ls' nL (L.set i (some v)) := by
  obtain ⟨h2, h3, h4⟩ := h'
  refine ⟨h2, h3, by rw [List.length_set]; exact h.2.2.1, fun j w hj => ?_⟩
  by_cases hij : j = i
  · subst hij
    rw [List.getElem?_set_self (by rw [h.2.2.1]; exact hi)] at hj
    cases hj
    exact h4 (j, tb_rn adr v) List.mem_cons_self
  · rw [List.getElem?_set_ne (Ne.symm hij)] at hj
    refine h4 (j, tb_rn adr w) (List.mem_cons_of_mem _ (List.mem_filter.mpr ⟨?_, ?_⟩))
    · exact List.mem_filterMap.mpr ⟨(some w, j), List.mem_zipIdx_iff_getElem?.mpr hj, rfl⟩
    · have : w.category = 1 := hc1 w (List.mem_of_getElem? hj)
      simp [hij, tb_cat, this]
theorem tb_lo.set {n : Nat} {L : List (Option Value)} {i : Nat} {v : Value} (h : tb_lo n L) (hv : tb_vk n v) (hc : v.category = 1) : tb_lo n (L.set i (some v)) := by
  intro w hw
  rcases List.mem_or_eq_of_mem_set hw with h1 | h1
  · exact h w h1
  · cases h1
    exact ⟨hv, hc⟩
theorem tb_lo.at {n : Nat} {L : List (Option Value)} {i : Nat} {v : Value} (h : tb_lo n L) (hv : L[i]? = some (some v)) : tb_vk n v := (h v (List.mem_of_getElem? hv)).1
section TBR
variable {l : Launch} {G : tb_G} {y : tb_Mt} {R : Room} {xt : Option (Nat × (Nat → Int32))} {Z : tb_CT → State → Prop} {k1 k2 n : Nat} {sh : Nat → tb_Sh} {I : tb_I} {pc : Nat} {L : List (Option Value)} {S : List Value}

theorem tb_iconst {i : Int} {v : Int32} (hd : decode y.2.1 pc = .ok (.iconst i, 1)) (hv : Int32.ofInt i = v)
    (k : tb_At l G y R xt Z k1 k2 n sh I (pc + 1) L (.int v :: S)) : tb_At l G y R xt Z k1 k2 n sh I pc L S := by
  intro ok p e s m args below meth c A adr0 n0 bx C H locs adr ls ha hP hD hS hl
  exact lv_iconst C.1 C.2.1 hd hv (k ⟨ok.1, ok.2.1, .cons trivial ok.2.2⟩ p e s m args below meth c A adr0 n0 bx C H locs adr ls ha hP hD hS hl)
theorem tb_bipush {i : Int} {v : Int32} (hd : decode y.2.1 pc = .ok (.bipush i, 2)) (hv : (Int8.ofInt i).toInt32 = v)
    (k : tb_At l G y R xt Z k1 k2 n sh I (pc + 2) L (.int v :: S)) : tb_At l G y R xt Z k1 k2 n sh I pc L S := by
  intro ok p e s m args below meth c A adr0 n0 bx C H locs adr ls ha hP hD hS hl
  exact lv_bipush C.1 C.2.1 hd hv (k ⟨ok.1, ok.2.1, .cons trivial ok.2.2⟩ p e s m args below meth c A adr0 n0 bx C H locs adr ls ha hP hD hS hl)
theorem tb_sipush {i : Int} {v : Int32} (hd : decode y.2.1 pc = .ok (.sipush i, 3)) (hv : (Int16.ofInt i).toInt32 = v)
    (k : tb_At l G y R xt Z k1 k2 n sh I (pc + 3) L (.int v :: S)) : tb_At l G y R xt Z k1 k2 n sh I pc L S := by
  intro ok p e s m args below meth c A adr0 n0 bx C H locs adr ls ha hP hD hS hl
  exact lv_sipush C.1 C.2.1 hd hv (k ⟨ok.1, ok.2.1, .cons trivial ok.2.2⟩ p e s m args below meth c A adr0 n0 bx C H locs adr ls ha hP hD hS hl)
theorem tb_ldc {i : Nat} {v : Int32} (hd : decode y.2.1 pc = .ok (.ldc i, 2)) (hw : Cond.constant y.1.cls i v ∈ tb_W)
    (k : tb_At l G y R xt Z k1 k2 n sh I (pc + 2) L (.int v :: S)) : tb_At l G y R xt Z k1 k2 n sh I pc L S := by
  intro ok p e s m args below meth c A adr0 n0 bx C H locs adr ls ha hP hD hS hl
  exact lv_ldc C.1 C.2.1 C.2.2.2.2.2.1 (C.2.2.2.2.2.2.2.2.1 _ hw) hd (k ⟨ok.1, ok.2.1, .cons trivial ok.2.2⟩ p e s m args below meth c A adr0 n0 bx C H locs adr ls ha hP hD hS hl)
theorem tb_iload_n {q : Fin 4} {i : Nat} {x : Int32} (hd : decode y.2.1 pc = .ok (.iload_n q, 1)) (hq : (q : Nat) = i) (hL : L[i]? = some (some (.int x)))
    (k : tb_At l G y R xt Z k1 k2 n sh I (pc + 1) L (.int x :: S)) : tb_At l G y R xt Z k1 k2 n sh I pc L S := by
  intro ok p e s m args below meth c A adr0 n0 bx C H locs adr ls ha hP hD hS hl
  exact lv_iload_n C.1 C.2.1 hd hq (hl.2.2.2 i _ hL) (k ⟨ok.1, ok.2.1, .cons trivial ok.2.2⟩ p e s m args below meth c A adr0 n0 bx C H locs adr ls ha hP hD hS hl)
theorem tb_iload {i : Nat} {x : Int32} (hd : decode y.2.1 pc = .ok (.iload i, 2)) (hL : L[i]? = some (some (.int x)))
    (k : tb_At l G y R xt Z k1 k2 n sh I (pc + 2) L (.int x :: S)) : tb_At l G y R xt Z k1 k2 n sh I pc L S := by
  intro ok p e s m args below meth c A adr0 n0 bx C H locs adr ls ha hP hD hS hl
  exact lv_iload C.1 C.2.1 hd (hl.2.2.2 i _ hL) (k ⟨ok.1, ok.2.1, .cons trivial ok.2.2⟩ p e s m args below meth c A adr0 n0 bx C H locs adr ls ha hP hD hS hl)
theorem tb_aload_n {q : Fin 4} {i x : Nat} (hd : decode y.2.1 pc = .ok (.aload_n q, 1)) (hq : (q : Nat) = i) (hL : L[i]? = some (some (.ref x)))
    (k : tb_At l G y R xt Z k1 k2 n sh I (pc + 1) L (.ref x :: S)) : tb_At l G y R xt Z k1 k2 n sh I pc L S := by
  intro ok p e s m args below meth c A adr0 n0 bx C H locs adr ls ha hP hD hS hl
  exact lv_aload_n C.1 C.2.1 hd hq (hl.2.2.2 i _ hL) (k ⟨ok.1, ok.2.1, .cons (ok.2.1.at hL) ok.2.2⟩ p e s m args below meth c A adr0 n0 bx C H locs adr ls ha hP hD hS hl)
theorem tb_aload {i x : Nat} (hd : decode y.2.1 pc = .ok (.aload i, 2)) (hL : L[i]? = some (some (.ref x)))
    (k : tb_At l G y R xt Z k1 k2 n sh I (pc + 2) L (.ref x :: S)) : tb_At l G y R xt Z k1 k2 n sh I pc L S := by
  intro ok p e s m args below meth c A adr0 n0 bx C H locs adr ls ha hP hD hS hl
  exact lv_aload C.1 C.2.1 hd (hl.2.2.2 i _ hL) (k ⟨ok.1, ok.2.1, .cons (ok.2.1.at hL) ok.2.2⟩ p e s m args below meth c A adr0 n0 bx C H locs adr ls ha hP hD hS hl)
theorem tb_iadd {a b : Int32} (hd : decode y.2.1 pc = .ok (.iadd, 1)) 
    (k : tb_At l G y R xt Z k1 k2 n sh I (pc + 1) L (.int (a + b) :: S)) : tb_At l G y R xt Z k1 k2 n sh I pc L (.int b :: .int a :: S) := by
  intro ok p e s m args below meth c A adr0 n0 bx C H locs adr ls ha hP hD hS hl
  exact lv_iadd C.1 C.2.1 hd (k ⟨ok.1, ok.2.1, .cons trivial ok.2.2.tail.tail⟩ p e s m args below meth c A adr0 n0 bx C H locs adr ls ha hP hD hS hl)
theorem tb_isub {a b : Int32} (hd : decode y.2.1 pc = .ok (.isub, 1)) 
    (k : tb_At l G y R xt Z k1 k2 n sh I (pc + 1) L (.int (a - b) :: S)) : tb_At l G y R xt Z k1 k2 n sh I pc L (.int b :: .int a :: S) := by
  intro ok p e s m args below meth c A adr0 n0 bx C H locs adr ls ha hP hD hS hl
  exact lv_isub C.1 C.2.1 hd (k ⟨ok.1, ok.2.1, .cons trivial ok.2.2.tail.tail⟩ p e s m args below meth c A adr0 n0 bx C H locs adr ls ha hP hD hS hl)
theorem tb_imul {a b : Int32} (hd : decode y.2.1 pc = .ok (.imul, 1)) 
    (k : tb_At l G y R xt Z k1 k2 n sh I (pc + 1) L (.int (a * b) :: S)) : tb_At l G y R xt Z k1 k2 n sh I pc L (.int b :: .int a :: S) := by
  intro ok p e s m args below meth c A adr0 n0 bx C H locs adr ls ha hP hD hS hl
  exact lv_imul C.1 C.2.1 hd (k ⟨ok.1, ok.2.1, .cons trivial ok.2.2.tail.tail⟩ p e s m args below meth c A adr0 n0 bx C H locs adr ls ha hP hD hS hl)
theorem tb_iand {a b : Int32} (hd : decode y.2.1 pc = .ok (.iand, 1)) 
    (k : tb_At l G y R xt Z k1 k2 n sh I (pc + 1) L (.int (a &&& b) :: S)) : tb_At l G y R xt Z k1 k2 n sh I pc L (.int b :: .int a :: S) := by
  intro ok p e s m args below meth c A adr0 n0 bx C H locs adr ls ha hP hD hS hl
  exact lv_iand C.1 C.2.1 hd (k ⟨ok.1, ok.2.1, .cons trivial ok.2.2.tail.tail⟩ p e s m args below meth c A adr0 n0 bx C H locs adr ls ha hP hD hS hl)
theorem tb_ior {a b : Int32} (hd : decode y.2.1 pc = .ok (.ior, 1)) 
    (k : tb_At l G y R xt Z k1 k2 n sh I (pc + 1) L (.int (a ||| b) :: S)) : tb_At l G y R xt Z k1 k2 n sh I pc L (.int b :: .int a :: S) := by
  intro ok p e s m args below meth c A adr0 n0 bx C H locs adr ls ha hP hD hS hl
  exact lv_ior C.1 C.2.1 hd (k ⟨ok.1, ok.2.1, .cons trivial ok.2.2.tail.tail⟩ p e s m args below meth c A adr0 n0 bx C H locs adr ls ha hP hD hS hl)
theorem tb_ixor {a b : Int32} (hd : decode y.2.1 pc = .ok (.ixor, 1)) 
    (k : tb_At l G y R xt Z k1 k2 n sh I (pc + 1) L (.int (a ^^^ b) :: S)) : tb_At l G y R xt Z k1 k2 n sh I pc L (.int b :: .int a :: S) := by
  intro ok p e s m args below meth c A adr0 n0 bx C H locs adr ls ha hP hD hS hl
  exact lv_ixor C.1 C.2.1 hd (k ⟨ok.1, ok.2.1, .cons trivial ok.2.2.tail.tail⟩ p e s m args below meth c A adr0 n0 bx C H locs adr ls ha hP hD hS hl)
theorem tb_ishl {a b : Int32} (hd : decode y.2.1 pc = .ok (.ishl, 1)) 
    (k : tb_At l G y R xt Z k1 k2 n sh I (pc + 1) L (.int (a <<< (b &&& 31)) :: S)) : tb_At l G y R xt Z k1 k2 n sh I pc L (.int b :: .int a :: S) := by
  intro ok p e s m args below meth c A adr0 n0 bx C H locs adr ls ha hP hD hS hl
  exact lv_ishl C.1 C.2.1 hd (k ⟨ok.1, ok.2.1, .cons trivial ok.2.2.tail.tail⟩ p e s m args below meth c A adr0 n0 bx C H locs adr ls ha hP hD hS hl)
theorem tb_ishr {a b : Int32} (hd : decode y.2.1 pc = .ok (.ishr, 1)) 
    (k : tb_At l G y R xt Z k1 k2 n sh I (pc + 1) L (.int (a >>> (b &&& 31)) :: S)) : tb_At l G y R xt Z k1 k2 n sh I pc L (.int b :: .int a :: S) := by
  intro ok p e s m args below meth c A adr0 n0 bx C H locs adr ls ha hP hD hS hl
  exact lv_ishr C.1 C.2.1 hd (k ⟨ok.1, ok.2.1, .cons trivial ok.2.2.tail.tail⟩ p e s m args below meth c A adr0 n0 bx C H locs adr ls ha hP hD hS hl)
theorem tb_iushr {a b v : Int32} (hd : decode y.2.1 pc = .ok (.iushr, 1)) (hv : (a.toUInt32 >>> (b.toUInt32 &&& Int32.toUInt32 31)).toInt32 = v)
    (k : tb_At l G y R xt Z k1 k2 n sh I (pc + 1) L (.int v :: S)) : tb_At l G y R xt Z k1 k2 n sh I pc L (.int b :: .int a :: S) := by
  intro ok p e s m args below meth c A adr0 n0 bx C H locs adr ls ha hP hD hS hl
  exact lv_iushr C.1 C.2.1 hd hv (k ⟨ok.1, ok.2.1, .cons trivial ok.2.2.tail.tail⟩ p e s m args below meth c A adr0 n0 bx C H locs adr ls ha hP hD hS hl)
theorem tb_idiv {a b : Int32} (hd : decode y.2.1 pc = .ok (.idiv, 1)) (h0 : ¬ b = 0)
    (k : tb_At l G y R xt Z k1 k2 n sh I (pc + 1) L (.int (a / b) :: S)) : tb_At l G y R xt Z k1 k2 n sh I pc L (.int b :: .int a :: S) := by
  intro ok p e s m args below meth c A adr0 n0 bx C H locs adr ls ha hP hD hS hl
  exact lv_idiv C.1 C.2.1 hd h0 (k ⟨ok.1, ok.2.1, .cons trivial ok.2.2.tail.tail⟩ p e s m args below meth c A adr0 n0 bx C H locs adr ls ha hP hD hS hl)
theorem tb_irem {a b : Int32} (hd : decode y.2.1 pc = .ok (.irem, 1)) (h0 : ¬ b = 0)
    (k : tb_At l G y R xt Z k1 k2 n sh I (pc + 1) L (.int (a - a / b * b) :: S)) : tb_At l G y R xt Z k1 k2 n sh I pc L (.int b :: .int a :: S) := by
  intro ok p e s m args below meth c A adr0 n0 bx C H locs adr ls ha hP hD hS hl
  exact lv_irem C.1 C.2.1 hd h0 (k ⟨ok.1, ok.2.1, .cons trivial ok.2.2.tail.tail⟩ p e s m args below meth c A adr0 n0 bx C H locs adr ls ha hP hD hS hl)
theorem tb_i2l {a : Int32} (hd : decode y.2.1 pc = .ok (.i2l, 1)) 
    (k : tb_At l G y R xt Z k1 k2 n sh I (pc + 1) L (.long a.toInt64 :: S)) : tb_At l G y R xt Z k1 k2 n sh I pc L (.int a :: S) := by
  intro ok p e s m args below meth c A adr0 n0 bx C H locs adr ls ha hP hD hS hl
  exact lv_i2l C.1 C.2.1 hd rfl (k ⟨ok.1, ok.2.1, .cons trivial ok.2.2.tail⟩ p e s m args below meth c A adr0 n0 bx C H locs adr ls ha hP hD hS hl)
theorem tb_lcmp {a b : Int64} (hd : decode y.2.1 pc = .ok (.lcmp, 1)) 
    (k : tb_At l G y R xt Z k1 k2 n sh I (pc + 1) L (.int (lg_cmp a b) :: S)) : tb_At l G y R xt Z k1 k2 n sh I pc L (.long b :: .long a :: S) := by
  intro ok p e s m args below meth c A adr0 n0 bx C H locs adr ls ha hP hD hS hl
  exact W.lcmp C.1 C.2.1 hd (k ⟨ok.1, ok.2.1, .cons trivial ok.2.2.tail.tail⟩ p e s m args below meth c A adr0 n0 bx C H locs adr ls ha hP hD hS hl)
theorem tb_pop {v : Value} (hd : decode y.2.1 pc = .ok (.pop, 1)) (hv : v.category = 1)
    (k : tb_At l G y R xt Z k1 k2 n sh I (pc + 1) L S) : tb_At l G y R xt Z k1 k2 n sh I pc L (v :: S) := by
  intro ok p e s m args below meth c A adr0 n0 bx C H locs adr ls ha hP hD hS hl
  exact lv_pop C.1 C.2.1 hd ((tb_cat adr v).trans hv) (k ⟨ok.1, ok.2.1, ok.2.2.tail⟩ p e s m args below meth c A adr0 n0 bx C H locs adr ls ha hP hD hS hl)
theorem tb_dup {v : Value} (hd : decode y.2.1 pc = .ok (.dup, 1)) (hv : v.category = 1)
    (k : tb_At l G y R xt Z k1 k2 n sh I (pc + 1) L (v :: v :: S)) : tb_At l G y R xt Z k1 k2 n sh I pc L (v :: S) := by
  intro ok p e s m args below meth c A adr0 n0 bx C H locs adr ls ha hP hD hS hl
  exact lv_dup C.1 C.2.1 hd ((tb_cat adr v).trans hv) (k ⟨ok.1, ok.2.1, .cons ok.2.2.head ok.2.2⟩ p e s m args below meth c A adr0 n0 bx C H locs adr ls ha hP hD hS hl)
theorem tb_dup_x1 {v w : Value} (hd : decode y.2.1 pc = .ok (.dup_x1, 1)) (hv : v.category = 1) (hw : w.category = 1)
    (k : tb_At l G y R xt Z k1 k2 n sh I (pc + 1) L (v :: w :: v :: S)) : tb_At l G y R xt Z k1 k2 n sh I pc L (v :: w :: S) := by
  intro ok p e s m args below meth c A adr0 n0 bx C H locs adr ls ha hP hD hS hl
  exact lv_dup_x1 C.1 C.2.1 hd ((tb_cat adr v).trans hv) ((tb_cat adr w).trans hw) (k ⟨ok.1, ok.2.1, .cons ok.2.2.head (.cons ok.2.2.tail.head (.cons ok.2.2.head ok.2.2.tail.tail))⟩ p e s m args below meth c A adr0 n0 bx C H locs adr ls ha hP hD hS hl)
theorem tb_dup2 {v w : Value} (hd : decode y.2.1 pc = .ok (.dup2, 1)) (hv : v.category = 1) (hw : w.category = 1)
    (k : tb_At l G y R xt Z k1 k2 n sh I (pc + 1) L (v :: w :: v :: w :: S)) : tb_At l G y R xt Z k1 k2 n sh I pc L (v :: w :: S) := by
  intro ok p e s m args below meth c A adr0 n0 bx C H locs adr ls ha hP hD hS hl
  exact lv_dup2_11 C.1 C.2.1 hd ((tb_cat adr v).trans hv) ((tb_cat adr w).trans hw) (k ⟨ok.1, ok.2.1, .cons ok.2.2.head (.cons ok.2.2.tail.head ok.2.2)⟩ p e s m args below meth c A adr0 n0 bx C H locs adr ls ha hP hD hS hl)
theorem tb_goto {off : Int} {tgt : Nat} (hd : decode y.2.1 pc = .ok (.goto off, 3)) (ht : (pc : Int) + off = (tgt : Int)) (k : tb_At l G y R xt Z k1 k2 n sh I tgt L S) : tb_At l G y R xt Z k1 k2 n sh I pc L S := by
  intro ok p e s m args below meth c A adr0 n0 bx C H locs adr ls ha hP hD hS hl
  exact lv_goto C.1 C.2.1 hd ht (k ok p e s m args below meth c A adr0 n0 bx C H locs adr ls ha hP hD hS hl)
theorem tb_istore_n {q : Fin 4} {i : Nat} {x : Int32} {L2 : List (Option Value)} (hd : decode y.2.1 pc = .ok (.istore_n q, 1)) (hq : (q : Nat) = i) (hi : i < y.2.2.1) (hL : L.set i (some (.int x)) = L2)
    (k : tb_At l G y R xt Z k1 k2 n sh I (pc + 1) L2 S) : tb_At l G y R xt Z k1 k2 n sh I pc L (.int x :: S) := by
  intro ok p e s m args below meth c A adr0 n0 bx C H locs adr ls ha hP hD hS hl
  subst hL
  exact lv_istore_n C.1 C.2.1 hd hq hl.has hi rfl (fun ls' h' => k ⟨ok.1, ok.2.1.set ok.2.2.head rfl, ok.2.2.tail⟩ p e s m args below meth c A adr0 n0 bx C H locs adr ls' ha hP hD hS (hl.stored (fun v hv => (ok.2.1 v hv).2) (v := .int x) hi h'))
theorem tb_istore {i : Nat} {x : Int32} {L2 : List (Option Value)} (hd : decode y.2.1 pc = .ok (.istore i, 2)) (hi : i < y.2.2.1) (hL : L.set i (some (.int x)) = L2)
    (k : tb_At l G y R xt Z k1 k2 n sh I (pc + 2) L2 S) : tb_At l G y R xt Z k1 k2 n sh I pc L (.int x :: S) := by
  intro ok p e s m args below meth c A adr0 n0 bx C H locs adr ls ha hP hD hS hl
  subst hL
  exact lv_istore C.1 C.2.1 hd hl.has hi rfl (fun ls' h' => k ⟨ok.1, ok.2.1.set ok.2.2.head rfl, ok.2.2.tail⟩ p e s m args below meth c A adr0 n0 bx C H locs adr ls' ha hP hD hS (hl.stored (fun v hv => (ok.2.1 v hv).2) (v := .int x) hi h'))
theorem tb_astore_n {q : Fin 4} {i : Nat} {x : Nat} {L2 : List (Option Value)} (hd : decode y.2.1 pc = .ok (.astore_n q, 1)) (hq : (q : Nat) = i) (hi : i < y.2.2.1) (hL : L.set i (some (.ref x)) = L2)
    (k : tb_At l G y R xt Z k1 k2 n sh I (pc + 1) L2 S) : tb_At l G y R xt Z k1 k2 n sh I pc L (.ref x :: S) := by
  intro ok p e s m args below meth c A adr0 n0 bx C H locs adr ls ha hP hD hS hl
  subst hL
  exact lv_astore_n C.1 C.2.1 hd hq hl.has hi rfl (fun ls' h' => k ⟨ok.1, ok.2.1.set ok.2.2.head rfl, ok.2.2.tail⟩ p e s m args below meth c A adr0 n0 bx C H locs adr ls' ha hP hD hS (hl.stored (fun v hv => (ok.2.1 v hv).2) (v := .ref x) hi h'))
theorem tb_astore {i : Nat} {x : Nat} {L2 : List (Option Value)} (hd : decode y.2.1 pc = .ok (.astore i, 2)) (hi : i < y.2.2.1) (hL : L.set i (some (.ref x)) = L2)
    (k : tb_At l G y R xt Z k1 k2 n sh I (pc + 2) L2 S) : tb_At l G y R xt Z k1 k2 n sh I pc L (.ref x :: S) := by
  intro ok p e s m args below meth c A adr0 n0 bx C H locs adr ls ha hP hD hS hl
  subst hL
  exact lv_astore C.1 C.2.1 hd hl.has hi rfl (fun ls' h' => k ⟨ok.1, ok.2.1.set ok.2.2.head rfl, ok.2.2.tail⟩ p e s m args below meth c A adr0 n0 bx C H locs adr ls' ha hP hD hS (hl.stored (fun v hv => (ok.2.1 v hv).2) (v := .ref x) hi h'))
theorem tb_iinc {i : Nat} {cn : Int} {x v : Int32} {L2 : List (Option Value)} (hd : decode y.2.1 pc = .ok (.iinc i cn, 3)) (hx : L[i]? = some (some (.int x))) (hv : x + Int32.ofInt cn = v) (hL : L.set i (some (.int v)) = L2)
    (k : tb_At l G y R xt Z k1 k2 n sh I (pc + 3) L2 S) : tb_At l G y R xt Z k1 k2 n sh I pc L S := by
  intro ok p e s m args below meth c A adr0 n0 bx C H locs adr ls ha hP hD hS hl
  subst hL
  have hi : i < y.2.2.1 := by rw [← hl.2.2.1]; exact (List.getElem?_eq_some_iff.mp hx).1
  have hm : (i, tb_rn adr (.int x)) ∈ (L.zipIdx.filterMap fun q => q.1.map fun v => (q.2, tb_rn adr v)) := List.mem_filterMap.mpr ⟨(some (.int x), i), List.mem_zipIdx_iff_getElem?.mpr hx, rfl⟩
  obtain ⟨j, hj⟩ := List.getElem?_of_mem hm
  exact lv_iinc C.1 C.2.1 hd hl.has hj hv hi rfl (fun ls' h' => k ⟨ok.1, ok.2.1.set (v := .int v) trivial rfl, ok.2.2⟩ p e s m args below meth c A adr0 n0 bx C H locs adr ls' ha hP hD hS (hl.stored (fun v hv => (ok.2.1 v hv).2) (v := .int v) hi h'))
theorem tb_icmp_eq {a b : Int32} {off : Int} {tgt : Nat} (hd : decode y.2.1 pc = .ok (.if_icmp .eq off, 3)) (ht : (pc : Int) + off = (tgt : Int))
    (kt : a = b → tb_At l G y R xt Z k1 k2 n sh I tgt L S) (kf : ¬ a = b → tb_At l G y R xt Z k1 k2 n sh I (pc + 3) L S) : tb_At l G y R xt Z k1 k2 n sh I pc L (.int b :: .int a :: S) := by
  intro ok p e s m args below meth c A adr0 n0 bx C H locs adr ls ha hP hD hS hl
  have ok' : tb_ok n sh L S := ⟨ok.1, ok.2.1, ok.2.2.tail.tail⟩
  exact lv_icmp_eq C.1 C.2.1 hd ht (fun h => kt h ok' p e s m args below meth c A adr0 n0 bx C H locs adr ls ha hP hD hS hl) (fun h => kf h ok' p e s m args below meth c A adr0 n0 bx C H locs adr ls ha hP hD hS hl)
theorem tb_icmp_ne {a b : Int32} {off : Int} {tgt : Nat} (hd : decode y.2.1 pc = .ok (.if_icmp .ne off, 3)) (ht : (pc : Int) + off = (tgt : Int))
    (kt : ¬ a = b → tb_At l G y R xt Z k1 k2 n sh I tgt L S) (kf : a = b → tb_At l G y R xt Z k1 k2 n sh I (pc + 3) L S) : tb_At l G y R xt Z k1 k2 n sh I pc L (.int b :: .int a :: S) := by
  intro ok p e s m args below meth c A adr0 n0 bx C H locs adr ls ha hP hD hS hl
  have ok' : tb_ok n sh L S := ⟨ok.1, ok.2.1, ok.2.2.tail.tail⟩
  exact lv_icmp_ne C.1 C.2.1 hd ht (fun h => kt h ok' p e s m args below meth c A adr0 n0 bx C H locs adr ls ha hP hD hS hl) (fun h => kf h ok' p e s m args below meth c A adr0 n0 bx C H locs adr ls ha hP hD hS hl)
theorem tb_icmp_lt {a b : Int32} {off : Int} {tgt : Nat} (hd : decode y.2.1 pc = .ok (.if_icmp .lt off, 3)) (ht : (pc : Int) + off = (tgt : Int))
    (kt : a < b → tb_At l G y R xt Z k1 k2 n sh I tgt L S) (kf : ¬ a < b → tb_At l G y R xt Z k1 k2 n sh I (pc + 3) L S) : tb_At l G y R xt Z k1 k2 n sh I pc L (.int b :: .int a :: S) := by
  intro ok p e s m args below meth c A adr0 n0 bx C H locs adr ls ha hP hD hS hl
  have ok' : tb_ok n sh L S := ⟨ok.1, ok.2.1, ok.2.2.tail.tail⟩
  exact lv_icmp_lt C.1 C.2.1 hd ht (fun h => kt h ok' p e s m args below meth c A adr0 n0 bx C H locs adr ls ha hP hD hS hl) (fun h => kf h ok' p e s m args below meth c A adr0 n0 bx C H locs adr ls ha hP hD hS hl)
theorem tb_icmp_ge {a b : Int32} {off : Int} {tgt : Nat} (hd : decode y.2.1 pc = .ok (.if_icmp .ge off, 3)) (ht : (pc : Int) + off = (tgt : Int))
    (kt : b ≤ a → tb_At l G y R xt Z k1 k2 n sh I tgt L S) (kf : ¬ b ≤ a → tb_At l G y R xt Z k1 k2 n sh I (pc + 3) L S) : tb_At l G y R xt Z k1 k2 n sh I pc L (.int b :: .int a :: S) := by
  intro ok p e s m args below meth c A adr0 n0 bx C H locs adr ls ha hP hD hS hl
  have ok' : tb_ok n sh L S := ⟨ok.1, ok.2.1, ok.2.2.tail.tail⟩
  exact lv_icmp_ge C.1 C.2.1 hd ht (fun h => kt h ok' p e s m args below meth c A adr0 n0 bx C H locs adr ls ha hP hD hS hl) (fun h => kf h ok' p e s m args below meth c A adr0 n0 bx C H locs adr ls ha hP hD hS hl)
theorem tb_icmp_geT {a b : Int32} {off : Int} {tgt : Nat} (h : b ≤ a) (hd : decode y.2.1 pc = .ok (.if_icmp .ge off, 3)) (ht : (pc : Int) + off = (tgt : Int))
    (kt : tb_At l G y R xt Z k1 k2 n sh I tgt L S) : tb_At l G y R xt Z k1 k2 n sh I pc L (.int b :: .int a :: S) := tb_icmp_ge hd ht (fun _ => kt) (fun h' => absurd h h')
theorem tb_icmp_geF {a b : Int32} {off : Int} {tgt : Nat} (h : ¬ b ≤ a) (hd : decode y.2.1 pc = .ok (.if_icmp .ge off, 3)) (ht : (pc : Int) + off = (tgt : Int))
    (kf : tb_At l G y R xt Z k1 k2 n sh I (pc + 3) L S) : tb_At l G y R xt Z k1 k2 n sh I pc L (.int b :: .int a :: S) := tb_icmp_ge hd ht (fun h' => absurd h' h) (fun _ => kf)
theorem tb_icmp_gt {a b : Int32} {off : Int} {tgt : Nat} (hd : decode y.2.1 pc = .ok (.if_icmp .gt off, 3)) (ht : (pc : Int) + off = (tgt : Int))
    (kt : b < a → tb_At l G y R xt Z k1 k2 n sh I tgt L S) (kf : ¬ b < a → tb_At l G y R xt Z k1 k2 n sh I (pc + 3) L S) : tb_At l G y R xt Z k1 k2 n sh I pc L (.int b :: .int a :: S) := by
  intro ok p e s m args below meth c A adr0 n0 bx C H locs adr ls ha hP hD hS hl
  have ok' : tb_ok n sh L S := ⟨ok.1, ok.2.1, ok.2.2.tail.tail⟩
  exact lv_icmp_gt C.1 C.2.1 hd ht (fun h => kt h ok' p e s m args below meth c A adr0 n0 bx C H locs adr ls ha hP hD hS hl) (fun h => kf h ok' p e s m args below meth c A adr0 n0 bx C H locs adr ls ha hP hD hS hl)
theorem tb_icmp_le {a b : Int32} {off : Int} {tgt : Nat} (hd : decode y.2.1 pc = .ok (.if_icmp .le off, 3)) (ht : (pc : Int) + off = (tgt : Int))
    (kt : a ≤ b → tb_At l G y R xt Z k1 k2 n sh I tgt L S) (kf : ¬ a ≤ b → tb_At l G y R xt Z k1 k2 n sh I (pc + 3) L S) : tb_At l G y R xt Z k1 k2 n sh I pc L (.int b :: .int a :: S) := by
  intro ok p e s m args below meth c A adr0 n0 bx C H locs adr ls ha hP hD hS hl
  have ok' : tb_ok n sh L S := ⟨ok.1, ok.2.1, ok.2.2.tail.tail⟩
  exact lv_icmp_le C.1 C.2.1 hd ht (fun h => kt h ok' p e s m args below meth c A adr0 n0 bx C H locs adr ls ha hP hD hS hl) (fun h => kf h ok' p e s m args below meth c A adr0 n0 bx C H locs adr ls ha hP hD hS hl)
theorem tb_if_eq {a : Int32} {off : Int} {tgt : Nat} (hd : decode y.2.1 pc = .ok (.ifCond .eq off, 3)) (ht : (pc : Int) + off = (tgt : Int))
    (kt : a = 0 → tb_At l G y R xt Z k1 k2 n sh I tgt L S) (kf : ¬ a = 0 → tb_At l G y R xt Z k1 k2 n sh I (pc + 3) L S) : tb_At l G y R xt Z k1 k2 n sh I pc L (.int a :: S) := by
  intro ok p e s m args below meth c A adr0 n0 bx C H locs adr ls ha hP hD hS hl
  have ok' : tb_ok n sh L S := ⟨ok.1, ok.2.1, ok.2.2.tail⟩
  exact lv_if_eq C.1 C.2.1 hd ht (fun h => kt h ok' p e s m args below meth c A adr0 n0 bx C H locs adr ls ha hP hD hS hl) (fun h => kf h ok' p e s m args below meth c A adr0 n0 bx C H locs adr ls ha hP hD hS hl)
theorem tb_if_ne {a : Int32} {off : Int} {tgt : Nat} (hd : decode y.2.1 pc = .ok (.ifCond .ne off, 3)) (ht : (pc : Int) + off = (tgt : Int))
    (kt : ¬ a = 0 → tb_At l G y R xt Z k1 k2 n sh I tgt L S) (kf : a = 0 → tb_At l G y R xt Z k1 k2 n sh I (pc + 3) L S) : tb_At l G y R xt Z k1 k2 n sh I pc L (.int a :: S) := by
  intro ok p e s m args below meth c A adr0 n0 bx C H locs adr ls ha hP hD hS hl
  have ok' : tb_ok n sh L S := ⟨ok.1, ok.2.1, ok.2.2.tail⟩
  exact lv_if_ne C.1 C.2.1 hd ht (fun h => kt h ok' p e s m args below meth c A adr0 n0 bx C H locs adr ls ha hP hD hS hl) (fun h => kf h ok' p e s m args below meth c A adr0 n0 bx C H locs adr ls ha hP hD hS hl)
theorem tb_if_lt {a : Int32} {off : Int} {tgt : Nat} (hd : decode y.2.1 pc = .ok (.ifCond .lt off, 3)) (ht : (pc : Int) + off = (tgt : Int))
    (kt : a < 0 → tb_At l G y R xt Z k1 k2 n sh I tgt L S) (kf : ¬ a < 0 → tb_At l G y R xt Z k1 k2 n sh I (pc + 3) L S) : tb_At l G y R xt Z k1 k2 n sh I pc L (.int a :: S) := by
  intro ok p e s m args below meth c A adr0 n0 bx C H locs adr ls ha hP hD hS hl
  have ok' : tb_ok n sh L S := ⟨ok.1, ok.2.1, ok.2.2.tail⟩
  exact lv_if_lt C.1 C.2.1 hd ht (fun h => kt h ok' p e s m args below meth c A adr0 n0 bx C H locs adr ls ha hP hD hS hl) (fun h => kf h ok' p e s m args below meth c A adr0 n0 bx C H locs adr ls ha hP hD hS hl)
theorem tb_if_ge {a : Int32} {off : Int} {tgt : Nat} (hd : decode y.2.1 pc = .ok (.ifCond .ge off, 3)) (ht : (pc : Int) + off = (tgt : Int))
    (kt : 0 ≤ a → tb_At l G y R xt Z k1 k2 n sh I tgt L S) (kf : ¬ 0 ≤ a → tb_At l G y R xt Z k1 k2 n sh I (pc + 3) L S) : tb_At l G y R xt Z k1 k2 n sh I pc L (.int a :: S) := by
  intro ok p e s m args below meth c A adr0 n0 bx C H locs adr ls ha hP hD hS hl
  have ok' : tb_ok n sh L S := ⟨ok.1, ok.2.1, ok.2.2.tail⟩
  exact lv_if_ge C.1 C.2.1 hd ht (fun h => kt h ok' p e s m args below meth c A adr0 n0 bx C H locs adr ls ha hP hD hS hl) (fun h => kf h ok' p e s m args below meth c A adr0 n0 bx C H locs adr ls ha hP hD hS hl)
theorem tb_if_gt {a : Int32} {off : Int} {tgt : Nat} (hd : decode y.2.1 pc = .ok (.ifCond .gt off, 3)) (ht : (pc : Int) + off = (tgt : Int))
    (kt : 0 < a → tb_At l G y R xt Z k1 k2 n sh I tgt L S) (kf : ¬ 0 < a → tb_At l G y R xt Z k1 k2 n sh I (pc + 3) L S) : tb_At l G y R xt Z k1 k2 n sh I pc L (.int a :: S) := by
  intro ok p e s m args below meth c A adr0 n0 bx C H locs adr ls ha hP hD hS hl
  have ok' : tb_ok n sh L S := ⟨ok.1, ok.2.1, ok.2.2.tail⟩
  exact lv_if_gt C.1 C.2.1 hd ht (fun h => kt h ok' p e s m args below meth c A adr0 n0 bx C H locs adr ls ha hP hD hS hl) (fun h => kf h ok' p e s m args below meth c A adr0 n0 bx C H locs adr ls ha hP hD hS hl)
theorem tb_if_le {a : Int32} {off : Int} {tgt : Nat} (hd : decode y.2.1 pc = .ok (.ifCond .le off, 3)) (ht : (pc : Int) + off = (tgt : Int))
    (kt : a ≤ 0 → tb_At l G y R xt Z k1 k2 n sh I tgt L S) (kf : ¬ a ≤ 0 → tb_At l G y R xt Z k1 k2 n sh I (pc + 3) L S) : tb_At l G y R xt Z k1 k2 n sh I pc L (.int a :: S) := by
  intro ok p e s m args below meth c A adr0 n0 bx C H locs adr ls ha hP hD hS hl
  have ok' : tb_ok n sh L S := ⟨ok.1, ok.2.1, ok.2.2.tail⟩
  exact lv_if_le C.1 C.2.1 hd ht (fun h => kt h ok' p e s m args below meth c A adr0 n0 bx C H locs adr ls ha hP hD hS hl) (fun h => kf h ok' p e s m args below meth c A adr0 n0 bx C H locs adr ls ha hP hD hS hl)
theorem tb_tabOut {dflt lo hi : Int} {offs : Array Int} {len : Nat} {x : Int32} {tgt : Nat} (hd : decode y.2.1 pc = .ok (.tableswitch dflt lo hi offs, len)) (h : x.toInt < lo ∨ hi < x.toInt) (ht : (pc : Int) + dflt = (tgt : Int))
    (k : tb_At l G y R xt Z k1 k2 n sh I tgt L S) : tb_At l G y R xt Z k1 k2 n sh I pc L (.int x :: S) := by
  intro ok p e s m args below meth c A adr0 n0 bx C H locs adr ls ha hP hD hS hl
  exact lv_tableOut C.1 C.2.1 hd h ht (k ⟨ok.1, ok.2.1, ok.2.2.tail⟩ p e s m args below meth c A adr0 n0 bx C H locs adr ls ha hP hD hS hl)
theorem tb_tabIn {dflt lo hi off : Int} {offs : Array Int} {len : Nat} {x : Int32} {tgt : Nat} (hd : decode y.2.1 pc = .ok (.tableswitch dflt lo hi offs, len)) (h1 : ¬ x.toInt < lo) (h2 : ¬ hi < x.toInt) (ho : offs[(x.toInt - lo).toNat]? = some off) (ht : (pc : Int) + off = (tgt : Int))
    (k : tb_At l G y R xt Z k1 k2 n sh I tgt L S) : tb_At l G y R xt Z k1 k2 n sh I pc L (.int x :: S) := by
  intro ok p e s m args below meth c A adr0 n0 bx C H locs adr ls ha hP hD hS hl
  exact lv_tableIn C.1 C.2.1 hd h1 h2 ho ht (k ⟨ok.1, ok.2.1, ok.2.2.tail⟩ p e s m args below meth c A adr0 n0 bx C H locs adr ls ha hP hD hS hl)
theorem tb_shcong {sh2 : Nat → tb_Sh} (h : ∀ c, c < n → sh c = sh2 c) (k : tb_At l G y R xt Z k1 k2 n sh2 I pc L S) : tb_At l G y R xt Z k1 k2 n sh I pc L S := by
  intro ok p e s m args below meth c A adr0 n0 bx C H locs adr ls ha hP hD hS hl
  have ew : tb_ws G adr n sh I = tb_ws G adr n sh2 I := by
    apply List.map_congr_left
    intro c9 hc
    rw [h c9 (List.mem_range.mp hc)]
  rw [ew] at hP hD
  exact k ⟨fun k9 h9 r hr => ok.1 k9 h9 r (by rw [h k9 h9]; exact hr), ok.2⟩ p e s m args below meth c A adr0 n0 bx C H locs adr ls ha hP hD hS hl
end TBR
end
