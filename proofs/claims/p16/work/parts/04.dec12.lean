theorem dX12_count_188 : decode cX12_count 188 = .ok (.ireturn, 1) := by decide +kernel
theorem dX12_fits_0 : decode cX12_fits 0 = .ok (.aload_n 0, 1) := by decide +kernel
theorem dX12_fits_1 : decode cX12_fits 1 = .ok (.getfield 28, 3) := by decide +kernel
theorem dX12_fits_4 : decode cX12_fits 4 = .ok (.iload_n 1, 1) := by decide +kernel
theorem dX12_fits_5 : decode cX12_fits 5 = .ok (.iaload, 1) := by decide +kernel
theorem dX12_fits_6 : decode cX12_fits 6 = .ok (.istore_n 3, 1) := by decide +kernel
theorem dX12_fits_7 : decode cX12_fits 7 = .ok (.iconst 0, 1) := by decide +kernel
theorem dX12_fits_8 : decode cX12_fits 8 = .ok (.istore 4, 2) := by decide +kernel
theorem dX12_fits_10 : decode cX12_fits 10 = .ok (.iconst (-1), 1) := by decide +kernel
theorem dX12_fits_11 : decode cX12_fits 11 = .ok (.istore 5, 2) := by decide +kernel
theorem dX12_fits_13 : decode cX12_fits 13 = .ok (.iconst 1, 1) := by decide +kernel
theorem dX12_fits_14 : decode cX12_fits 14 = .ok (.istore 6, 2) := by decide +kernel
theorem dX12_fits_16 : decode cX12_fits 16 = .ok (.iload 6, 2) := by decide +kernel
theorem dX12_fits_18 : decode cX12_fits 18 = .ok (.bipush 9, 2) := by decide +kernel
theorem dX12_fits_20 : decode cX12_fits 20 = .ok (.if_icmp .gt 98, 3) := by decide +kernel
theorem dX12_fits_23 : decode cX12_fits 23 = .ok (.aload_n 0, 1) := by decide +kernel
theorem dX12_fits_24 : decode cX12_fits 24 = .ok (.getfield 28, 3) := by decide +kernel
theorem dX12_fits_27 : decode cX12_fits 27 = .ok (.iload_n 1, 1) := by decide +kernel
theorem dX12_fits_28 : decode cX12_fits 28 = .ok (.iload 6, 2) := by decide +kernel
theorem dX12_fits_30 : decode cX12_fits 30 = .ok (.iastore, 1) := by decide +kernel
theorem dX12_fits_31 : decode cX12_fits 31 = .ok (.iconst 1, 1) := by decide +kernel
theorem dX12_fits_32 : decode cX12_fits 32 = .ok (.istore 7, 2) := by decide +kernel
theorem dX12_fits_34 : decode cX12_fits 34 = .ok (.iconst 0, 1) := by decide +kernel
theorem dX12_fits_35 : decode cX12_fits 35 = .ok (.istore 8, 2) := by decide +kernel
theorem dX12_fits_37 : decode cX12_fits 37 = .ok (.iload 8, 2) := by decide +kernel
theorem dX12_fits_39 : decode cX12_fits 39 = .ok (.aload_n 0, 1) := by decide +kernel
theorem dX12_fits_40 : decode cX12_fits 40 = .ok (.getfield 9, 3) := by decide +kernel
theorem dX12_fits_43 : decode cX12_fits 43 = .ok (.bipush 9, 2) := by decide +kernel
theorem dX12_fits_45 : decode cX12_fits 45 = .ok (.iaload, 1) := by decide +kernel
theorem dX12_fits_46 : decode cX12_fits 46 = .ok (.if_icmp .ge 46, 3) := by decide +kernel
theorem dX12_fits_49 : decode cX12_fits 49 = .ok (.iload 7, 2) := by decide +kernel
theorem dX12_fits_51 : decode cX12_fits 51 = .ok (.ifCond .eq 41, 3) := by decide +kernel
theorem dX12_fits_54 : decode cX12_fits 54 = .ok (.aload_n 0, 1) := by decide +kernel
theorem dX12_fits_55 : decode cX12_fits 55 = .ok (.aload_n 0, 1) := by decide +kernel
theorem dX12_fits_56 : decode cX12_fits 56 = .ok (.getfield 9, 3) := by decide +kernel
theorem dX12_fits_59 : decode cX12_fits 59 = .ok (.bipush 10, 2) := by decide +kernel
theorem dX12_fits_61 : decode cX12_fits 61 = .ok (.iconst 2, 1) := by decide +kernel
theorem dX12_fits_62 : decode cX12_fits 62 = .ok (.iload 8, 2) := by decide +kernel
theorem dX12_fits_64 : decode cX12_fits 64 = .ok (.imul, 1) := by decide +kernel
theorem dX12_fits_65 : decode cX12_fits 65 = .ok (.iadd, 1) := by decide +kernel
theorem dX12_fits_66 : decode cX12_fits 66 = .ok (.iaload, 1) := by decide +kernel
theorem dX12_fits_67 : decode cX12_fits 67 = .ok (.aload_n 0, 1) := by decide +kernel
theorem dX12_fits_68 : decode cX12_fits 68 = .ok (.getfield 9, 3) := by decide +kernel
theorem dX12_fits_71 : decode cX12_fits 71 = .ok (.bipush 10, 2) := by decide +kernel
theorem dX12_fits_73 : decode cX12_fits 73 = .ok (.iconst 2, 1) := by decide +kernel
theorem dX12_fits_74 : decode cX12_fits 74 = .ok (.iload 8, 2) := by decide +kernel
theorem dX12_fits_76 : decode cX12_fits 76 = .ok (.imul, 1) := by decide +kernel
theorem dX12_fits_77 : decode cX12_fits 77 = .ok (.iadd, 1) := by decide +kernel
theorem dX12_fits_78 : decode cX12_fits 78 = .ok (.iconst 1, 1) := by decide +kernel
theorem dX12_fits_79 : decode cX12_fits 79 = .ok (.iadd, 1) := by decide +kernel
theorem dX12_fits_80 : decode cX12_fits 80 = .ok (.iaload, 1) := by decide +kernel
theorem dX12_fits_81 : decode cX12_fits 81 = .ok (.invokevirtual 142, 3) := by decide +kernel
theorem dX12_fits_84 : decode cX12_fits 84 = .ok (.istore 7, 2) := by decide +kernel
theorem dX12_fits_86 : decode cX12_fits 86 = .ok (.iinc 8 1, 3) := by decide +kernel
theorem dX12_fits_89 : decode cX12_fits 89 = .ok (.goto (-52), 3) := by decide +kernel
theorem dX12_fits_92 : decode cX12_fits 92 = .ok (.iload 7, 2) := by decide +kernel
theorem dX12_fits_94 : decode cX12_fits 94 = .ok (.ifCond .ne 6, 3) := by decide +kernel
theorem dX12_fits_97 : decode cX12_fits 97 = .ok (.goto 15, 3) := by decide +kernel
theorem dX12_fits_100 : decode cX12_fits 100 = .ok (.iload 4, 2) := by decide +kernel
theorem dX12_fits_102 : decode cX12_fits 102 = .ok (.ifCond .ne 7, 3) := by decide +kernel
theorem dX12_fits_105 : decode cX12_fits 105 = .ok (.iload 6, 2) := by decide +kernel
theorem dX12_fits_107 : decode cX12_fits 107 = .ok (.istore 5, 2) := by decide +kernel
theorem dX12_fits_109 : decode cX12_fits 109 = .ok (.iinc 4 1, 3) := by decide +kernel
theorem dX12_fits_112 : decode cX12_fits 112 = .ok (.iinc 6 1, 3) := by decide +kernel
theorem dX12_fits_115 : decode cX12_fits 115 = .ok (.goto (-99), 3) := by decide +kernel
theorem dX12_fits_118 : decode cX12_fits 118 = .ok (.aload_n 0, 1) := by decide +kernel
theorem dX12_fits_119 : decode cX12_fits 119 = .ok (.getfield 28, 3) := by decide +kernel
theorem dX12_fits_122 : decode cX12_fits 122 = .ok (.iload_n 1, 1) := by decide +kernel
theorem dX12_fits_123 : decode cX12_fits 123 = .ok (.iload_n 3, 1) := by decide +kernel
theorem dX12_fits_124 : decode cX12_fits 124 = .ok (.iastore, 1) := by decide +kernel
theorem dX12_fits_125 : decode cX12_fits 125 = .ok (.iload_n 2, 1) := by decide +kernel
theorem dX12_fits_126 : decode cX12_fits 126 = .ok (.ifCond .eq 8, 3) := by decide +kernel
theorem dX12_fits_129 : decode cX12_fits 129 = .ok (.iload 5, 2) := by decide +kernel
theorem dX12_fits_131 : decode cX12_fits 131 = .ok (.goto 5, 3) := by decide +kernel
theorem dX12_fits_134 : decode cX12_fits 134 = .ok (.iload 4, 2) := by decide +kernel
theorem dX12_fits_136 : decode cX12_fits 136 = .ok (.ireturn, 1) := by decide +kernel
theorem dX12_isSymbol_0 : decode cX12_isSymbol 0 = .ok (.iload_n 1, 1) := by decide +kernel
theorem dX12_isSymbol_1 : decode cX12_isSymbol 1 = .ok (.iconst 0, 1) := by decide +kernel
theorem dX12_isSymbol_2 : decode cX12_isSymbol 2 = .ok (.aload_n 0, 1) := by decide +kernel
theorem dX12_isSymbol_3 : decode cX12_isSymbol 3 = .ok (.getfield 347, 3) := by decide +kernel
theorem dX12_isSymbol_6 : decode cX12_isSymbol 6 = .ok (.iconst 1, 1) := by decide +kernel
theorem dX12_isSymbol_7 : decode cX12_isSymbol 7 = .ok (.isub, 1) := by decide +kernel
theorem dX12_isSymbol_8 : decode cX12_isSymbol 8 = .ok (.invokestatic 283, 3) := by decide +kernel
theorem dX12_isSymbol_11 : decode cX12_isSymbol 11 = .ok (.ireturn, 1) := by decide +kernel
theorem dX12_symbol_0 : decode cX12_symbol 0 = .ok (.aload_n 0, 1) := by decide +kernel
theorem dX12_symbol_1 : decode cX12_symbol 1 = .ok (.iconst 0, 1) := by decide +kernel
theorem dX12_symbol_2 : decode cX12_symbol 2 = .ok (.putfield 68, 3) := by decide +kernel
theorem dX12_symbol_5 : decode cX12_symbol 5 = .ok (.aload_n 0, 1) := by decide +kernel
theorem dX12_symbol_6 : decode cX12_symbol 6 = .ok (.aload_n 0, 1) := by decide +kernel
theorem dX12_symbol_7 : decode cX12_symbol 7 = .ok (.iload_n 1, 1) := by decide +kernel
theorem dX12_symbol_8 : decode cX12_symbol 8 = .ok (.invokevirtual 369, 3) := by decide +kernel
theorem dX12_symbol_11 : decode cX12_symbol 11 = .ok (.ifCond .eq 16, 3) := by decide +kernel
theorem dX12_symbol_14 : decode cX12_symbol 14 = .ok (.iload_n 2, 1) := by decide +kernel
theorem dX12_symbol_15 : decode cX12_symbol 15 = .ok (.iconst 0, 1) := by decide +kernel
theorem dX12_symbol_16 : decode cX12_symbol 16 = .ok (.iconst 4, 1) := by decide +kernel
theorem dX12_symbol_17 : decode cX12_symbol 17 = .ok (.invokestatic 283, 3) := by decide +kernel
theorem dX12_symbol_20 : decode cX12_symbol 20 = .ok (.ifCond .eq 7, 3) := by decide +kernel
theorem dX12_symbol_23 : decode cX12_symbol 23 = .ok (.iconst 1, 1) := by decide +kernel
theorem dX12_symbol_24 : decode cX12_symbol 24 = .ok (.goto 4, 3) := by decide +kernel
theorem dX12_symbol_27 : decode cX12_symbol 27 = .ok (.iconst 0, 1) := by decide +kernel
theorem dX12_symbol_28 : decode cX12_symbol 28 = .ok (.iconst 1, 1) := by decide +kernel
theorem dX12_symbol_29 : decode cX12_symbol 29 = .ok (.invokevirtual 334, 3) := by decide +kernel
theorem dX12_symbol_32 : decode cX12_symbol 32 = .ok (.ifCond .ne 5, 3) := by decide +kernel
theorem dX12_symbol_35 : decode cX12_symbol 35 = .ok (.iconst 0, 1) := by decide +kernel
theorem dX12_symbol_36 : decode cX12_symbol 36 = .ok (.ireturn, 1) := by decide +kernel
theorem dX12_symbol_37 : decode cX12_symbol 37 = .ok (.iload_n 2, 1) := by decide +kernel
theorem dX12_symbol_38 : decode cX12_symbol 38 = .ok (.ifCond .ne 12, 3) := by decide +kernel
theorem dX12_symbol_41 : decode cX12_symbol 41 = .ok (.aload_n 0, 1) := by decide +kernel
theorem dX12_symbol_42 : decode cX12_symbol 42 = .ok (.getfield 22, 3) := by decide +kernel
theorem dX12_symbol_45 : decode cX12_symbol 45 = .ok (.iload_n 1, 1) := by decide +kernel
theorem dX12_symbol_46 : decode cX12_symbol 46 = .ok (.iaload, 1) := by decide +kernel
theorem dX12_symbol_47 : decode cX12_symbol 47 = .ok (.goto 46, 3) := by decide +kernel
theorem dX12_symbol_50 : decode cX12_symbol 50 = .ok (.iload_n 2, 1) := by decide +kernel
theorem dX12_symbol_51 : decode cX12_symbol 51 = .ok (.iconst 1, 1) := by decide +kernel
theorem dX12_symbol_52 : decode cX12_symbol 52 = .ok (.if_icmp .ne 12, 3) := by decide +kernel
theorem dX12_symbol_55 : decode cX12_symbol 55 = .ok (.aload_n 0, 1) := by decide +kernel
theorem dX12_symbol_56 : decode cX12_symbol 56 = .ok (.getfield 25, 3) := by decide +kernel
theorem dX12_symbol_59 : decode cX12_symbol 59 = .ok (.iload_n 1, 1) := by decide +kernel
theorem dX12_symbol_60 : decode cX12_symbol 60 = .ok (.iaload, 1) := by decide +kernel
theorem dX12_symbol_61 : decode cX12_symbol 61 = .ok (.goto 32, 3) := by decide +kernel
theorem dX12_symbol_64 : decode cX12_symbol 64 = .ok (.iload_n 2, 1) := by decide +kernel
theorem dX12_symbol_65 : decode cX12_symbol 65 = .ok (.iconst 2, 1) := by decide +kernel
theorem dX12_symbol_66 : decode cX12_symbol 66 = .ok (.if_icmp .ne 12, 3) := by decide +kernel
theorem dX12_symbol_69 : decode cX12_symbol 69 = .ok (.aload_n 0, 1) := by decide +kernel
theorem dX12_symbol_70 : decode cX12_symbol 70 = .ok (.getfield 28, 3) := by decide +kernel
theorem dX12_symbol_73 : decode cX12_symbol 73 = .ok (.iload_n 1, 1) := by decide +kernel
theorem dX12_symbol_74 : decode cX12_symbol 74 = .ok (.iaload, 1) := by decide +kernel
theorem dX12_symbol_75 : decode cX12_symbol 75 = .ok (.goto 18, 3) := by decide +kernel
theorem dX12_symbol_78 : decode cX12_symbol 78 = .ok (.aload_n 0, 1) := by decide +kernel
theorem dX12_symbol_79 : decode cX12_symbol 79 = .ok (.iload_n 1, 1) := by decide +kernel
theorem dX12_symbol_80 : decode cX12_symbol 80 = .ok (.iload_n 2, 1) := by decide +kernel
theorem dX12_symbol_81 : decode cX12_symbol 81 = .ok (.iconst 4, 1) := by decide +kernel
theorem dX12_symbol_82 : decode cX12_symbol 82 = .ok (.if_icmp .ne 7, 3) := by decide +kernel
theorem dX12_symbol_85 : decode cX12_symbol 85 = .ok (.iconst 1, 1) := by decide +kernel
theorem dX12_symbol_86 : decode cX12_symbol 86 = .ok (.goto 4, 3) := by decide +kernel
theorem dX12_symbol_89 : decode cX12_symbol 89 = .ok (.iconst 0, 1) := by decide +kernel
theorem dX12_symbol_90 : decode cX12_symbol 90 = .ok (.invokevirtual 372, 3) := by decide +kernel
theorem dX12_symbol_93 : decode cX12_symbol 93 = .ok (.ireturn, 1) := by decide +kernel
theorem dX12_isTerm_0 : decode cX12_isTerm 0 = .ok (.iload_n 1, 1) := by decide +kernel
theorem dX12_isTerm_1 : decode cX12_isTerm 1 = .ok (.iconst 0, 1) := by decide +kernel
theorem dX12_isTerm_2 : decode cX12_isTerm 2 = .ok (.aload_n 0, 1) := by decide +kernel
theorem dX12_isTerm_3 : decode cX12_isTerm 3 = .ok (.getfield 9, 3) := by decide +kernel
theorem dX12_isTerm_6 : decode cX12_isTerm 6 = .ok (.iconst 0, 1) := by decide +kernel
theorem dX12_isTerm_7 : decode cX12_isTerm 7 = .ok (.iaload, 1) := by decide +kernel
theorem dX12_isTerm_8 : decode cX12_isTerm 8 = .ok (.iconst 1, 1) := by decide +kernel
theorem dX12_isTerm_9 : decode cX12_isTerm 9 = .ok (.isub, 1) := by decide +kernel
theorem dX12_isTerm_10 : decode cX12_isTerm 10 = .ok (.invokestatic 283, 3) := by decide +kernel
theorem dX12_isTerm_13 : decode cX12_isTerm 13 = .ok (.ireturn, 1) := by decide +kernel
theorem dX12_isTermNow_0 : decode cX12_isTermNow 0 = .ok (.aload_n 0, 1) := by decide +kernel
theorem dX12_isTermNow_1 : decode cX12_isTermNow 1 = .ok (.aload_n 0, 1) := by decide +kernel
theorem dX12_isTermNow_2 : decode cX12_isTermNow 2 = .ok (.iload_n 1, 1) := by decide +kernel
theorem dX12_isTermNow_3 : decode cX12_isTermNow 3 = .ok (.invokevirtual 376, 3) := by decide +kernel
theorem dX12_isTermNow_6 : decode cX12_isTermNow 6 = .ok (.iconst 1, 1) := by decide +kernel
theorem dX12_isTermNow_7 : decode cX12_isTermNow 7 = .ok (.invokevirtual 334, 3) := by decide +kernel
theorem dX12_isTermNow_10 : decode cX12_isTermNow 10 = .ok (.ireturn, 1) := by decide +kernel
theorem dX12_usesOf_0 : decode cX12_usesOf 0 = .ok (.iconst 0, 1) := by decide +kernel
theorem dX12_usesOf_1 : decode cX12_usesOf 1 = .ok (.istore_n 2, 1) := by decide +kernel
theorem dX12_usesOf_2 : decode cX12_usesOf 2 = .ok (.iconst 0, 1) := by decide +kernel
theorem dX12_usesOf_3 : decode cX12_usesOf 3 = .ok (.istore_n 3, 1) := by decide +kernel
theorem dX12_usesOf_4 : decode cX12_usesOf 4 = .ok (.iload_n 3, 1) := by decide +kernel
theorem dX12_usesOf_5 : decode cX12_usesOf 5 = .ok (.aload_n 0, 1) := by decide +kernel
theorem dX12_usesOf_6 : decode cX12_usesOf 6 = .ok (.invokevirtual 96, 3) := by decide +kernel
theorem dX12_usesOf_9 : decode cX12_usesOf 9 = .ok (.if_icmp .ge 67, 3) := by decide +kernel
theorem dX12_usesOf_12 : decode cX12_usesOf 12 = .ok (.iconst 0, 1) := by decide +kernel
theorem dX12_usesOf_13 : decode cX12_usesOf 13 = .ok (.istore 4, 2) := by decide +kernel
theorem dX12_usesOf_15 : decode cX12_usesOf 15 = .ok (.iconst 0, 1) := by decide +kernel
theorem dX12_usesOf_16 : decode cX12_usesOf 16 = .ok (.istore 5, 2) := by decide +kernel
theorem dX12_usesOf_18 : decode cX12_usesOf 18 = .ok (.iload 5, 2) := by decide +kernel
theorem dX12_usesOf_20 : decode cX12_usesOf 20 = .ok (.aload_n 0, 1) := by decide +kernel
theorem dX12_usesOf_21 : decode cX12_usesOf 21 = .ok (.iload_n 3, 1) := by decide +kernel
theorem dX12_usesOf_22 : decode cX12_usesOf 22 = .ok (.invokevirtual 111, 3) := by decide +kernel
theorem dX12_usesOf_25 : decode cX12_usesOf 25 = .ok (.if_icmp .ge 32, 3) := by decide +kernel
theorem dX12_usesOf_28 : decode cX12_usesOf 28 = .ok (.iload 4, 2) := by decide +kernel
theorem dX12_usesOf_30 : decode cX12_usesOf 30 = .ok (.ifCond .ne 14, 3) := by decide +kernel
theorem dX12_usesOf_33 : decode cX12_usesOf 33 = .ok (.aload_n 0, 1) := by decide +kernel
theorem dX12_usesOf_34 : decode cX12_usesOf 34 = .ok (.iload_n 3, 1) := by decide +kernel
theorem dX12_usesOf_35 : decode cX12_usesOf 35 = .ok (.iload 5, 2) := by decide +kernel
theorem dX12_usesOf_37 : decode cX12_usesOf 37 = .ok (.invokevirtual 88, 3) := by decide +kernel
theorem dX12_usesOf_40 : decode cX12_usesOf 40 = .ok (.iload_n 1, 1) := by decide +kernel
theorem dX12_usesOf_41 : decode cX12_usesOf 41 = .ok (.if_icmp .ne 7, 3) := by decide +kernel
theorem dX12_usesOf_44 : decode cX12_usesOf 44 = .ok (.iconst 1, 1) := by decide +kernel
theorem dX12_usesOf_45 : decode cX12_usesOf 45 = .ok (.goto 4, 3) := by decide +kernel
theorem dX12_usesOf_48 : decode cX12_usesOf 48 = .ok (.iconst 0, 1) := by decide +kernel
theorem dX12_usesOf_49 : decode cX12_usesOf 49 = .ok (.istore 4, 2) := by decide +kernel
theorem dX12_usesOf_51 : decode cX12_usesOf 51 = .ok (.iinc 5 1, 3) := by decide +kernel
theorem dX12_usesOf_54 : decode cX12_usesOf 54 = .ok (.goto (-36), 3) := by decide +kernel
theorem dX12_usesOf_57 : decode cX12_usesOf 57 = .ok (.iload_n 2, 1) := by decide +kernel
theorem dX12_usesOf_58 : decode cX12_usesOf 58 = .ok (.iload 4, 2) := by decide +kernel
theorem dX12_usesOf_60 : decode cX12_usesOf 60 = .ok (.ifCond .eq 7, 3) := by decide +kernel
theorem dX12_usesOf_63 : decode cX12_usesOf 63 = .ok (.iconst 1, 1) := by decide +kernel
theorem dX12_usesOf_64 : decode cX12_usesOf 64 = .ok (.goto 4, 3) := by decide +kernel
theorem dX12_usesOf_67 : decode cX12_usesOf 67 = .ok (.iconst 0, 1) := by decide +kernel
theorem dX12_usesOf_68 : decode cX12_usesOf 68 = .ok (.iadd, 1) := by decide +kernel
theorem dX12_usesOf_69 : decode cX12_usesOf 69 = .ok (.istore_n 2, 1) := by decide +kernel
theorem dX12_usesOf_70 : decode cX12_usesOf 70 = .ok (.iinc 3 1, 3) := by decide +kernel
theorem dX12_usesOf_73 : decode cX12_usesOf 73 = .ok (.goto (-69), 3) := by decide +kernel
theorem dX12_usesOf_76 : decode cX12_usesOf 76 = .ok (.iload_n 2, 1) := by decide +kernel
theorem dX12_usesOf_77 : decode cX12_usesOf 77 = .ok (.ireturn, 1) := by decide +kernel
theorem dX12_term_0 : decode cX12_term 0 = .ok (.aload_n 0, 1) := by decide +kernel
theorem dX12_term_1 : decode cX12_term 1 = .ok (.iconst 0, 1) := by decide +kernel
theorem dX12_term_2 : decode cX12_term 2 = .ok (.putfield 68, 3) := by decide +kernel
theorem dX12_term_5 : decode cX12_term 5 = .ok (.aload_n 0, 1) := by decide +kernel
theorem dX12_term_6 : decode cX12_term 6 = .ok (.iload_n 1, 1) := by decide +kernel
theorem dX12_term_7 : decode cX12_term 7 = .ok (.invokevirtual 379, 3) := by decide +kernel
theorem dX12_term_10 : decode cX12_term 10 = .ok (.ifCond .eq 18, 3) := by decide +kernel
theorem dX12_term_13 : decode cX12_term 13 = .ok (.aload_n 0, 1) := by decide +kernel
theorem dX12_term_14 : decode cX12_term 14 = .ok (.iload_n 2, 1) := by decide +kernel
theorem dX12_term_15 : decode cX12_term 15 = .ok (.iconst 0, 1) := by decide +kernel
theorem dX12_term_16 : decode cX12_term 16 = .ok (.bipush 9, 2) := by decide +kernel
theorem dX12_term_18 : decode cX12_term 18 = .ok (.invokestatic 283, 3) := by decide +kernel
theorem dX12_term_21 : decode cX12_term 21 = .ok (.iconst 1, 1) := by decide +kernel
theorem dX12_term_22 : decode cX12_term 22 = .ok (.invokevirtual 334, 3) := by decide +kernel
theorem dX12_term_25 : decode cX12_term 25 = .ok (.ifCond .ne 5, 3) := by decide +kernel
theorem dX12_term_28 : decode cX12_term 28 = .ok (.iconst 0, 1) := by decide +kernel
theorem dX12_term_29 : decode cX12_term 29 = .ok (.ireturn, 1) := by decide +kernel
theorem dX12_term_30 : decode cX12_term 30 = .ok (.iload_n 2, 1) := by decide +kernel
theorem dX12_term_31 : decode cX12_term 31 = .ok (.tableswitch 128 0 8 #[49, 67, 85, 91, 97, 104, 110, 116, 122], 49) := by decide +kernel
theorem dX12_term_80 : decode cX12_term 80 = .ok (.aload_n 0, 1) := by decide +kernel
theorem dX12_term_81 : decode cX12_term 81 = .ok (.iload_n 1, 1) := by decide +kernel
theorem dX12_term_82 : decode cX12_term 82 = .ok (.invokevirtual 78, 3) := by decide +kernel
theorem dX12_term_85 : decode cX12_term 85 = .ok (.ifCond .eq 7, 3) := by decide +kernel
theorem dX12_term_88 : decode cX12_term 88 = .ok (.iconst (-1), 1) := by decide +kernel
theorem dX12_term_89 : decode cX12_term 89 = .ok (.goto 8, 3) := by decide +kernel
theorem dX12_term_92 : decode cX12_term 92 = .ok (.aload_n 0, 1) := by decide +kernel
theorem dX12_term_93 : decode cX12_term 93 = .ok (.iload_n 1, 1) := by decide +kernel
theorem dX12_term_94 : decode cX12_term 94 = .ok (.invokevirtual 74, 3) := by decide +kernel
theorem dX12_term_97 : decode cX12_term 97 = .ok (.ireturn, 1) := by decide +kernel
theorem dX12_term_98 : decode cX12_term 98 = .ok (.aload_n 0, 1) := by decide +kernel
theorem dX12_term_99 : decode cX12_term 99 = .ok (.iload_n 1, 1) := by decide +kernel
theorem dX12_term_100 : decode cX12_term 100 = .ok (.invokevirtual 78, 3) := by decide +kernel
theorem dX12_term_103 : decode cX12_term 103 = .ok (.ifCond .eq 11, 3) := by decide +kernel
theorem dX12_term_106 : decode cX12_term 106 = .ok (.aload_n 0, 1) := by decide +kernel
theorem dX12_term_107 : decode cX12_term 107 = .ok (.iload_n 1, 1) := by decide +kernel
theorem dX12_term_108 : decode cX12_term 108 = .ok (.invokevirtual 123, 3) := by decide +kernel
theorem dX12_term_111 : decode cX12_term 111 = .ok (.goto 4, 3) := by decide +kernel
theorem dX12_term_114 : decode cX12_term 114 = .ok (.iconst (-1), 1) := by decide +kernel
theorem dX12_term_115 : decode cX12_term 115 = .ok (.ireturn, 1) := by decide +kernel
theorem dX12_term_116 : decode cX12_term 116 = .ok (.aload_n 0, 1) := by decide +kernel
theorem dX12_term_117 : decode cX12_term 117 = .ok (.iload_n 1, 1) := by decide +kernel
theorem dX12_term_118 : decode cX12_term 118 = .ok (.invokevirtual 114, 3) := by decide +kernel
theorem dX12_term_121 : decode cX12_term 121 = .ok (.ireturn, 1) := by decide +kernel
theorem dX12_term_122 : decode cX12_term 122 = .ok (.aload_n 0, 1) := by decide +kernel
theorem dX12_term_123 : decode cX12_term 123 = .ok (.iload_n 1, 1) := by decide +kernel
theorem dX12_term_124 : decode cX12_term 124 = .ok (.invokevirtual 382, 3) := by decide +kernel
theorem dX12_term_127 : decode cX12_term 127 = .ok (.ireturn, 1) := by decide +kernel
theorem dX12_term_128 : decode cX12_term 128 = .ok (.aload_n 0, 1) := by decide +kernel
theorem dX12_term_129 : decode cX12_term 129 = .ok (.getfield 19, 3) := by decide +kernel
theorem dX12_term_132 : decode cX12_term 132 = .ok (.iload_n 1, 1) := by decide +kernel
theorem dX12_term_133 : decode cX12_term 133 = .ok (.iaload, 1) := by decide +kernel
theorem dX12_term_134 : decode cX12_term 134 = .ok (.ireturn, 1) := by decide +kernel
theorem dX12_term_135 : decode cX12_term 135 = .ok (.aload_n 0, 1) := by decide +kernel
theorem dX12_term_136 : decode cX12_term 136 = .ok (.iload_n 1, 1) := by decide +kernel
theorem dX12_term_137 : decode cX12_term 137 = .ok (.invokevirtual 120, 3) := by decide +kernel
theorem dX12_term_140 : decode cX12_term 140 = .ok (.ireturn, 1) := by decide +kernel
theorem dX12_term_141 : decode cX12_term 141 = .ok (.aload_n 0, 1) := by decide +kernel
theorem dX12_term_142 : decode cX12_term 142 = .ok (.iload_n 1, 1) := by decide +kernel
theorem dX12_term_143 : decode cX12_term 143 = .ok (.invokevirtual 126, 3) := by decide +kernel
theorem dX12_term_146 : decode cX12_term 146 = .ok (.ireturn, 1) := by decide +kernel
theorem dX12_term_147 : decode cX12_term 147 = .ok (.aload_n 0, 1) := by decide +kernel
theorem dX12_term_148 : decode cX12_term 148 = .ok (.iload_n 1, 1) := by decide +kernel
theorem dX12_term_149 : decode cX12_term 149 = .ok (.invokevirtual 385, 3) := by decide +kernel
theorem dX12_term_152 : decode cX12_term 152 = .ok (.ireturn, 1) := by decide +kernel
theorem dX12_term_153 : decode cX12_term 153 = .ok (.aload_n 0, 1) := by decide +kernel
theorem dX12_term_154 : decode cX12_term 154 = .ok (.iload_n 1, 1) := by decide +kernel
theorem dX12_term_155 : decode cX12_term 155 = .ok (.invokevirtual 307, 3) := by decide +kernel
theorem dX12_term_158 : decode cX12_term 158 = .ok (.ireturn, 1) := by decide +kernel
theorem dX12_term_159 : decode cX12_term 159 = .ok (.aload_n 0, 1) := by decide +kernel
theorem dX12_term_160 : decode cX12_term 160 = .ok (.iload_n 1, 1) := by decide +kernel
theorem dX12_term_161 : decode cX12_term 161 = .ok (.invokevirtual 230, 3) := by decide +kernel
theorem dX12_term_164 : decode cX12_term 164 = .ok (.ifCond .eq 7, 3) := by decide +kernel
theorem dX12_term_167 : decode cX12_term 167 = .ok (.iconst 1, 1) := by decide +kernel
theorem dX12_term_168 : decode cX12_term 168 = .ok (.goto 4, 3) := by decide +kernel
theorem dX12_term_171 : decode cX12_term 171 = .ok (.iconst 0, 1) := by decide +kernel
theorem dX12_term_172 : decode cX12_term 172 = .ok (.ireturn, 1) := by decide +kernel
theorem dX12_argument_0 : decode cX12_argument 0 = .ok (.aload_n 0, 1) := by decide +kernel
theorem dX12_argument_1 : decode cX12_argument 1 = .ok (.iconst 0, 1) := by decide +kernel
theorem dX12_argument_2 : decode cX12_argument 2 = .ok (.putfield 68, 3) := by decide +kernel
theorem dX12_argument_5 : decode cX12_argument 5 = .ok (.aload_n 0, 1) := by decide +kernel
theorem dX12_argument_6 : decode cX12_argument 6 = .ok (.iload_n 1, 1) := by decide +kernel
theorem dX12_argument_7 : decode cX12_argument 7 = .ok (.invokevirtual 379, 3) := by decide +kernel
theorem dX12_argument_10 : decode cX12_argument 10 = .ok (.ifCond .eq 32, 3) := by decide +kernel
theorem dX12_argument_13 : decode cX12_argument 13 = .ok (.aload_n 0, 1) := by decide +kernel
theorem dX12_argument_14 : decode cX12_argument 14 = .ok (.iload_n 2, 1) := by decide +kernel
theorem dX12_argument_15 : decode cX12_argument 15 = .ok (.iconst 0, 1) := by decide +kernel
theorem dX12_argument_16 : decode cX12_argument 16 = .ok (.aload_n 0, 1) := by decide +kernel
theorem dX12_argument_17 : decode cX12_argument 17 = .ok (.iload_n 1, 1) := by decide +kernel
theorem dX12_argument_18 : decode cX12_argument 18 = .ok (.invokevirtual 111, 3) := by decide +kernel
theorem dX12_argument_21 : decode cX12_argument 21 = .ok (.iconst 1, 1) := by decide +kernel
theorem dX12_argument_22 : decode cX12_argument 22 = .ok (.isub, 1) := by decide +kernel
theorem dX12_argument_23 : decode cX12_argument 23 = .ok (.invokestatic 283, 3) := by decide +kernel
theorem dX12_argument_26 : decode cX12_argument 26 = .ok (.iconst 1, 1) := by decide +kernel
theorem dX12_argument_27 : decode cX12_argument 27 = .ok (.invokevirtual 334, 3) := by decide +kernel
theorem dX12_argument_30 : decode cX12_argument 30 = .ok (.ifCond .eq 12, 3) := by decide +kernel
theorem dX12_argument_33 : decode cX12_argument 33 = .ok (.aload_n 0, 1) := by decide +kernel
theorem dX12_argument_34 : decode cX12_argument 34 = .ok (.iload_n 1, 1) := by decide +kernel
theorem dX12_argument_35 : decode cX12_argument 35 = .ok (.iload_n 2, 1) := by decide +kernel
theorem dX12_argument_36 : decode cX12_argument 36 = .ok (.invokevirtual 88, 3) := by decide +kernel
theorem dX12_argument_39 : decode cX12_argument 39 = .ok (.goto 4, 3) := by decide +kernel
theorem dX12_argument_42 : decode cX12_argument 42 = .ok (.iconst 0, 1) := by decide +kernel
theorem dX12_argument_43 : decode cX12_argument 43 = .ok (.ireturn, 1) := by decide +kernel
theorem dX12_place_0 : decode cX12_place 0 = .ok (.aload_n 0, 1) := by decide +kernel
theorem dX12_place_1 : decode cX12_place 1 = .ok (.iconst 0, 1) := by decide +kernel
theorem dX12_place_2 : decode cX12_place 2 = .ok (.putfield 68, 3) := by decide +kernel
theorem dX12_place_5 : decode cX12_place 5 = .ok (.aload_n 0, 1) := by decide +kernel
theorem dX12_place_6 : decode cX12_place 6 = .ok (.iload_n 1, 1) := by decide +kernel
theorem dX12_place_7 : decode cX12_place 7 = .ok (.invokevirtual 379, 3) := by decide +kernel
theorem dX12_place_10 : decode cX12_place 10 = .ok (.ifCond .ne 5, 3) := by decide +kernel
theorem dX12_place_13 : decode cX12_place 13 = .ok (.iconst 0, 1) := by decide +kernel
theorem dX12_place_14 : decode cX12_place 14 = .ok (.ireturn, 1) := by decide +kernel
theorem dX12_place_15 : decode cX12_place 15 = .ok (.aload_n 0, 1) := by decide +kernel
theorem dX12_place_16 : decode cX12_place 16 = .ok (.iload_n 1, 1) := by decide +kernel
theorem dX12_place_17 : decode cX12_place 17 = .ok (.iload_n 2, 1) := by decide +kernel
theorem dX12_place_18 : decode cX12_place 18 = .ok (.invokevirtual 139, 3) := by decide +kernel
theorem dX12_place_21 : decode cX12_place 21 = .ok (.istore_n 3, 1) := by decide +kernel
theorem dX12_place_22 : decode cX12_place 22 = .ok (.aload_n 0, 1) := by decide +kernel
theorem dX12_place_23 : decode cX12_place 23 = .ok (.iload_n 3, 1) := by decide +kernel
theorem dX12_place_24 : decode cX12_place 24 = .ok (.iconst (-1), 1) := by decide +kernel
theorem dX12_place_25 : decode cX12_place 25 = .ok (.if_icmp .eq 7, 3) := by decide +kernel
theorem dX12_place_28 : decode cX12_place 28 = .ok (.iconst 1, 1) := by decide +kernel
theorem dX12_place_29 : decode cX12_place 29 = .ok (.goto 4, 3) := by decide +kernel
theorem dX12_place_32 : decode cX12_place 32 = .ok (.iconst 0, 1) := by decide +kernel
theorem dX12_place_33 : decode cX12_place 33 = .ok (.iconst 1, 1) := by decide +kernel
theorem dX12_place_34 : decode cX12_place 34 = .ok (.invokevirtual 334, 3) := by decide +kernel
theorem dX12_place_37 : decode cX12_place 37 = .ok (.ifCond .eq 7, 3) := by decide +kernel
theorem dX12_place_40 : decode cX12_place 40 = .ok (.iload_n 3, 1) := by decide +kernel
theorem dX12_place_41 : decode cX12_place 41 = .ok (.goto 4, 3) := by decide +kernel
theorem dX12_place_44 : decode cX12_place 44 = .ok (.iconst 0, 1) := by decide +kernel
theorem dX12_place_45 : decode cX12_place 45 = .ok (.ireturn, 1) := by decide +kernel
theorem dX12_order_0 : decode cX12_order 0 = .ok (.aload_n 0, 1) := by decide +kernel
theorem dX12_order_1 : decode cX12_order 1 = .ok (.iconst 0, 1) := by decide +kernel
theorem dX12_order_2 : decode cX12_order 2 = .ok (.putfield 68, 3) := by decide +kernel
theorem dX12_order_5 : decode cX12_order 5 = .ok (.aload_n 0, 1) := by decide +kernel
theorem dX12_order_6 : decode cX12_order 6 = .ok (.iload_n 1, 1) := by decide +kernel
theorem dX12_order_7 : decode cX12_order 7 = .ok (.invokevirtual 379, 3) := by decide +kernel
theorem dX12_order_10 : decode cX12_order 10 = .ok (.ifCond .eq 11, 3) := by decide +kernel
theorem dX12_order_13 : decode cX12_order 13 = .ok (.aload_n 0, 1) := by decide +kernel
theorem dX12_order_14 : decode cX12_order 14 = .ok (.iload_n 2, 1) := by decide +kernel
theorem dX12_order_15 : decode cX12_order 15 = .ok (.invokevirtual 379, 3) := by decide +kernel
theorem dX12_order_18 : decode cX12_order 18 = .ok (.ifCond .ne 5, 3) := by decide +kernel
theorem dX12_order_21 : decode cX12_order 21 = .ok (.iconst 0, 1) := by decide +kernel
theorem dX12_order_22 : decode cX12_order 22 = .ok (.ireturn, 1) := by decide +kernel
theorem dX12_order_23 : decode cX12_order 23 = .ok (.iload_n 1, 1) := by decide +kernel
theorem dX12_order_24 : decode cX12_order 24 = .ok (.iload_n 2, 1) := by decide +kernel
theorem dX12_order_25 : decode cX12_order 25 = .ok (.if_icmp .ne 7, 3) := by decide +kernel
theorem dX12_order_28 : decode cX12_order 28 = .ok (.iconst 0, 1) := by decide +kernel
theorem dX12_order_29 : decode cX12_order 29 = .ok (.goto 30, 3) := by decide +kernel
theorem dX12_order_32 : decode cX12_order 32 = .ok (.aload_n 0, 1) := by decide +kernel
theorem dX12_order_33 : decode cX12_order 33 = .ok (.iload_n 1, 1) := by decide +kernel
theorem dX12_order_34 : decode cX12_order 34 = .ok (.iload_n 2, 1) := by decide +kernel
theorem dX12_order_35 : decode cX12_order 35 = .ok (.invokevirtual 142, 3) := by decide +kernel
theorem dX12_order_38 : decode cX12_order 38 = .ok (.ifCond .eq 7, 3) := by decide +kernel
theorem dX12_order_41 : decode cX12_order 41 = .ok (.iconst 1, 1) := by decide +kernel
theorem dX12_order_42 : decode cX12_order 42 = .ok (.goto 17, 3) := by decide +kernel
theorem dX12_order_45 : decode cX12_order 45 = .ok (.aload_n 0, 1) := by decide +kernel
theorem dX12_order_46 : decode cX12_order 46 = .ok (.iload_n 2, 1) := by decide +kernel
theorem dX12_order_47 : decode cX12_order 47 = .ok (.iload_n 1, 1) := by decide +kernel
theorem dX12_order_48 : decode cX12_order 48 = .ok (.invokevirtual 142, 3) := by decide +kernel
theorem dX12_order_51 : decode cX12_order 51 = .ok (.ifCond .eq 7, 3) := by decide +kernel
theorem dX12_order_54 : decode cX12_order 54 = .ok (.iconst 2, 1) := by decide +kernel
theorem dX12_order_55 : decode cX12_order 55 = .ok (.goto 4, 3) := by decide +kernel
theorem dX12_order_58 : decode cX12_order 58 = .ok (.iconst 3, 1) := by decide +kernel
theorem dX12_order_59 : decode cX12_order 59 = .ok (.ireturn, 1) := by decide +kernel
theorem dX12_isFound_0 : decode cX12_isFound 0 = .ok (.iload_n 3, 1) := by decide +kernel
theorem dX12_isFound_1 : decode cX12_isFound 1 = .ok (.ifCond .ne 10, 3) := by decide +kernel
theorem dX12_isFound_4 : decode cX12_isFound 4 = .ok (.aload_n 0, 1) := by decide +kernel
theorem dX12_isFound_5 : decode cX12_isFound 5 = .ok (.iload_n 1, 1) := by decide +kernel
theorem dX12_isFound_6 : decode cX12_isFound 6 = .ok (.iload_n 2, 1) := by decide +kernel
theorem dX12_isFound_7 : decode cX12_isFound 7 = .ok (.invokevirtual 227, 3) := by decide +kernel
theorem dX12_isFound_10 : decode cX12_isFound 10 = .ok (.ireturn, 1) := by decide +kernel
theorem dX12_isFound_11 : decode cX12_isFound 11 = .ok (.iload_n 3, 1) := by decide +kernel
theorem dX12_isFound_12 : decode cX12_isFound 12 = .ok (.iconst 1, 1) := by decide +kernel
theorem dX12_isFound_13 : decode cX12_isFound 13 = .ok (.if_icmp .ne 10, 3) := by decide +kernel
theorem dX12_isFound_16 : decode cX12_isFound 16 = .ok (.aload_n 0, 1) := by decide +kernel
theorem dX12_isFound_17 : decode cX12_isFound 17 = .ok (.iload_n 2, 1) := by decide +kernel
theorem dX12_isFound_18 : decode cX12_isFound 18 = .ok (.iload_n 1, 1) := by decide +kernel
theorem dX12_isFound_19 : decode cX12_isFound 19 = .ok (.invokevirtual 227, 3) := by decide +kernel
theorem dX12_isFound_22 : decode cX12_isFound 22 = .ok (.ireturn, 1) := by decide +kernel
theorem dX12_isFound_23 : decode cX12_isFound 23 = .ok (.iload_n 3, 1) := by decide +kernel
theorem dX12_isFound_24 : decode cX12_isFound 24 = .ok (.iconst 2, 1) := by decide +kernel
theorem dX12_isFound_25 : decode cX12_isFound 25 = .ok (.if_icmp .ne 12, 3) := by decide +kernel
theorem dX12_isFound_28 : decode cX12_isFound 28 = .ok (.aload_n 0, 1) := by decide +kernel
theorem dX12_isFound_29 : decode cX12_isFound 29 = .ok (.iload_n 1, 1) := by decide +kernel
theorem dX12_isFound_30 : decode cX12_isFound 30 = .ok (.iload_n 2, 1) := by decide +kernel
theorem dX12_isFound_31 : decode cX12_isFound 31 = .ok (.invokevirtual 359, 3) := by decide +kernel
theorem dX12_isFound_34 : decode cX12_isFound 34 = .ok (.goto 9, 3) := by decide +kernel
theorem dX12_isFound_37 : decode cX12_isFound 37 = .ok (.aload_n 0, 1) := by decide +kernel
theorem dX12_isFound_38 : decode cX12_isFound 38 = .ok (.iload_n 1, 1) := by decide +kernel
theorem dX12_isFound_39 : decode cX12_isFound 39 = .ok (.iload_n 2, 1) := by decide +kernel
theorem dX12_isFound_40 : decode cX12_isFound 40 = .ok (.invokevirtual 136, 3) := by decide +kernel
theorem dX12_isFound_43 : decode cX12_isFound 43 = .ok (.ireturn, 1) := by decide +kernel
theorem dX12_find_0 : decode cX12_find 0 = .ok (.aload_n 0, 1) := by decide +kernel
theorem dX12_find_1 : decode cX12_find 1 = .ok (.iconst 0, 1) := by decide +kernel
theorem dX12_find_2 : decode cX12_find 2 = .ok (.putfield 68, 3) := by decide +kernel
theorem dX12_find_5 : decode cX12_find 5 = .ok (.aload_n 0, 1) := by decide +kernel
theorem dX12_find_6 : decode cX12_find 6 = .ok (.iload_n 1, 1) := by decide +kernel
theorem dX12_find_7 : decode cX12_find 7 = .ok (.invokevirtual 379, 3) := by decide +kernel
theorem dX12_find_10 : decode cX12_find 10 = .ok (.ifCond .eq 17, 3) := by decide +kernel
theorem dX12_find_13 : decode cX12_find 13 = .ok (.aload_n 0, 1) := by decide +kernel
theorem dX12_find_14 : decode cX12_find 14 = .ok (.iload_n 2, 1) := by decide +kernel
theorem dX12_find_15 : decode cX12_find 15 = .ok (.iconst 0, 1) := by decide +kernel
theorem dX12_find_16 : decode cX12_find 16 = .ok (.iconst 3, 1) := by decide +kernel
theorem dX12_find_17 : decode cX12_find 17 = .ok (.invokestatic 283, 3) := by decide +kernel
theorem dX12_find_20 : decode cX12_find 20 = .ok (.iconst 1, 1) := by decide +kernel
theorem dX12_find_21 : decode cX12_find 21 = .ok (.invokevirtual 334, 3) := by decide +kernel
theorem dX12_find_24 : decode cX12_find 24 = .ok (.ifCond .ne 5, 3) := by decide +kernel
theorem dX12_find_27 : decode cX12_find 27 = .ok (.iconst 0, 1) := by decide +kernel
theorem dX12_find_28 : decode cX12_find 28 = .ok (.ireturn, 1) := by decide +kernel
theorem dX12_find_29 : decode cX12_find 29 = .ok (.iconst 0, 1) := by decide +kernel
theorem dX12_find_30 : decode cX12_find 30 = .ok (.istore_n 3, 1) := by decide +kernel
theorem dX12_find_31 : decode cX12_find 31 = .ok (.iconst 0, 1) := by decide +kernel
theorem dX12_find_32 : decode cX12_find 32 = .ok (.istore 4, 2) := by decide +kernel
theorem dX12_find_34 : decode cX12_find 34 = .ok (.iload 4, 2) := by decide +kernel
theorem dX12_find_36 : decode cX12_find 36 = .ok (.aload_n 0, 1) := by decide +kernel
theorem dX12_find_37 : decode cX12_find 37 = .ok (.getfield 9, 3) := by decide +kernel
theorem dX12_find_40 : decode cX12_find 40 = .ok (.bipush 26, 2) := by decide +kernel
theorem dX12_find_42 : decode cX12_find 42 = .ok (.iaload, 1) := by decide +kernel
theorem dX12_find_43 : decode cX12_find 43 = .ok (.if_icmp .ge 35, 3) := by decide +kernel
theorem dX12_find_46 : decode cX12_find 46 = .ok (.aload_n 0, 1) := by decide +kernel
theorem dX12_find_47 : decode cX12_find 47 = .ok (.aload_n 0, 1) := by decide +kernel
theorem dX12_find_48 : decode cX12_find 48 = .ok (.getfield 9, 3) := by decide +kernel
theorem dX12_find_51 : decode cX12_find 51 = .ok (.bipush 27, 2) := by decide +kernel
theorem dX12_find_53 : decode cX12_find 53 = .ok (.iload 4, 2) := by decide +kernel
theorem dX12_find_55 : decode cX12_find 55 = .ok (.iadd, 1) := by decide +kernel
theorem dX12_find_56 : decode cX12_find 56 = .ok (.iaload, 1) := by decide +kernel
theorem dX12_find_57 : decode cX12_find 57 = .ok (.iload_n 1, 1) := by decide +kernel
theorem dX12_find_58 : decode cX12_find 58 = .ok (.iload_n 2, 1) := by decide +kernel
theorem dX12_find_59 : decode cX12_find 59 = .ok (.invokevirtual 388, 3) := by decide +kernel
theorem dX12_find_62 : decode cX12_find 62 = .ok (.ifCond .eq 10, 3) := by decide +kernel
theorem dX12_find_65 : decode cX12_find 65 = .ok (.iload_n 3, 1) := by decide +kernel
theorem dX12_find_66 : decode cX12_find 66 = .ok (.iconst 1, 1) := by decide +kernel
theorem dX12_find_67 : decode cX12_find 67 = .ok (.iload 4, 2) := by decide +kernel
theorem dX12_find_69 : decode cX12_find 69 = .ok (.ishl, 1) := by decide +kernel
theorem dX12_find_70 : decode cX12_find 70 = .ok (.ior, 1) := by decide +kernel
theorem dX12_find_71 : decode cX12_find 71 = .ok (.istore_n 3, 1) := by decide +kernel
theorem dX12_find_72 : decode cX12_find 72 = .ok (.iinc 4 1, 3) := by decide +kernel
theorem dX12_find_75 : decode cX12_find 75 = .ok (.goto (-41), 3) := by decide +kernel
theorem dX12_find_78 : decode cX12_find 78 = .ok (.iload_n 3, 1) := by decide +kernel
theorem dX12_find_79 : decode cX12_find 79 = .ok (.ireturn, 1) := by decide +kernel
theorem dX12_rule_0 : decode cX12_rule 0 = .ok (.aload_n 0, 1) := by decide +kernel
theorem dX12_rule_1 : decode cX12_rule 1 = .ok (.iconst 0, 1) := by decide +kernel
theorem dX12_rule_2 : decode cX12_rule 2 = .ok (.putfield 68, 3) := by decide +kernel
theorem dX12_rule_5 : decode cX12_rule 5 = .ok (.aload_n 0, 1) := by decide +kernel
theorem dX12_rule_6 : decode cX12_rule 6 = .ok (.iload_n 1, 1) := by decide +kernel
theorem dX12_rule_7 : decode cX12_rule 7 = .ok (.iconst 0, 1) := by decide +kernel
theorem dX12_rule_8 : decode cX12_rule 8 = .ok (.aload_n 0, 1) := by decide +kernel
theorem dX12_rule_9 : decode cX12_rule 9 = .ok (.getfield 9, 3) := by decide +kernel
theorem dX12_rule_12 : decode cX12_rule 12 = .ok (.bipush 9, 2) := by decide +kernel
theorem dX12_rule_14 : decode cX12_rule 14 = .ok (.iaload, 1) := by decide +kernel
theorem dX12_rule_15 : decode cX12_rule 15 = .ok (.iconst 1, 1) := by decide +kernel
theorem dX12_rule_16 : decode cX12_rule 16 = .ok (.isub, 1) := by decide +kernel
theorem dX12_rule_17 : decode cX12_rule 17 = .ok (.invokestatic 283, 3) := by decide +kernel
theorem dX12_rule_20 : decode cX12_rule 20 = .ok (.ifCond .eq 16, 3) := by decide +kernel
theorem dX12_rule_23 : decode cX12_rule 23 = .ok (.iload_n 2, 1) := by decide +kernel
theorem dX12_rule_24 : decode cX12_rule 24 = .ok (.iconst 0, 1) := by decide +kernel
theorem dX12_rule_25 : decode cX12_rule 25 = .ok (.iconst 1, 1) := by decide +kernel
theorem dX12_rule_26 : decode cX12_rule 26 = .ok (.invokestatic 283, 3) := by decide +kernel
theorem dX12_rule_29 : decode cX12_rule 29 = .ok (.ifCond .eq 7, 3) := by decide +kernel
theorem dX12_rule_32 : decode cX12_rule 32 = .ok (.iconst 1, 1) := by decide +kernel
theorem dX12_rule_33 : decode cX12_rule 33 = .ok (.goto 4, 3) := by decide +kernel
theorem dX12_rule_36 : decode cX12_rule 36 = .ok (.iconst 0, 1) := by decide +kernel
theorem dX12_rule_37 : decode cX12_rule 37 = .ok (.iconst 1, 1) := by decide +kernel
theorem dX12_rule_38 : decode cX12_rule 38 = .ok (.invokevirtual 334, 3) := by decide +kernel
theorem dX12_rule_41 : decode cX12_rule 41 = .ok (.ifCond .eq 19, 3) := by decide +kernel
theorem dX12_rule_44 : decode cX12_rule 44 = .ok (.aload_n 0, 1) := by decide +kernel
theorem dX12_rule_45 : decode cX12_rule 45 = .ok (.getfield 9, 3) := by decide +kernel
theorem dX12_rule_48 : decode cX12_rule 48 = .ok (.bipush 10, 2) := by decide +kernel
theorem dX12_rule_50 : decode cX12_rule 50 = .ok (.iconst 2, 1) := by decide +kernel
theorem dX12_rule_51 : decode cX12_rule 51 = .ok (.iload_n 1, 1) := by decide +kernel
theorem dX12_rule_52 : decode cX12_rule 52 = .ok (.imul, 1) := by decide +kernel
theorem dX12_rule_53 : decode cX12_rule 53 = .ok (.iadd, 1) := by decide +kernel
theorem dX12_rule_54 : decode cX12_rule 54 = .ok (.iload_n 2, 1) := by decide +kernel
theorem dX12_rule_55 : decode cX12_rule 55 = .ok (.iadd, 1) := by decide +kernel
theorem dX12_rule_56 : decode cX12_rule 56 = .ok (.iaload, 1) := by decide +kernel
theorem dX12_rule_57 : decode cX12_rule 57 = .ok (.goto 4, 3) := by decide +kernel
theorem dX12_rule_60 : decode cX12_rule 60 = .ok (.iconst 0, 1) := by decide +kernel
theorem dX12_rule_61 : decode cX12_rule 61 = .ok (.ireturn, 1) := by decide +kernel
theorem dX12_entry_0 : decode cX12_entry 0 = .ok (.aload_n 0, 1) := by decide +kernel
theorem dX12_entry_1 : decode cX12_entry 1 = .ok (.iconst 0, 1) := by decide +kernel
theorem dX12_entry_2 : decode cX12_entry 2 = .ok (.putfield 68, 3) := by decide +kernel
theorem dX12_entry_5 : decode cX12_entry 5 = .ok (.aload_n 0, 1) := by decide +kernel
theorem dX12_entry_6 : decode cX12_entry 6 = .ok (.iload_n 1, 1) := by decide +kernel
theorem dX12_entry_7 : decode cX12_entry 7 = .ok (.iconst 0, 1) := by decide +kernel
theorem dX12_entry_8 : decode cX12_entry 8 = .ok (.aload_n 0, 1) := by decide +kernel
theorem dX12_entry_9 : decode cX12_entry 9 = .ok (.getfield 9, 3) := by decide +kernel
theorem dX12_entry_12 : decode cX12_entry 12 = .ok (.bipush 26, 2) := by decide +kernel
theorem dX12_entry_14 : decode cX12_entry 14 = .ok (.iaload, 1) := by decide +kernel
theorem dX12_entry_15 : decode cX12_entry 15 = .ok (.iconst 1, 1) := by decide +kernel
theorem dX12_entry_16 : decode cX12_entry 16 = .ok (.isub, 1) := by decide +kernel
theorem dX12_entry_17 : decode cX12_entry 17 = .ok (.invokestatic 283, 3) := by decide +kernel
theorem dX12_entry_20 : decode cX12_entry 20 = .ok (.iconst 1, 1) := by decide +kernel
theorem dX12_entry_21 : decode cX12_entry 21 = .ok (.invokevirtual 334, 3) := by decide +kernel
theorem dX12_entry_24 : decode cX12_entry 24 = .ok (.ifCond .eq 15, 3) := by decide +kernel
theorem dX12_entry_27 : decode cX12_entry 27 = .ok (.aload_n 0, 1) := by decide +kernel
theorem dX12_entry_28 : decode cX12_entry 28 = .ok (.getfield 9, 3) := by decide +kernel
theorem dX12_entry_31 : decode cX12_entry 31 = .ok (.bipush 27, 2) := by decide +kernel
theorem dX12_entry_33 : decode cX12_entry 33 = .ok (.iload_n 1, 1) := by decide +kernel
theorem dX12_entry_34 : decode cX12_entry 34 = .ok (.iadd, 1) := by decide +kernel
theorem dX12_entry_35 : decode cX12_entry 35 = .ok (.iaload, 1) := by decide +kernel
theorem dX12_entry_36 : decode cX12_entry 36 = .ok (.goto 4, 3) := by decide +kernel
theorem dX12_entry_39 : decode cX12_entry 39 = .ok (.iconst 0, 1) := by decide +kernel
theorem dX12_entry_40 : decode cX12_entry 40 = .ok (.ireturn, 1) := by decide +kernel
theorem dX12_memo_0 : decode cX12_memo 0 = .ok (.aload_n 0, 1) := by decide +kernel
theorem dX12_memo_1 : decode cX12_memo 1 = .ok (.iconst 0, 1) := by decide +kernel
theorem dX12_memo_2 : decode cX12_memo 2 = .ok (.putfield 68, 3) := by decide +kernel
theorem dX12_memo_5 : decode cX12_memo 5 = .ok (.aload_n 0, 1) := by decide +kernel
theorem dX12_memo_6 : decode cX12_memo 6 = .ok (.iload_n 1, 1) := by decide +kernel
theorem dX12_memo_7 : decode cX12_memo 7 = .ok (.iconst 0, 1) := by decide +kernel
theorem dX12_memo_8 : decode cX12_memo 8 = .ok (.aload_n 0, 1) := by decide +kernel
theorem dX12_memo_9 : decode cX12_memo 9 = .ok (.getfield 9, 3) := by decide +kernel
theorem dX12_memo_12 : decode cX12_memo 12 = .ok (.bipush 40, 2) := by decide +kernel
theorem dX12_memo_14 : decode cX12_memo 14 = .ok (.iaload, 1) := by decide +kernel
theorem dX12_memo_15 : decode cX12_memo 15 = .ok (.iconst 1, 1) := by decide +kernel
theorem dX12_memo_16 : decode cX12_memo 16 = .ok (.isub, 1) := by decide +kernel
theorem dX12_memo_17 : decode cX12_memo 17 = .ok (.invokestatic 283, 3) := by decide +kernel
theorem dX12_memo_20 : decode cX12_memo 20 = .ok (.ifCond .eq 16, 3) := by decide +kernel
theorem dX12_memo_23 : decode cX12_memo 23 = .ok (.iload_n 2, 1) := by decide +kernel
theorem dX12_memo_24 : decode cX12_memo 24 = .ok (.iconst 0, 1) := by decide +kernel
theorem dX12_memo_25 : decode cX12_memo 25 = .ok (.iconst 1, 1) := by decide +kernel
theorem dX12_memo_26 : decode cX12_memo 26 = .ok (.invokestatic 283, 3) := by decide +kernel
theorem dX12_memo_29 : decode cX12_memo 29 = .ok (.ifCond .eq 7, 3) := by decide +kernel
theorem dX12_memo_32 : decode cX12_memo 32 = .ok (.iconst 1, 1) := by decide +kernel
theorem dX12_memo_33 : decode cX12_memo 33 = .ok (.goto 4, 3) := by decide +kernel
theorem dX12_memo_36 : decode cX12_memo 36 = .ok (.iconst 0, 1) := by decide +kernel
theorem dX12_memo_37 : decode cX12_memo 37 = .ok (.iconst 1, 1) := by decide +kernel
theorem dX12_memo_38 : decode cX12_memo 38 = .ok (.invokevirtual 334, 3) := by decide +kernel
theorem dX12_memo_41 : decode cX12_memo 41 = .ok (.ifCond .eq 19, 3) := by decide +kernel
theorem dX12_memo_44 : decode cX12_memo 44 = .ok (.aload_n 0, 1) := by decide +kernel
theorem dX12_memo_45 : decode cX12_memo 45 = .ok (.getfield 9, 3) := by decide +kernel
theorem dX12_memo_48 : decode cX12_memo 48 = .ok (.bipush 41, 2) := by decide +kernel
theorem dX12_memo_50 : decode cX12_memo 50 = .ok (.iconst 2, 1) := by decide +kernel
theorem dX12_memo_51 : decode cX12_memo 51 = .ok (.iload_n 1, 1) := by decide +kernel
theorem dX12_memo_52 : decode cX12_memo 52 = .ok (.imul, 1) := by decide +kernel
theorem dX12_memo_53 : decode cX12_memo 53 = .ok (.iadd, 1) := by decide +kernel
theorem dX12_memo_54 : decode cX12_memo 54 = .ok (.iload_n 2, 1) := by decide +kernel
theorem dX12_memo_55 : decode cX12_memo 55 = .ok (.iadd, 1) := by decide +kernel
theorem dX12_memo_56 : decode cX12_memo 56 = .ok (.iaload, 1) := by decide +kernel
theorem dX12_memo_57 : decode cX12_memo 57 = .ok (.goto 4, 3) := by decide +kernel
theorem dX12_memo_60 : decode cX12_memo 60 = .ok (.iconst 0, 1) := by decide +kernel
theorem dX12_memo_61 : decode cX12_memo 61 = .ok (.ireturn, 1) := by decide +kernel
theorem dX12_bound_0 : decode cX12_bound 0 = .ok (.aload_n 0, 1) := by decide +kernel
theorem dX12_bound_1 : decode cX12_bound 1 = .ok (.iconst 0, 1) := by decide +kernel
theorem dX12_bound_2 : decode cX12_bound 2 = .ok (.putfield 68, 3) := by decide +kernel
theorem dX12_bound_5 : decode cX12_bound 5 = .ok (.aload_n 0, 1) := by decide +kernel
theorem dX12_bound_6 : decode cX12_bound 6 = .ok (.iload_n 1, 1) := by decide +kernel
theorem dX12_bound_7 : decode cX12_bound 7 = .ok (.iconst 0, 1) := by decide +kernel
theorem dX12_bound_8 : decode cX12_bound 8 = .ok (.bipush 7, 2) := by decide +kernel
theorem dX12_bound_10 : decode cX12_bound 10 = .ok (.invokestatic 283, 3) := by decide +kernel
theorem dX12_bound_13 : decode cX12_bound 13 = .ok (.iconst 1, 1) := by decide +kernel
theorem dX12_bound_14 : decode cX12_bound 14 = .ok (.invokevirtual 334, 3) := by decide +kernel
theorem dX12_bound_17 : decode cX12_bound 17 = .ok (.ifCond .eq 16, 3) := by decide +kernel
theorem dX12_bound_20 : decode cX12_bound 20 = .ok (.aload_n 0, 1) := by decide +kernel
theorem dX12_bound_21 : decode cX12_bound 21 = .ok (.getfield 9, 3) := by decide +kernel
theorem dX12_bound_24 : decode cX12_bound 24 = .ok (.iconst 1, 1) := by decide +kernel
theorem dX12_bound_25 : decode cX12_bound 25 = .ok (.iload_n 1, 1) := by decide +kernel
theorem dX12_bound_26 : decode cX12_bound 26 = .ok (.iadd, 1) := by decide +kernel
theorem dX12_bound_27 : decode cX12_bound 27 = .ok (.iaload, 1) := by decide +kernel
theorem dX12_bound_28 : decode cX12_bound 28 = .ok (.iconst 1, 1) := by decide +kernel
theorem dX12_bound_29 : decode cX12_bound 29 = .ok (.isub, 1) := by decide +kernel
theorem dX12_bound_30 : decode cX12_bound 30 = .ok (.goto 4, 3) := by decide +kernel
theorem dX12_bound_33 : decode cX12_bound 33 = .ok (.iconst 0, 1) := by decide +kernel
theorem dX12_bound_34 : decode cX12_bound 34 = .ok (.ireturn, 1) := by decide +kernel
theorem dX12_keptAt_0 : decode cX12_keptAt 0 = .ok (.sipush 189, 3) := by decide +kernel
theorem dX12_keptAt_3 : decode cX12_keptAt 3 = .ok (.bipush 63, 2) := by decide +kernel
theorem dX12_keptAt_5 : decode cX12_keptAt 5 = .ok (.iload_n 0, 1) := by decide +kernel
theorem dX12_keptAt_6 : decode cX12_keptAt 6 = .ok (.iload_n 1, 1) := by decide +kernel
theorem dX12_keptAt_7 : decode cX12_keptAt 7 = .ok (.iadd, 1) := by decide +kernel
theorem dX12_keptAt_8 : decode cX12_keptAt 8 = .ok (.bipush 40, 2) := by decide +kernel
theorem dX12_keptAt_10 : decode cX12_keptAt 10 = .ok (.irem, 1) := by decide +kernel
theorem dX12_keptAt_11 : decode cX12_keptAt 11 = .ok (.imul, 1) := by decide +kernel
theorem dX12_keptAt_12 : decode cX12_keptAt 12 = .ok (.iadd, 1) := by decide +kernel
theorem dX12_keptAt_13 : decode cX12_keptAt 13 = .ok (.ireturn, 1) := by decide +kernel
theorem dX12_refuses_0 : decode cX12_refuses 0 = .ok (.aload_n 0, 1) := by decide +kernel
theorem dX12_refuses_1 : decode cX12_refuses 1 = .ok (.getfield 31, 3) := by decide +kernel
theorem dX12_refuses_4 : decode cX12_refuses 4 = .ok (.iload_n 1, 1) := by decide +kernel
theorem dX12_refuses_5 : decode cX12_refuses 5 = .ok (.dup2, 1) := by decide +kernel
theorem dX12_refuses_6 : decode cX12_refuses 6 = .ok (.iaload, 1) := by decide +kernel
theorem dX12_refuses_7 : decode cX12_refuses 7 = .ok (.iconst 1, 1) := by decide +kernel
theorem dX12_refuses_8 : decode cX12_refuses 8 = .ok (.iadd, 1) := by decide +kernel
theorem dX12_refuses_9 : decode cX12_refuses 9 = .ok (.iastore, 1) := by decide +kernel
theorem dX12_refuses_10 : decode cX12_refuses 10 = .ok (.iload_n 2, 1) := by decide +kernel
theorem dX12_refuses_11 : decode cX12_refuses 11 = .ok (.ireturn, 1) := by decide +kernel
theorem dX12_begins_0 : decode cX12_begins 0 = .ok (.aload_n 0, 1) := by decide +kernel
theorem dX12_begins_1 : decode cX12_begins 1 = .ok (.iconst 0, 1) := by decide +kernel
theorem dX12_begins_2 : decode cX12_begins 2 = .ok (.bipush 63, 2) := by decide +kernel
theorem dX12_begins_4 : decode cX12_begins 4 = .ok (.bipush 63, 2) := by decide +kernel
theorem dX12_begins_6 : decode cX12_begins 6 = .ok (.invokevirtual 343, 3) := by decide +kernel
theorem dX12_begins_9 : decode cX12_begins 9 = .ok (.aload_n 0, 1) := by decide +kernel
theorem dX12_begins_10 : decode cX12_begins 10 = .ok (.iconst 0, 1) := by decide +kernel
theorem dX12_begins_11 : decode cX12_begins 11 = .ok (.putfield 92, 3) := by decide +kernel
theorem dX12_begins_14 : decode cX12_begins 14 = .ok (.aload_n 0, 1) := by decide +kernel
theorem dX12_begins_15 : decode cX12_begins 15 = .ok (.iconst 0, 1) := by decide +kernel
theorem dX12_begins_16 : decode cX12_begins 16 = .ok (.putfield 195, 3) := by decide +kernel
theorem dX12_begins_19 : decode cX12_begins 19 = .ok (.aload_n 0, 1) := by decide +kernel
theorem dX12_begins_20 : decode cX12_begins 20 = .ok (.iconst 0, 1) := by decide +kernel
theorem dX12_begins_21 : decode cX12_begins 21 = .ok (.putfield 208, 3) := by decide +kernel
theorem dX12_begins_24 : decode cX12_begins 24 = .ok (.return_, 1) := by decide +kernel
theorem dX12_fails_0 : decode cX12_fails 0 = .ok (.aload_n 0, 1) := by decide +kernel
theorem dX12_fails_1 : decode cX12_fails 1 = .ok (.bipush 63, 2) := by decide +kernel
theorem dX12_fails_3 : decode cX12_fails 3 = .ok (.iconst 0, 1) := by decide +kernel
theorem dX12_fails_4 : decode cX12_fails 4 = .ok (.bipush 63, 2) := by decide +kernel
theorem dX12_fails_6 : decode cX12_fails 6 = .ok (.invokevirtual 343, 3) := by decide +kernel
theorem dX12_fails_9 : decode cX12_fails 9 = .ok (.aload_n 0, 1) := by decide +kernel
theorem dX12_fails_10 : decode cX12_fails 10 = .ok (.iload_n 1, 1) := by decide +kernel
theorem dX12_fails_11 : decode cX12_fails 11 = .ok (.iload_n 2, 1) := by decide +kernel
theorem dX12_fails_12 : decode cX12_fails 12 = .ok (.invokevirtual 391, 3) := by decide +kernel
theorem dX12_fails_15 : decode cX12_fails 15 = .ok (.ireturn, 1) := by decide +kernel
theorem dX12_keeps_0 : decode cX12_keeps 0 = .ok (.aload_n 0, 1) := by decide +kernel
theorem dX12_keeps_1 : decode cX12_keeps 1 = .ok (.getfield 92, 3) := by decide +kernel
theorem dX12_keeps_4 : decode cX12_keeps 4 = .ok (.ifCond .eq 11, 3) := by decide +kernel
theorem dX12_keeps_7 : decode cX12_keeps 7 = .ok (.aload_n 0, 1) := by decide +kernel
theorem dX12_keeps_8 : decode cX12_keeps 8 = .ok (.iconst 2, 1) := by decide +kernel
theorem dX12_keeps_9 : decode cX12_keeps 9 = .ok (.bipush (-3), 2) := by decide +kernel
theorem dX12_keeps_11 : decode cX12_keeps 11 = .ok (.invokevirtual 394, 3) := by decide +kernel
theorem dX12_keeps_14 : decode cX12_keeps 14 = .ok (.ireturn, 1) := by decide +kernel
theorem dX12_keeps_15 : decode cX12_keeps 15 = .ok (.aload_n 0, 1) := by decide +kernel
theorem dX12_keeps_16 : decode cX12_keeps 16 = .ok (.getfield 356, 3) := by decide +kernel
theorem dX12_keeps_19 : decode cX12_keeps 19 = .ok (.bipush 40, 2) := by decide +kernel
theorem dX12_keeps_21 : decode cX12_keeps 21 = .ok (.if_icmp .ne 26, 3) := by decide +kernel
theorem dX12_keeps_24 : decode cX12_keeps 24 = .ok (.aload_n 0, 1) := by decide +kernel
theorem dX12_keeps_25 : decode cX12_keeps 25 = .ok (.aload_n 0, 1) := by decide +kernel
theorem dX12_keeps_26 : decode cX12_keeps 26 = .ok (.getfield 353, 3) := by decide +kernel
theorem dX12_keeps_29 : decode cX12_keeps 29 = .ok (.iconst 1, 1) := by decide +kernel
theorem dX12_keeps_30 : decode cX12_keeps 30 = .ok (.iadd, 1) := by decide +kernel
theorem dX12_keeps_31 : decode cX12_keeps 31 = .ok (.bipush 40, 2) := by decide +kernel
theorem dX12_keeps_33 : decode cX12_keeps 33 = .ok (.irem, 1) := by decide +kernel
theorem dX12_keeps_34 : decode cX12_keeps 34 = .ok (.putfield 353, 3) := by decide +kernel
theorem dX12_keeps_37 : decode cX12_keeps 37 = .ok (.aload_n 0, 1) := by decide +kernel
theorem dX12_keeps_38 : decode cX12_keeps 38 = .ok (.dup, 1) := by decide +kernel
theorem dX12_keeps_39 : decode cX12_keeps 39 = .ok (.getfield 356, 3) := by decide +kernel
theorem dX12_keeps_42 : decode cX12_keeps 42 = .ok (.iconst 1, 1) := by decide +kernel
theorem dX12_keeps_43 : decode cX12_keeps 43 = .ok (.isub, 1) := by decide +kernel
theorem dX12_keeps_44 : decode cX12_keeps 44 = .ok (.putfield 356, 3) := by decide +kernel
theorem dX12_keeps_47 : decode cX12_keeps 47 = .ok (.aload_n 0, 1) := by decide +kernel
theorem dX12_keeps_48 : decode cX12_keeps 48 = .ok (.bipush 63, 2) := by decide +kernel
theorem dX12_keeps_50 : decode cX12_keeps 50 = .ok (.aload_n 0, 1) := by decide +kernel
theorem dX12_keeps_51 : decode cX12_keeps 51 = .ok (.getfield 353, 3) := by decide +kernel
theorem dX12_keeps_54 : decode cX12_keeps 54 = .ok (.aload_n 0, 1) := by decide +kernel
theorem dX12_keeps_55 : decode cX12_keeps 55 = .ok (.getfield 356, 3) := by decide +kernel
theorem dX12_keeps_58 : decode cX12_keeps 58 = .ok (.invokestatic 397, 3) := by decide +kernel
theorem dX12_keeps_61 : decode cX12_keeps 61 = .ok (.bipush 63, 2) := by decide +kernel
theorem dX12_keeps_63 : decode cX12_keeps 63 = .ok (.invokevirtual 343, 3) := by decide +kernel
theorem dX12_keeps_66 : decode cX12_keeps 66 = .ok (.aload_n 0, 1) := by decide +kernel
theorem dX12_keeps_67 : decode cX12_keeps 67 = .ok (.dup, 1) := by decide +kernel
theorem dX12_keeps_68 : decode cX12_keeps 68 = .ok (.getfield 356, 3) := by decide +kernel
theorem dX12_keeps_71 : decode cX12_keeps 71 = .ok (.iconst 1, 1) := by decide +kernel
theorem dX12_keeps_72 : decode cX12_keeps 72 = .ok (.iadd, 1) := by decide +kernel
theorem dX12_keeps_73 : decode cX12_keeps 73 = .ok (.putfield 356, 3) := by decide +kernel
theorem dX12_keeps_76 : decode cX12_keeps 76 = .ok (.iload_n 1, 1) := by decide +kernel
theorem dX12_keeps_77 : decode cX12_keeps 77 = .ok (.ireturn, 1) := by decide +kernel
theorem dX12_variable_0 : decode cX12_variable 0 = .ok (.aload_n 0, 1) := by decide +kernel
theorem dX12_variable_1 : decode cX12_variable 1 = .ok (.iconst 0, 1) := by decide +kernel
theorem dX12_variable_2 : decode cX12_variable 2 = .ok (.putfield 68, 3) := by decide +kernel
theorem dX12_variable_5 : decode cX12_variable 5 = .ok (.iload_n 1, 1) := by decide +kernel
theorem dX12_variable_6 : decode cX12_variable 6 = .ok (.iconst 0, 1) := by decide +kernel
theorem dX12_variable_7 : decode cX12_variable 7 = .ok (.bipush 7, 2) := by decide +kernel
theorem dX12_variable_9 : decode cX12_variable 9 = .ok (.invokestatic 283, 3) := by decide +kernel
theorem dX12_variable_12 : decode cX12_variable 12 = .ok (.ifCond .ne 10, 3) := by decide +kernel
theorem dX12_variable_15 : decode cX12_variable 15 = .ok (.aload_n 0, 1) := by decide +kernel
theorem dX12_variable_16 : decode cX12_variable 16 = .ok (.iconst 1, 1) := by decide +kernel
theorem dX12_variable_17 : decode cX12_variable 17 = .ok (.iconst (-1), 1) := by decide +kernel
theorem dX12_variable_18 : decode cX12_variable 18 = .ok (.invokevirtual 391, 3) := by decide +kernel
theorem dX12_variable_21 : decode cX12_variable 21 = .ok (.ireturn, 1) := by decide +kernel
theorem dX12_variable_22 : decode cX12_variable 22 = .ok (.aload_n 0, 1) := by decide +kernel
theorem dX12_variable_23 : decode cX12_variable 23 = .ok (.invokevirtual 400, 3) := by decide +kernel
theorem dX12_variable_26 : decode cX12_variable 26 = .ok (.aload_n 0, 1) := by decide +kernel
theorem dX12_variable_27 : decode cX12_variable 27 = .ok (.aload_n 0, 1) := by decide +kernel
theorem dX12_variable_28 : decode cX12_variable 28 = .ok (.iload_n 1, 1) := by decide +kernel
theorem dX12_variable_29 : decode cX12_variable 29 = .ok (.invokevirtual 180, 3) := by decide +kernel
theorem dX12_variable_32 : decode cX12_variable 32 = .ok (.invokevirtual 403, 3) := by decide +kernel
theorem dX12_variable_35 : decode cX12_variable 35 = .ok (.ireturn, 1) := by decide +kernel
theorem dX12_make_0 : decode cX12_make 0 = .ok (.aload_n 0, 1) := by decide +kernel
theorem dX12_make_1 : decode cX12_make 1 = .ok (.iconst 0, 1) := by decide +kernel
theorem dX12_make_2 : decode cX12_make 2 = .ok (.putfield 68, 3) := by decide +kernel
theorem dX12_make_5 : decode cX12_make 5 = .ok (.aload_n 0, 1) := by decide +kernel
theorem dX12_make_6 : decode cX12_make 6 = .ok (.iload_n 1, 1) := by decide +kernel
theorem dX12_make_7 : decode cX12_make 7 = .ok (.invokevirtual 369, 3) := by decide +kernel
theorem dX12_make_10 : decode cX12_make 10 = .ok (.ifCond .eq 12, 3) := by decide +kernel
theorem dX12_make_13 : decode cX12_make 13 = .ok (.aload_n 0, 1) := by decide +kernel
theorem dX12_make_14 : decode cX12_make 14 = .ok (.getfield 25, 3) := by decide +kernel
theorem dX12_make_17 : decode cX12_make 17 = .ok (.iload_n 1, 1) := by decide +kernel
theorem dX12_make_18 : decode cX12_make 18 = .ok (.iaload, 1) := by decide +kernel
theorem dX12_make_19 : decode cX12_make 19 = .ok (.goto 4, 3) := by decide +kernel
theorem dX12_make_22 : decode cX12_make 22 = .ok (.iconst 0, 1) := by decide +kernel
theorem dX12_make_23 : decode cX12_make 23 = .ok (.istore 5, 2) := by decide +kernel
theorem dX12_make_25 : decode cX12_make 25 = .ok (.aload_n 0, 1) := by decide +kernel
theorem dX12_make_26 : decode cX12_make 26 = .ok (.iload_n 1, 1) := by decide +kernel
theorem dX12_make_27 : decode cX12_make 27 = .ok (.invokevirtual 369, 3) := by decide +kernel
theorem dX12_make_30 : decode cX12_make 30 = .ok (.ifCond .eq 45, 3) := by decide +kernel
theorem dX12_make_33 : decode cX12_make 33 = .ok (.iload 5, 2) := by decide +kernel
theorem dX12_make_35 : decode cX12_make 35 = .ok (.ifCond .le 11, 3) := by decide +kernel
theorem dX12_make_38 : decode cX12_make 38 = .ok (.aload_n 0, 1) := by decide +kernel
theorem dX12_make_39 : decode cX12_make 39 = .ok (.iload_n 2, 1) := by decide +kernel
theorem dX12_make_40 : decode cX12_make 40 = .ok (.invokevirtual 376, 3) := by decide +kernel
theorem dX12_make_43 : decode cX12_make 43 = .ok (.ifCond .eq 32, 3) := by decide +kernel
theorem dX12_make_46 : decode cX12_make 46 = .ok (.iload 5, 2) := by decide +kernel
theorem dX12_make_48 : decode cX12_make 48 = .ok (.iconst 1, 1) := by decide +kernel
theorem dX12_make_49 : decode cX12_make 49 = .ok (.if_icmp .le 11, 3) := by decide +kernel
theorem dX12_make_52 : decode cX12_make 52 = .ok (.aload_n 0, 1) := by decide +kernel
theorem dX12_make_53 : decode cX12_make 53 = .ok (.iload_n 3, 1) := by decide +kernel
theorem dX12_make_54 : decode cX12_make 54 = .ok (.invokevirtual 376, 3) := by decide +kernel
theorem dX12_make_57 : decode cX12_make 57 = .ok (.ifCond .eq 18, 3) := by decide +kernel
theorem dX12_make_60 : decode cX12_make 60 = .ok (.iload 5, 2) := by decide +kernel
theorem dX12_make_62 : decode cX12_make 62 = .ok (.iconst 2, 1) := by decide +kernel
theorem dX12_make_63 : decode cX12_make 63 = .ok (.if_icmp .le 19, 3) := by decide +kernel
theorem dX12_make_66 : decode cX12_make 66 = .ok (.aload_n 0, 1) := by decide +kernel
theorem dX12_make_67 : decode cX12_make 67 = .ok (.iload 4, 2) := by decide +kernel
theorem dX12_make_69 : decode cX12_make 69 = .ok (.invokevirtual 376, 3) := by decide +kernel
theorem dX12_make_72 : decode cX12_make 72 = .ok (.ifCond .ne 10, 3) := by decide +kernel
theorem dX12_make_75 : decode cX12_make 75 = .ok (.aload_n 0, 1) := by decide +kernel
theorem dX12_make_76 : decode cX12_make 76 = .ok (.iconst 1, 1) := by decide +kernel
theorem dX12_make_77 : decode cX12_make 77 = .ok (.iconst (-1), 1) := by decide +kernel
theorem dX12_make_78 : decode cX12_make 78 = .ok (.invokevirtual 391, 3) := by decide +kernel
theorem dX12_make_81 : decode cX12_make 81 = .ok (.ireturn, 1) := by decide +kernel
theorem dX12_make_82 : decode cX12_make 82 = .ok (.aload_n 0, 1) := by decide +kernel
theorem dX12_make_83 : decode cX12_make 83 = .ok (.invokevirtual 400, 3) := by decide +kernel
theorem dX12_make_86 : decode cX12_make 86 = .ok (.aload_n 0, 1) := by decide +kernel
theorem dX12_make_87 : decode cX12_make 87 = .ok (.aload_n 0, 1) := by decide +kernel
theorem dX12_make_88 : decode cX12_make 88 = .ok (.iload_n 1, 1) := by decide +kernel
theorem dX12_make_89 : decode cX12_make 89 = .ok (.iload_n 2, 1) := by decide +kernel
theorem dX12_make_90 : decode cX12_make 90 = .ok (.iload_n 3, 1) := by decide +kernel
theorem dX12_make_91 : decode cX12_make 91 = .ok (.iload 4, 2) := by decide +kernel
theorem dX12_make_93 : decode cX12_make 93 = .ok (.invokevirtual 107, 3) := by decide +kernel
theorem dX12_make_96 : decode cX12_make 96 = .ok (.invokevirtual 403, 3) := by decide +kernel
theorem dX12_make_99 : decode cX12_make 99 = .ok (.ireturn, 1) := by decide +kernel
theorem dX12_bind_0 : decode cX12_bind 0 = .ok (.aload_n 0, 1) := by decide +kernel
theorem dX12_bind_1 : decode cX12_bind 1 = .ok (.iconst 0, 1) := by decide +kernel
theorem dX12_bind_2 : decode cX12_bind 2 = .ok (.putfield 68, 3) := by decide +kernel
theorem dX12_bind_5 : decode cX12_bind 5 = .ok (.iload_n 1, 1) := by decide +kernel
theorem dX12_bind_6 : decode cX12_bind 6 = .ok (.iconst 0, 1) := by decide +kernel
theorem dX12_bind_7 : decode cX12_bind 7 = .ok (.bipush 7, 2) := by decide +kernel
theorem dX12_bind_9 : decode cX12_bind 9 = .ok (.invokestatic 283, 3) := by decide +kernel
theorem dX12_bind_12 : decode cX12_bind 12 = .ok (.ifCond .eq 30, 3) := by decide +kernel
theorem dX12_bind_15 : decode cX12_bind 15 = .ok (.iload_n 2, 1) := by decide +kernel
theorem dX12_bind_16 : decode cX12_bind 16 = .ok (.iconst (-1), 1) := by decide +kernel
theorem dX12_bind_17 : decode cX12_bind 17 = .ok (.if_icmp .eq 11, 3) := by decide +kernel
theorem dX12_bind_20 : decode cX12_bind 20 = .ok (.aload_n 0, 1) := by decide +kernel
theorem dX12_bind_21 : decode cX12_bind 21 = .ok (.iload_n 2, 1) := by decide +kernel
theorem dX12_bind_22 : decode cX12_bind 22 = .ok (.invokevirtual 376, 3) := by decide +kernel
theorem dX12_bind_25 : decode cX12_bind 25 = .ok (.ifCond .eq 17, 3) := by decide +kernel
theorem dX12_bind_28 : decode cX12_bind 28 = .ok (.aload_n 0, 1) := by decide +kernel
theorem dX12_bind_29 : decode cX12_bind 29 = .ok (.getfield 9, 3) := by decide +kernel
theorem dX12_bind_32 : decode cX12_bind 32 = .ok (.iconst 1, 1) := by decide +kernel
theorem dX12_bind_33 : decode cX12_bind 33 = .ok (.iload_n 1, 1) := by decide +kernel
theorem dX12_bind_34 : decode cX12_bind 34 = .ok (.iadd, 1) := by decide +kernel
theorem dX12_bind_35 : decode cX12_bind 35 = .ok (.iaload, 1) := by decide +kernel
theorem dX12_bind_36 : decode cX12_bind 36 = .ok (.iload_n 2, 1) := by decide +kernel
theorem dX12_bind_37 : decode cX12_bind 37 = .ok (.iconst 1, 1) := by decide +kernel
theorem dX12_bind_38 : decode cX12_bind 38 = .ok (.iadd, 1) := by decide +kernel
theorem dX12_bind_39 : decode cX12_bind 39 = .ok (.if_icmp .ne 11, 3) := by decide +kernel
theorem dX12_bind_42 : decode cX12_bind 42 = .ok (.aload_n 0, 1) := by decide +kernel
theorem dX12_bind_43 : decode cX12_bind 43 = .ok (.iconst 1, 1) := by decide +kernel
theorem dX12_bind_44 : decode cX12_bind 44 = .ok (.bipush (-2), 2) := by decide +kernel
theorem dX12_bind_46 : decode cX12_bind 46 = .ok (.invokevirtual 391, 3) := by decide +kernel
theorem dX12_bind_49 : decode cX12_bind 49 = .ok (.ireturn, 1) := by decide +kernel
theorem dX12_bind_50 : decode cX12_bind 50 = .ok (.aload_n 0, 1) := by decide +kernel
theorem dX12_bind_51 : decode cX12_bind 51 = .ok (.invokevirtual 400, 3) := by decide +kernel
theorem dX12_bind_54 : decode cX12_bind 54 = .ok (.aload_n 0, 1) := by decide +kernel
theorem dX12_bind_55 : decode cX12_bind 55 = .ok (.getfield 9, 3) := by decide +kernel
theorem dX12_bind_58 : decode cX12_bind 58 = .ok (.iconst 1, 1) := by decide +kernel
theorem dX12_bind_59 : decode cX12_bind 59 = .ok (.iload_n 1, 1) := by decide +kernel
theorem dX12_bind_60 : decode cX12_bind 60 = .ok (.iadd, 1) := by decide +kernel
theorem dX12_bind_61 : decode cX12_bind 61 = .ok (.iaload, 1) := by decide +kernel
theorem dX12_bind_62 : decode cX12_bind 62 = .ok (.iconst 1, 1) := by decide +kernel
theorem dX12_bind_63 : decode cX12_bind 63 = .ok (.isub, 1) := by decide +kernel
theorem dX12_bind_64 : decode cX12_bind 64 = .ok (.istore_n 3, 1) := by decide +kernel
theorem dX12_bind_65 : decode cX12_bind 65 = .ok (.aload_n 0, 1) := by decide +kernel
theorem dX12_bind_66 : decode cX12_bind 66 = .ok (.getfield 9, 3) := by decide +kernel
theorem dX12_bind_69 : decode cX12_bind 69 = .ok (.iconst 1, 1) := by decide +kernel
theorem dX12_bind_70 : decode cX12_bind 70 = .ok (.iload_n 1, 1) := by decide +kernel
theorem dX12_bind_71 : decode cX12_bind 71 = .ok (.iadd, 1) := by decide +kernel
theorem dX12_bind_72 : decode cX12_bind 72 = .ok (.iload_n 2, 1) := by decide +kernel
theorem dX12_bind_73 : decode cX12_bind 73 = .ok (.iconst 1, 1) := by decide +kernel
theorem dX12_bind_74 : decode cX12_bind 74 = .ok (.iadd, 1) := by decide +kernel
theorem dX12_bind_75 : decode cX12_bind 75 = .ok (.iastore, 1) := by decide +kernel
theorem dX12_bind_76 : decode cX12_bind 76 = .ok (.aload_n 0, 1) := by decide +kernel
theorem dX12_bind_77 : decode cX12_bind 77 = .ok (.iload_n 3, 1) := by decide +kernel
theorem dX12_bind_78 : decode cX12_bind 78 = .ok (.invokevirtual 403, 3) := by decide +kernel
theorem dX12_bind_81 : decode cX12_bind 81 = .ok (.ireturn, 1) := by decide +kernel
theorem dX12_apply_0 : decode cX12_apply 0 = .ok (.aload_n 0, 1) := by decide +kernel
theorem dX12_apply_1 : decode cX12_apply 1 = .ok (.iconst 0, 1) := by decide +kernel
theorem dX12_apply_2 : decode cX12_apply 2 = .ok (.putfield 68, 3) := by decide +kernel
theorem dX12_apply_5 : decode cX12_apply 5 = .ok (.aload_n 0, 1) := by decide +kernel
theorem dX12_apply_6 : decode cX12_apply 6 = .ok (.iload_n 1, 1) := by decide +kernel
theorem dX12_apply_7 : decode cX12_apply 7 = .ok (.invokevirtual 376, 3) := by decide +kernel
theorem dX12_apply_10 : decode cX12_apply 10 = .ok (.ifCond .ne 10, 3) := by decide +kernel
theorem dX12_apply_13 : decode cX12_apply 13 = .ok (.aload_n 0, 1) := by decide +kernel
theorem dX12_apply_14 : decode cX12_apply 14 = .ok (.iconst 1, 1) := by decide +kernel
theorem dX12_apply_15 : decode cX12_apply 15 = .ok (.iconst (-1), 1) := by decide +kernel
theorem dX12_apply_16 : decode cX12_apply 16 = .ok (.invokevirtual 391, 3) := by decide +kernel
theorem dX12_apply_19 : decode cX12_apply 19 = .ok (.ireturn, 1) := by decide +kernel
theorem dX12_apply_20 : decode cX12_apply 20 = .ok (.aload_n 0, 1) := by decide +kernel
theorem dX12_apply_21 : decode cX12_apply 21 = .ok (.invokevirtual 400, 3) := by decide +kernel
theorem dX12_apply_24 : decode cX12_apply 24 = .ok (.aload_n 0, 1) := by decide +kernel
theorem dX12_apply_25 : decode cX12_apply 25 = .ok (.invokevirtual 406, 3) := by decide +kernel
theorem dX12_apply_28 : decode cX12_apply 28 = .ok (.aload_n 0, 1) := by decide +kernel
theorem dX12_apply_29 : decode cX12_apply 29 = .ok (.aload_n 0, 1) := by decide +kernel
theorem dX12_apply_30 : decode cX12_apply 30 = .ok (.iload_n 1, 1) := by decide +kernel
theorem dX12_apply_31 : decode cX12_apply 31 = .ok (.aload_n 0, 1) := by decide +kernel
theorem dX12_apply_32 : decode cX12_apply 32 = .ok (.getfield 44, 3) := by decide +kernel
theorem dX12_apply_35 : decode cX12_apply 35 = .ok (.invokevirtual 148, 3) := by decide +kernel
theorem dX12_apply_38 : decode cX12_apply 38 = .ok (.invokevirtual 403, 3) := by decide +kernel
theorem dX12_apply_41 : decode cX12_apply 41 = .ok (.ireturn, 1) := by decide +kernel
theorem dX12_close_0 : decode cX12_close 0 = .ok (.aload_n 0, 1) := by decide +kernel
theorem dX12_close_1 : decode cX12_close 1 = .ok (.iconst 0, 1) := by decide +kernel
theorem dX12_close_2 : decode cX12_close 2 = .ok (.putfield 68, 3) := by decide +kernel
theorem dX12_close_5 : decode cX12_close 5 = .ok (.aload_n 0, 1) := by decide +kernel
theorem dX12_close_6 : decode cX12_close 6 = .ok (.iload_n 1, 1) := by decide +kernel
theorem dX12_close_7 : decode cX12_close 7 = .ok (.invokevirtual 376, 3) := by decide +kernel
theorem dX12_close_10 : decode cX12_close 10 = .ok (.ifCond .ne 10, 3) := by decide +kernel
theorem dX12_close_13 : decode cX12_close 13 = .ok (.aload_n 0, 1) := by decide +kernel
theorem dX12_close_14 : decode cX12_close 14 = .ok (.iconst 1, 1) := by decide +kernel
theorem dX12_close_15 : decode cX12_close 15 = .ok (.iconst (-1), 1) := by decide +kernel
theorem dX12_close_16 : decode cX12_close 16 = .ok (.invokevirtual 391, 3) := by decide +kernel
theorem dX12_close_19 : decode cX12_close 19 = .ok (.ireturn, 1) := by decide +kernel
theorem dX12_close_20 : decode cX12_close 20 = .ok (.aload_n 0, 1) := by decide +kernel
theorem dX12_close_21 : decode cX12_close 21 = .ok (.invokevirtual 406, 3) := by decide +kernel
theorem dX12_close_24 : decode cX12_close 24 = .ok (.aload_n 0, 1) := by decide +kernel
theorem dX12_close_25 : decode cX12_close 25 = .ok (.iload_n 1, 1) := by decide +kernel
theorem dX12_close_26 : decode cX12_close 26 = .ok (.invokevirtual 409, 3) := by decide +kernel
theorem dX12_close_29 : decode cX12_close 29 = .ok (.ifCond .eq 11, 3) := by decide +kernel
theorem dX12_close_32 : decode cX12_close 32 = .ok (.aload_n 0, 1) := by decide +kernel
theorem dX12_close_33 : decode cX12_close 33 = .ok (.iconst 3, 1) := by decide +kernel
theorem dX12_close_34 : decode cX12_close 34 = .ok (.bipush (-2), 2) := by decide +kernel
theorem dX12_close_36 : decode cX12_close 36 = .ok (.invokevirtual 391, 3) := by decide +kernel
theorem dX12_close_39 : decode cX12_close 39 = .ok (.ireturn, 1) := by decide +kernel
theorem dX12_close_40 : decode cX12_close 40 = .ok (.aload_n 0, 1) := by decide +kernel
theorem dX12_close_41 : decode cX12_close 41 = .ok (.invokevirtual 400, 3) := by decide +kernel
theorem dX12_close_44 : decode cX12_close 44 = .ok (.aload_n 0, 1) := by decide +kernel
theorem dX12_close_45 : decode cX12_close 45 = .ok (.aload_n 0, 1) := by decide +kernel
theorem dX12_close_46 : decode cX12_close 46 = .ok (.iload_n 1, 1) := by decide +kernel
theorem dX12_close_47 : decode cX12_close 47 = .ok (.iconst 1, 1) := by decide +kernel
theorem dX12_close_48 : decode cX12_close 48 = .ok (.invokevirtual 158, 3) := by decide +kernel
theorem dX12_close_51 : decode cX12_close 51 = .ok (.invokevirtual 403, 3) := by decide +kernel
theorem dX12_close_54 : decode cX12_close 54 = .ok (.ireturn, 1) := by decide +kernel
theorem dX12_unify_0 : decode cX12_unify 0 = .ok (.aload_n 0, 1) := by decide +kernel
theorem dX12_unify_1 : decode cX12_unify 1 = .ok (.iconst 0, 1) := by decide +kernel
theorem dX12_unify_2 : decode cX12_unify 2 = .ok (.putfield 68, 3) := by decide +kernel
theorem dX12_unify_5 : decode cX12_unify 5 = .ok (.aload_n 0, 1) := by decide +kernel
theorem dX12_unify_6 : decode cX12_unify 6 = .ok (.iload_n 1, 1) := by decide +kernel
theorem dX12_unify_7 : decode cX12_unify 7 = .ok (.invokevirtual 376, 3) := by decide +kernel
theorem dX12_unify_10 : decode cX12_unify 10 = .ok (.ifCond .eq 11, 3) := by decide +kernel
theorem dX12_unify_13 : decode cX12_unify 13 = .ok (.aload_n 0, 1) := by decide +kernel
theorem dX12_unify_14 : decode cX12_unify 14 = .ok (.iload_n 2, 1) := by decide +kernel
theorem dX12_unify_15 : decode cX12_unify 15 = .ok (.invokevirtual 376, 3) := by decide +kernel
theorem dX12_unify_18 : decode cX12_unify 18 = .ok (.ifCond .ne 10, 3) := by decide +kernel
theorem dX12_unify_21 : decode cX12_unify 21 = .ok (.aload_n 0, 1) := by decide +kernel
theorem dX12_unify_22 : decode cX12_unify 22 = .ok (.iconst 1, 1) := by decide +kernel
theorem dX12_unify_23 : decode cX12_unify 23 = .ok (.iconst (-1), 1) := by decide +kernel
theorem dX12_unify_24 : decode cX12_unify 24 = .ok (.invokevirtual 391, 3) := by decide +kernel
theorem dX12_unify_27 : decode cX12_unify 27 = .ok (.ireturn, 1) := by decide +kernel
theorem dX12_unify_28 : decode cX12_unify 28 = .ok (.aload_n 0, 1) := by decide +kernel
theorem dX12_unify_29 : decode cX12_unify 29 = .ok (.iload_n 1, 1) := by decide +kernel
theorem dX12_unify_30 : decode cX12_unify 30 = .ok (.iload_n 2, 1) := by decide +kernel
theorem dX12_unify_31 : decode cX12_unify 31 = .ok (.invokevirtual 189, 3) := by decide +kernel
theorem dX12_unify_34 : decode cX12_unify 34 = .ok (.istore_n 3, 1) := by decide +kernel
theorem dX12_unify_35 : decode cX12_unify 35 = .ok (.iload_n 3, 1) := by decide +kernel
theorem dX12_unify_36 : decode cX12_unify 36 = .ok (.iconst 1, 1) := by decide +kernel
theorem dX12_unify_37 : decode cX12_unify 37 = .ok (.if_icmp .eq 10, 3) := by decide +kernel
theorem dX12_unify_40 : decode cX12_unify 40 = .ok (.aload_n 0, 1) := by decide +kernel
theorem dX12_unify_41 : decode cX12_unify 41 = .ok (.iconst 3, 1) := by decide +kernel
theorem dX12_unify_42 : decode cX12_unify 42 = .ok (.iload_n 3, 1) := by decide +kernel
theorem dX12_unify_43 : decode cX12_unify 43 = .ok (.invokevirtual 391, 3) := by decide +kernel
theorem dX12_unify_46 : decode cX12_unify 46 = .ok (.ireturn, 1) := by decide +kernel
theorem dX12_unify_47 : decode cX12_unify 47 = .ok (.aload_n 0, 1) := by decide +kernel
theorem dX12_unify_48 : decode cX12_unify 48 = .ok (.invokevirtual 400, 3) := by decide +kernel
theorem dX12_unify_51 : decode cX12_unify 51 = .ok (.aload_n 0, 1) := by decide +kernel
theorem dX12_unify_52 : decode cX12_unify 52 = .ok (.aload_n 0, 1) := by decide +kernel
theorem dX12_unify_53 : decode cX12_unify 53 = .ok (.iload_n 1, 1) := by decide +kernel
theorem dX12_unify_54 : decode cX12_unify 54 = .ok (.invokevirtual 126, 3) := by decide +kernel
theorem dX12_unify_57 : decode cX12_unify 57 = .ok (.aload_n 0, 1) := by decide +kernel
theorem dX12_unify_58 : decode cX12_unify 58 = .ok (.iload_n 2, 1) := by decide +kernel
theorem dX12_unify_59 : decode cX12_unify 59 = .ok (.invokevirtual 126, 3) := by decide +kernel
theorem dX12_unify_62 : decode cX12_unify 62 = .ok (.ior, 1) := by decide +kernel
theorem dX12_unify_63 : decode cX12_unify 63 = .ok (.invokevirtual 412, 3) := by decide +kernel
theorem dX12_unify_66 : decode cX12_unify 66 = .ok (.aload_n 0, 1) := by decide +kernel
theorem dX12_unify_67 : decode cX12_unify 67 = .ok (.iconst 1, 1) := by decide +kernel
theorem dX12_unify_68 : decode cX12_unify 68 = .ok (.invokevirtual 403, 3) := by decide +kernel
theorem dX12_unify_71 : decode cX12_unify 71 = .ok (.ireturn, 1) := by decide +kernel
theorem dX12_match_0 : decode cX12_match 0 = .ok (.aload_n 0, 1) := by decide +kernel
theorem dX12_match_1 : decode cX12_match 1 = .ok (.iconst 0, 1) := by decide +kernel
theorem dX12_match_2 : decode cX12_match 2 = .ok (.putfield 68, 3) := by decide +kernel
theorem dX12_match_5 : decode cX12_match 5 = .ok (.aload_n 0, 1) := by decide +kernel
theorem dX12_match_6 : decode cX12_match 6 = .ok (.iload_n 1, 1) := by decide +kernel
theorem dX12_match_7 : decode cX12_match 7 = .ok (.invokevirtual 376, 3) := by decide +kernel
theorem dX12_match_10 : decode cX12_match 10 = .ok (.ifCond .eq 11, 3) := by decide +kernel
theorem dX12_match_13 : decode cX12_match 13 = .ok (.aload_n 0, 1) := by decide +kernel
theorem dX12_match_14 : decode cX12_match 14 = .ok (.iload_n 2, 1) := by decide +kernel
theorem dX12_match_15 : decode cX12_match 15 = .ok (.invokevirtual 376, 3) := by decide +kernel
theorem dX12_match_18 : decode cX12_match 18 = .ok (.ifCond .ne 10, 3) := by decide +kernel
theorem dX12_match_21 : decode cX12_match 21 = .ok (.aload_n 0, 1) := by decide +kernel
theorem dX12_match_22 : decode cX12_match 22 = .ok (.iconst 1, 1) := by decide +kernel
theorem dX12_match_23 : decode cX12_match 23 = .ok (.iconst (-1), 1) := by decide +kernel
theorem dX12_match_24 : decode cX12_match 24 = .ok (.invokevirtual 391, 3) := by decide +kernel
theorem dX12_match_27 : decode cX12_match 27 = .ok (.ireturn, 1) := by decide +kernel
theorem dX12_match_28 : decode cX12_match 28 = .ok (.aload_n 0, 1) := by decide +kernel
theorem dX12_match_29 : decode cX12_match 29 = .ok (.iload_n 1, 1) := by decide +kernel
theorem dX12_match_30 : decode cX12_match 30 = .ok (.iload_n 2, 1) := by decide +kernel
theorem dX12_match_31 : decode cX12_match 31 = .ok (.invokevirtual 227, 3) := by decide +kernel
theorem dX12_match_34 : decode cX12_match 34 = .ok (.ifCond .ne 10, 3) := by decide +kernel
theorem dX12_match_37 : decode cX12_match 37 = .ok (.aload_n 0, 1) := by decide +kernel
