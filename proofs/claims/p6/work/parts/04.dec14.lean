theorem dL_bank_0 : decode cL_bank 0 = .ok (.aload_n 2, 1) := by decide +kernel
theorem dL_bank_1 : decode cL_bank 1 = .ok (.iconst 0, 1) := by decide +kernel
theorem dL_bank_2 : decode cL_bank 2 = .ok (.aload_n 0, 1) := by decide +kernel
theorem dL_bank_3 : decode cL_bank 3 = .ok (.iload_n 1, 1) := by decide +kernel
theorem dL_bank_4 : decode cL_bank 4 = .ok (.invokevirtual 7, 3) := by decide +kernel
theorem dL_bank_7 : decode cL_bank 7 = .ok (.i2l, 1) := by decide +kernel
theorem dL_bank_8 : decode cL_bank 8 = .ok (.lastore, 1) := by decide +kernel
theorem dL_bank_9 : decode cL_bank 9 = .ok (.goto 6, 3) := by decide +kernel
theorem dL_bank_12 : decode cL_bank 12 = .ok (.astore_n 3, 1) := by decide +kernel
theorem dL_bank_13 : decode cL_bank 13 = .ok (.iconst 1, 1) := by decide +kernel
theorem dL_bank_14 : decode cL_bank 14 = .ok (.ireturn, 1) := by decide +kernel
theorem dL_bank_15 : decode cL_bank 15 = .ok (.iconst 0, 1) := by decide +kernel
theorem dL_bank_16 : decode cL_bank 16 = .ok (.ireturn, 1) := by decide +kernel
theorem dL_count_0 : decode cL_count 0 = .ok (.aload_n 2, 1) := by decide +kernel
theorem dL_count_1 : decode cL_count 1 = .ok (.iconst 0, 1) := by decide +kernel
theorem dL_count_2 : decode cL_count 2 = .ok (.aload_n 0, 1) := by decide +kernel
theorem dL_count_3 : decode cL_count 3 = .ok (.iload_n 1, 1) := by decide +kernel
theorem dL_count_4 : decode cL_count 4 = .ok (.invokevirtual 15, 3) := by decide +kernel
theorem dL_count_7 : decode cL_count 7 = .ok (.i2l, 1) := by decide +kernel
theorem dL_count_8 : decode cL_count 8 = .ok (.lastore, 1) := by decide +kernel
theorem dL_count_9 : decode cL_count 9 = .ok (.goto 6, 3) := by decide +kernel
theorem dL_count_12 : decode cL_count 12 = .ok (.astore_n 3, 1) := by decide +kernel
theorem dL_count_13 : decode cL_count 13 = .ok (.iconst 1, 1) := by decide +kernel
theorem dL_count_14 : decode cL_count 14 = .ok (.ireturn, 1) := by decide +kernel
theorem dL_count_15 : decode cL_count 15 = .ok (.iconst 0, 1) := by decide +kernel
theorem dL_count_16 : decode cL_count 16 = .ok (.ireturn, 1) := by decide +kernel
theorem dL_symbol_0 : decode cL_symbol 0 = .ok (.aload_n 3, 1) := by decide +kernel
theorem dL_symbol_1 : decode cL_symbol 1 = .ok (.iconst 0, 1) := by decide +kernel
theorem dL_symbol_2 : decode cL_symbol 2 = .ok (.aload_n 0, 1) := by decide +kernel
theorem dL_symbol_3 : decode cL_symbol 3 = .ok (.iload_n 1, 1) := by decide +kernel
theorem dL_symbol_4 : decode cL_symbol 4 = .ok (.iload_n 2, 1) := by decide +kernel
theorem dL_symbol_5 : decode cL_symbol 5 = .ok (.invokevirtual 20, 3) := by decide +kernel
theorem dL_symbol_8 : decode cL_symbol 8 = .ok (.i2l, 1) := by decide +kernel
theorem dL_symbol_9 : decode cL_symbol 9 = .ok (.lastore, 1) := by decide +kernel
theorem dL_symbol_10 : decode cL_symbol 10 = .ok (.goto 7, 3) := by decide +kernel
theorem dL_symbol_13 : decode cL_symbol 13 = .ok (.astore 4, 2) := by decide +kernel
theorem dL_symbol_15 : decode cL_symbol 15 = .ok (.iconst 1, 1) := by decide +kernel
theorem dL_symbol_16 : decode cL_symbol 16 = .ok (.ireturn, 1) := by decide +kernel
theorem dL_symbol_17 : decode cL_symbol 17 = .ok (.iconst 0, 1) := by decide +kernel
theorem dL_symbol_18 : decode cL_symbol 18 = .ok (.ireturn, 1) := by decide +kernel
theorem dL_term_0 : decode cL_term 0 = .ok (.aload_n 3, 1) := by decide +kernel
theorem dL_term_1 : decode cL_term 1 = .ok (.iconst 0, 1) := by decide +kernel
theorem dL_term_2 : decode cL_term 2 = .ok (.aload_n 0, 1) := by decide +kernel
theorem dL_term_3 : decode cL_term 3 = .ok (.iload_n 1, 1) := by decide +kernel
theorem dL_term_4 : decode cL_term 4 = .ok (.iload_n 2, 1) := by decide +kernel
theorem dL_term_5 : decode cL_term 5 = .ok (.invokevirtual 24, 3) := by decide +kernel
theorem dL_term_8 : decode cL_term 8 = .ok (.i2l, 1) := by decide +kernel
theorem dL_term_9 : decode cL_term 9 = .ok (.lastore, 1) := by decide +kernel
theorem dL_term_10 : decode cL_term 10 = .ok (.goto 7, 3) := by decide +kernel
theorem dL_term_13 : decode cL_term 13 = .ok (.astore 4, 2) := by decide +kernel
theorem dL_term_15 : decode cL_term 15 = .ok (.iconst 1, 1) := by decide +kernel
theorem dL_term_16 : decode cL_term 16 = .ok (.ireturn, 1) := by decide +kernel
theorem dL_term_17 : decode cL_term 17 = .ok (.iconst 0, 1) := by decide +kernel
theorem dL_term_18 : decode cL_term 18 = .ok (.ireturn, 1) := by decide +kernel
theorem dL_argument_0 : decode cL_argument 0 = .ok (.aload_n 3, 1) := by decide +kernel
theorem dL_argument_1 : decode cL_argument 1 = .ok (.iconst 0, 1) := by decide +kernel
theorem dL_argument_2 : decode cL_argument 2 = .ok (.aload_n 0, 1) := by decide +kernel
theorem dL_argument_3 : decode cL_argument 3 = .ok (.iload_n 1, 1) := by decide +kernel
theorem dL_argument_4 : decode cL_argument 4 = .ok (.iload_n 2, 1) := by decide +kernel
theorem dL_argument_5 : decode cL_argument 5 = .ok (.invokevirtual 27, 3) := by decide +kernel
theorem dL_argument_8 : decode cL_argument 8 = .ok (.i2l, 1) := by decide +kernel
theorem dL_argument_9 : decode cL_argument 9 = .ok (.lastore, 1) := by decide +kernel
theorem dL_argument_10 : decode cL_argument 10 = .ok (.goto 7, 3) := by decide +kernel
theorem dL_argument_13 : decode cL_argument 13 = .ok (.astore 4, 2) := by decide +kernel
theorem dL_argument_15 : decode cL_argument 15 = .ok (.iconst 1, 1) := by decide +kernel
theorem dL_argument_16 : decode cL_argument 16 = .ok (.ireturn, 1) := by decide +kernel
theorem dL_argument_17 : decode cL_argument 17 = .ok (.iconst 0, 1) := by decide +kernel
theorem dL_argument_18 : decode cL_argument 18 = .ok (.ireturn, 1) := by decide +kernel
theorem dL_place_0 : decode cL_place 0 = .ok (.aload_n 3, 1) := by decide +kernel
theorem dL_place_1 : decode cL_place 1 = .ok (.iconst 0, 1) := by decide +kernel
theorem dL_place_2 : decode cL_place 2 = .ok (.aload_n 0, 1) := by decide +kernel
theorem dL_place_3 : decode cL_place 3 = .ok (.iload_n 1, 1) := by decide +kernel
theorem dL_place_4 : decode cL_place 4 = .ok (.iload_n 2, 1) := by decide +kernel
theorem dL_place_5 : decode cL_place 5 = .ok (.invokevirtual 30, 3) := by decide +kernel
theorem dL_place_8 : decode cL_place 8 = .ok (.i2l, 1) := by decide +kernel
theorem dL_place_9 : decode cL_place 9 = .ok (.lastore, 1) := by decide +kernel
theorem dL_place_10 : decode cL_place 10 = .ok (.goto 7, 3) := by decide +kernel
theorem dL_place_13 : decode cL_place 13 = .ok (.astore 4, 2) := by decide +kernel
theorem dL_place_15 : decode cL_place 15 = .ok (.iconst 1, 1) := by decide +kernel
theorem dL_place_16 : decode cL_place 16 = .ok (.ireturn, 1) := by decide +kernel
theorem dL_place_17 : decode cL_place 17 = .ok (.iconst 0, 1) := by decide +kernel
theorem dL_place_18 : decode cL_place 18 = .ok (.ireturn, 1) := by decide +kernel
theorem dL_order_0 : decode cL_order 0 = .ok (.aload_n 3, 1) := by decide +kernel
theorem dL_order_1 : decode cL_order 1 = .ok (.iconst 0, 1) := by decide +kernel
theorem dL_order_2 : decode cL_order 2 = .ok (.aload_n 0, 1) := by decide +kernel
theorem dL_order_3 : decode cL_order 3 = .ok (.iload_n 1, 1) := by decide +kernel
theorem dL_order_4 : decode cL_order 4 = .ok (.iload_n 2, 1) := by decide +kernel
theorem dL_order_5 : decode cL_order 5 = .ok (.invokevirtual 33, 3) := by decide +kernel
theorem dL_order_8 : decode cL_order 8 = .ok (.i2l, 1) := by decide +kernel
theorem dL_order_9 : decode cL_order 9 = .ok (.lastore, 1) := by decide +kernel
theorem dL_order_10 : decode cL_order 10 = .ok (.goto 7, 3) := by decide +kernel
theorem dL_order_13 : decode cL_order 13 = .ok (.astore 4, 2) := by decide +kernel
theorem dL_order_15 : decode cL_order 15 = .ok (.iconst 1, 1) := by decide +kernel
theorem dL_order_16 : decode cL_order 16 = .ok (.ireturn, 1) := by decide +kernel
theorem dL_order_17 : decode cL_order 17 = .ok (.iconst 0, 1) := by decide +kernel
theorem dL_order_18 : decode cL_order 18 = .ok (.ireturn, 1) := by decide +kernel
theorem dL_find_0 : decode cL_find 0 = .ok (.aload_n 3, 1) := by decide +kernel
theorem dL_find_1 : decode cL_find 1 = .ok (.iconst 0, 1) := by decide +kernel
theorem dL_find_2 : decode cL_find 2 = .ok (.aload_n 0, 1) := by decide +kernel
theorem dL_find_3 : decode cL_find 3 = .ok (.iload_n 1, 1) := by decide +kernel
theorem dL_find_4 : decode cL_find 4 = .ok (.iload_n 2, 1) := by decide +kernel
theorem dL_find_5 : decode cL_find 5 = .ok (.invokevirtual 36, 3) := by decide +kernel
theorem dL_find_8 : decode cL_find 8 = .ok (.i2l, 1) := by decide +kernel
theorem dL_find_9 : decode cL_find 9 = .ok (.lastore, 1) := by decide +kernel
theorem dL_find_10 : decode cL_find 10 = .ok (.goto 7, 3) := by decide +kernel
theorem dL_find_13 : decode cL_find 13 = .ok (.astore 4, 2) := by decide +kernel
theorem dL_find_15 : decode cL_find 15 = .ok (.iconst 1, 1) := by decide +kernel
theorem dL_find_16 : decode cL_find 16 = .ok (.ireturn, 1) := by decide +kernel
theorem dL_find_17 : decode cL_find 17 = .ok (.iconst 0, 1) := by decide +kernel
theorem dL_find_18 : decode cL_find 18 = .ok (.ireturn, 1) := by decide +kernel
theorem dL_rule_0 : decode cL_rule 0 = .ok (.aload_n 3, 1) := by decide +kernel
theorem dL_rule_1 : decode cL_rule 1 = .ok (.iconst 0, 1) := by decide +kernel
theorem dL_rule_2 : decode cL_rule 2 = .ok (.aload_n 0, 1) := by decide +kernel
theorem dL_rule_3 : decode cL_rule 3 = .ok (.iload_n 1, 1) := by decide +kernel
theorem dL_rule_4 : decode cL_rule 4 = .ok (.iload_n 2, 1) := by decide +kernel
theorem dL_rule_5 : decode cL_rule 5 = .ok (.invokevirtual 39, 3) := by decide +kernel
theorem dL_rule_8 : decode cL_rule 8 = .ok (.i2l, 1) := by decide +kernel
theorem dL_rule_9 : decode cL_rule 9 = .ok (.lastore, 1) := by decide +kernel
theorem dL_rule_10 : decode cL_rule 10 = .ok (.goto 7, 3) := by decide +kernel
theorem dL_rule_13 : decode cL_rule 13 = .ok (.astore 4, 2) := by decide +kernel
theorem dL_rule_15 : decode cL_rule 15 = .ok (.iconst 1, 1) := by decide +kernel
theorem dL_rule_16 : decode cL_rule 16 = .ok (.ireturn, 1) := by decide +kernel
theorem dL_rule_17 : decode cL_rule 17 = .ok (.iconst 0, 1) := by decide +kernel
theorem dL_rule_18 : decode cL_rule 18 = .ok (.ireturn, 1) := by decide +kernel
theorem dL_entry_0 : decode cL_entry 0 = .ok (.aload_n 2, 1) := by decide +kernel
theorem dL_entry_1 : decode cL_entry 1 = .ok (.iconst 0, 1) := by decide +kernel
theorem dL_entry_2 : decode cL_entry 2 = .ok (.aload_n 0, 1) := by decide +kernel
theorem dL_entry_3 : decode cL_entry 3 = .ok (.iload_n 1, 1) := by decide +kernel
theorem dL_entry_4 : decode cL_entry 4 = .ok (.invokevirtual 42, 3) := by decide +kernel
theorem dL_entry_7 : decode cL_entry 7 = .ok (.i2l, 1) := by decide +kernel
theorem dL_entry_8 : decode cL_entry 8 = .ok (.lastore, 1) := by decide +kernel
theorem dL_entry_9 : decode cL_entry 9 = .ok (.goto 6, 3) := by decide +kernel
theorem dL_entry_12 : decode cL_entry 12 = .ok (.astore_n 3, 1) := by decide +kernel
theorem dL_entry_13 : decode cL_entry 13 = .ok (.iconst 1, 1) := by decide +kernel
theorem dL_entry_14 : decode cL_entry 14 = .ok (.ireturn, 1) := by decide +kernel
theorem dL_entry_15 : decode cL_entry 15 = .ok (.iconst 0, 1) := by decide +kernel
theorem dL_entry_16 : decode cL_entry 16 = .ok (.ireturn, 1) := by decide +kernel
theorem dL_memo_0 : decode cL_memo 0 = .ok (.aload_n 3, 1) := by decide +kernel
theorem dL_memo_1 : decode cL_memo 1 = .ok (.iconst 0, 1) := by decide +kernel
theorem dL_memo_2 : decode cL_memo 2 = .ok (.aload_n 0, 1) := by decide +kernel
theorem dL_memo_3 : decode cL_memo 3 = .ok (.iload_n 1, 1) := by decide +kernel
theorem dL_memo_4 : decode cL_memo 4 = .ok (.iload_n 2, 1) := by decide +kernel
theorem dL_memo_5 : decode cL_memo 5 = .ok (.invokevirtual 45, 3) := by decide +kernel
theorem dL_memo_8 : decode cL_memo 8 = .ok (.i2l, 1) := by decide +kernel
theorem dL_memo_9 : decode cL_memo 9 = .ok (.lastore, 1) := by decide +kernel
theorem dL_memo_10 : decode cL_memo 10 = .ok (.goto 7, 3) := by decide +kernel
theorem dL_memo_13 : decode cL_memo 13 = .ok (.astore 4, 2) := by decide +kernel
theorem dL_memo_15 : decode cL_memo 15 = .ok (.iconst 1, 1) := by decide +kernel
theorem dL_memo_16 : decode cL_memo 16 = .ok (.ireturn, 1) := by decide +kernel
theorem dL_memo_17 : decode cL_memo 17 = .ok (.iconst 0, 1) := by decide +kernel
theorem dL_memo_18 : decode cL_memo 18 = .ok (.ireturn, 1) := by decide +kernel
theorem dL_bound_0 : decode cL_bound 0 = .ok (.aload_n 2, 1) := by decide +kernel
theorem dL_bound_1 : decode cL_bound 1 = .ok (.iconst 0, 1) := by decide +kernel
theorem dL_bound_2 : decode cL_bound 2 = .ok (.aload_n 0, 1) := by decide +kernel
theorem dL_bound_3 : decode cL_bound 3 = .ok (.iload_n 1, 1) := by decide +kernel
theorem dL_bound_4 : decode cL_bound 4 = .ok (.invokevirtual 48, 3) := by decide +kernel
theorem dL_bound_7 : decode cL_bound 7 = .ok (.i2l, 1) := by decide +kernel
theorem dL_bound_8 : decode cL_bound 8 = .ok (.lastore, 1) := by decide +kernel
theorem dL_bound_9 : decode cL_bound 9 = .ok (.goto 6, 3) := by decide +kernel
theorem dL_bound_12 : decode cL_bound 12 = .ok (.astore_n 3, 1) := by decide +kernel
theorem dL_bound_13 : decode cL_bound 13 = .ok (.iconst 1, 1) := by decide +kernel
theorem dL_bound_14 : decode cL_bound 14 = .ok (.ireturn, 1) := by decide +kernel
theorem dL_bound_15 : decode cL_bound 15 = .ok (.iconst 0, 1) := by decide +kernel
theorem dL_bound_16 : decode cL_bound 16 = .ok (.ireturn, 1) := by decide +kernel
theorem dL_years_0 : decode cL_years 0 = .ok (.aload 4, 2) := by decide +kernel
theorem dL_years_2 : decode cL_years 2 = .ok (.iconst 0, 1) := by decide +kernel
theorem dL_years_3 : decode cL_years 3 = .ok (.aload_n 0, 1) := by decide +kernel
theorem dL_years_4 : decode cL_years 4 = .ok (.iload_n 1, 1) := by decide +kernel
theorem dL_years_5 : decode cL_years 5 = .ok (.iload_n 2, 1) := by decide +kernel
theorem dL_years_6 : decode cL_years 6 = .ok (.iload_n 3, 1) := by decide +kernel
theorem dL_years_7 : decode cL_years 7 = .ok (.invokevirtual 51, 3) := by decide +kernel
theorem dL_years_10 : decode cL_years 10 = .ok (.i2l, 1) := by decide +kernel
theorem dL_years_11 : decode cL_years 11 = .ok (.lastore, 1) := by decide +kernel
theorem dL_years_12 : decode cL_years 12 = .ok (.goto 11, 3) := by decide +kernel
theorem dL_years_15 : decode cL_years 15 = .ok (.astore 5, 2) := by decide +kernel
theorem dL_years_17 : decode cL_years 17 = .ok (.iconst 1, 1) := by decide +kernel
theorem dL_years_18 : decode cL_years 18 = .ok (.ireturn, 1) := by decide +kernel
theorem dL_years_19 : decode cL_years 19 = .ok (.astore 5, 2) := by decide +kernel
theorem dL_years_21 : decode cL_years 21 = .ok (.iconst 2, 1) := by decide +kernel
theorem dL_years_22 : decode cL_years 22 = .ok (.ireturn, 1) := by decide +kernel
theorem dL_years_23 : decode cL_years 23 = .ok (.iconst 0, 1) := by decide +kernel
theorem dL_years_24 : decode cL_years 24 = .ok (.ireturn, 1) := by decide +kernel
theorem dL_law_0 : decode cL_law 0 = .ok (.new 8, 3) := by decide +kernel
theorem dL_law_3 : decode cL_law 3 = .ok (.dup, 1) := by decide +kernel
theorem dL_law_4 : decode cL_law 4 = .ok (.invokespecial 55, 3) := by decide +kernel
theorem dL_law_7 : decode cL_law 7 = .ok (.astore_n 1, 1) := by decide +kernel
theorem dL_law_8 : decode cL_law 8 = .ok (.new 56, 3) := by decide +kernel
theorem dL_law_11 : decode cL_law 11 = .ok (.dup, 1) := by decide +kernel
theorem dL_law_12 : decode cL_law 12 = .ok (.invokespecial 58, 3) := by decide +kernel
theorem dL_law_15 : decode cL_law 15 = .ok (.astore_n 2, 1) := by decide +kernel
theorem dL_law_16 : decode cL_law 16 = .ok (.iconst 1, 1) := by decide +kernel
theorem dL_law_17 : decode cL_law 17 = .ok (.newarray .long, 2) := by decide +kernel
theorem dL_law_19 : decode cL_law 19 = .ok (.astore_n 3, 1) := by decide +kernel
theorem dL_law_20 : decode cL_law 20 = .ok (.iconst 0, 1) := by decide +kernel
theorem dL_law_21 : decode cL_law 21 = .ok (.istore 4, 2) := by decide +kernel
theorem dL_law_23 : decode cL_law 23 = .ok (.iload 4, 2) := by decide +kernel
theorem dL_law_25 : decode cL_law 25 = .ok (.aload_n 0, 1) := by decide +kernel
theorem dL_law_26 : decode cL_law 26 = .ok (.arraylength, 1) := by decide +kernel
theorem dL_law_27 : decode cL_law 27 = .ok (.bipush 6, 2) := by decide +kernel
theorem dL_law_29 : decode cL_law 29 = .ok (.isub, 1) := by decide +kernel
theorem dL_law_30 : decode cL_law 30 = .ok (.if_icmp .gt 1306, 3) := by decide +kernel
theorem dL_law_33 : decode cL_law 33 = .ok (.aload_n 0, 1) := by decide +kernel
theorem dL_law_34 : decode cL_law 34 = .ok (.iload 4, 2) := by decide +kernel
theorem dL_law_36 : decode cL_law 36 = .ok (.iaload, 1) := by decide +kernel
theorem dL_law_37 : decode cL_law 37 = .ok (.bipush 63, 2) := by decide +kernel
theorem dL_law_39 : decode cL_law 39 = .ok (.iand, 1) := by decide +kernel
theorem dL_law_40 : decode cL_law 40 = .ok (.tableswitch 1290 0 32 #[148, 221, 249, 262, 290, 358, 398, 438, 478, 518, 558, 598, 626, 666, 694, 719, 780, 817, 842, 867, 904, 941, 978, 1003, 1052, 1089, 1114, 1139, 1164, 1201, 1214, 1266, 1277], 148) := by decide +kernel
theorem dL_law_188 : decode cL_law 188 = .ok (.aload_n 1, 1) := by decide +kernel
theorem dL_law_189 : decode cL_law 189 = .ok (.aload_n 0, 1) := by decide +kernel
theorem dL_law_190 : decode cL_law 190 = .ok (.iload 4, 2) := by decide +kernel
theorem dL_law_192 : decode cL_law 192 = .ok (.iconst 1, 1) := by decide +kernel
theorem dL_law_193 : decode cL_law 193 = .ok (.iadd, 1) := by decide +kernel
theorem dL_law_194 : decode cL_law 194 = .ok (.iaload, 1) := by decide +kernel
theorem dL_law_195 : decode cL_law 195 = .ok (.aload_n 0, 1) := by decide +kernel
theorem dL_law_196 : decode cL_law 196 = .ok (.iload 4, 2) := by decide +kernel
theorem dL_law_198 : decode cL_law 198 = .ok (.iconst 2, 1) := by decide +kernel
theorem dL_law_199 : decode cL_law 199 = .ok (.iadd, 1) := by decide +kernel
theorem dL_law_200 : decode cL_law 200 = .ok (.iaload, 1) := by decide +kernel
theorem dL_law_201 : decode cL_law 201 = .ok (.aload_n 0, 1) := by decide +kernel
theorem dL_law_202 : decode cL_law 202 = .ok (.iload 4, 2) := by decide +kernel
theorem dL_law_204 : decode cL_law 204 = .ok (.iconst 3, 1) := by decide +kernel
theorem dL_law_205 : decode cL_law 205 = .ok (.iadd, 1) := by decide +kernel
theorem dL_law_206 : decode cL_law 206 = .ok (.iaload, 1) := by decide +kernel
theorem dL_law_207 : decode cL_law 207 = .ok (.aload_n 0, 1) := by decide +kernel
theorem dL_law_208 : decode cL_law 208 = .ok (.iload 4, 2) := by decide +kernel
theorem dL_law_210 : decode cL_law 210 = .ok (.iconst 4, 1) := by decide +kernel
theorem dL_law_211 : decode cL_law 211 = .ok (.iadd, 1) := by decide +kernel
theorem dL_law_212 : decode cL_law 212 = .ok (.iaload, 1) := by decide +kernel
theorem dL_law_213 : decode cL_law 213 = .ok (.aload_n 0, 1) := by decide +kernel
theorem dL_law_214 : decode cL_law 214 = .ok (.iload 4, 2) := by decide +kernel
theorem dL_law_216 : decode cL_law 216 = .ok (.iconst 5, 1) := by decide +kernel
theorem dL_law_217 : decode cL_law 217 = .ok (.iadd, 1) := by decide +kernel
theorem dL_law_218 : decode cL_law 218 = .ok (.iaload, 1) := by decide +kernel
theorem dL_law_219 : decode cL_law 219 = .ok (.invokevirtual 59, 3) := by decide +kernel
theorem dL_law_222 : decode cL_law 222 = .ok (.pop, 1) := by decide +kernel
theorem dL_law_223 : decode cL_law 223 = .ok (.aload_n 2, 1) := by decide +kernel
theorem dL_law_224 : decode cL_law 224 = .ok (.aload_n 0, 1) := by decide +kernel
theorem dL_law_225 : decode cL_law 225 = .ok (.iload 4, 2) := by decide +kernel
theorem dL_law_227 : decode cL_law 227 = .ok (.iconst 1, 1) := by decide +kernel
theorem dL_law_228 : decode cL_law 228 = .ok (.iadd, 1) := by decide +kernel
theorem dL_law_229 : decode cL_law 229 = .ok (.iaload, 1) := by decide +kernel
theorem dL_law_230 : decode cL_law 230 = .ok (.aload_n 0, 1) := by decide +kernel
theorem dL_law_231 : decode cL_law 231 = .ok (.iload 4, 2) := by decide +kernel
theorem dL_law_233 : decode cL_law 233 = .ok (.iconst 2, 1) := by decide +kernel
theorem dL_law_234 : decode cL_law 234 = .ok (.iadd, 1) := by decide +kernel
theorem dL_law_235 : decode cL_law 235 = .ok (.iaload, 1) := by decide +kernel
theorem dL_law_236 : decode cL_law 236 = .ok (.aload_n 0, 1) := by decide +kernel
theorem dL_law_237 : decode cL_law 237 = .ok (.iload 4, 2) := by decide +kernel
theorem dL_law_239 : decode cL_law 239 = .ok (.iconst 3, 1) := by decide +kernel
theorem dL_law_240 : decode cL_law 240 = .ok (.iadd, 1) := by decide +kernel
theorem dL_law_241 : decode cL_law 241 = .ok (.iaload, 1) := by decide +kernel
theorem dL_law_242 : decode cL_law 242 = .ok (.aload_n 0, 1) := by decide +kernel
theorem dL_law_243 : decode cL_law 243 = .ok (.iload 4, 2) := by decide +kernel
theorem dL_law_245 : decode cL_law 245 = .ok (.iconst 4, 1) := by decide +kernel
theorem dL_law_246 : decode cL_law 246 = .ok (.iadd, 1) := by decide +kernel
theorem dL_law_247 : decode cL_law 247 = .ok (.iaload, 1) := by decide +kernel
theorem dL_law_248 : decode cL_law 248 = .ok (.aload_n 0, 1) := by decide +kernel
theorem dL_law_249 : decode cL_law 249 = .ok (.iload 4, 2) := by decide +kernel
theorem dL_law_251 : decode cL_law 251 = .ok (.iconst 5, 1) := by decide +kernel
theorem dL_law_252 : decode cL_law 252 = .ok (.iadd, 1) := by decide +kernel
theorem dL_law_253 : decode cL_law 253 = .ok (.iaload, 1) := by decide +kernel
theorem dL_law_254 : decode cL_law 254 = .ok (.invokevirtual 63, 3) := by decide +kernel
theorem dL_law_257 : decode cL_law 257 = .ok (.pop, 1) := by decide +kernel
theorem dL_law_258 : decode cL_law 258 = .ok (.goto 1072, 3) := by decide +kernel
theorem dL_law_261 : decode cL_law 261 = .ok (.aload_n 1, 1) := by decide +kernel
theorem dL_law_262 : decode cL_law 262 = .ok (.aload_n 0, 1) := by decide +kernel
theorem dL_law_263 : decode cL_law 263 = .ok (.iload 4, 2) := by decide +kernel
theorem dL_law_265 : decode cL_law 265 = .ok (.iconst 1, 1) := by decide +kernel
theorem dL_law_266 : decode cL_law 266 = .ok (.iadd, 1) := by decide +kernel
theorem dL_law_267 : decode cL_law 267 = .ok (.iaload, 1) := by decide +kernel
theorem dL_law_268 : decode cL_law 268 = .ok (.aload_n 3, 1) := by decide +kernel
theorem dL_law_269 : decode cL_law 269 = .ok (.invokestatic 64, 3) := by decide +kernel
theorem dL_law_272 : decode cL_law 272 = .ok (.istore 5, 2) := by decide +kernel
theorem dL_law_274 : decode cL_law 274 = .ok (.aload_n 2, 1) := by decide +kernel
theorem dL_law_275 : decode cL_law 275 = .ok (.aload_n 0, 1) := by decide +kernel
theorem dL_law_276 : decode cL_law 276 = .ok (.iload 4, 2) := by decide +kernel
theorem dL_law_278 : decode cL_law 278 = .ok (.iconst 1, 1) := by decide +kernel
theorem dL_law_279 : decode cL_law 279 = .ok (.iadd, 1) := by decide +kernel
theorem dL_law_280 : decode cL_law 280 = .ok (.iaload, 1) := by decide +kernel
theorem dL_law_281 : decode cL_law 281 = .ok (.invokevirtual 69, 3) := by decide +kernel
theorem dL_law_284 : decode cL_law 284 = .ok (.istore 6, 2) := by decide +kernel
theorem dL_law_286 : decode cL_law 286 = .ok (.goto 1044, 3) := by decide +kernel
theorem dL_law_289 : decode cL_law 289 = .ok (.aload_n 1, 1) := by decide +kernel
theorem dL_law_290 : decode cL_law 290 = .ok (.invokevirtual 70, 3) := by decide +kernel
theorem dL_law_293 : decode cL_law 293 = .ok (.pop, 1) := by decide +kernel
theorem dL_law_294 : decode cL_law 294 = .ok (.aload_n 2, 1) := by decide +kernel
theorem dL_law_295 : decode cL_law 295 = .ok (.invokevirtual 74, 3) := by decide +kernel
theorem dL_law_298 : decode cL_law 298 = .ok (.pop, 1) := by decide +kernel
theorem dL_law_299 : decode cL_law 299 = .ok (.goto 1031, 3) := by decide +kernel
theorem dL_law_302 : decode cL_law 302 = .ok (.aload_n 1, 1) := by decide +kernel
theorem dL_law_303 : decode cL_law 303 = .ok (.aload_n 0, 1) := by decide +kernel
theorem dL_law_304 : decode cL_law 304 = .ok (.iload 4, 2) := by decide +kernel
theorem dL_law_306 : decode cL_law 306 = .ok (.iconst 1, 1) := by decide +kernel
theorem dL_law_307 : decode cL_law 307 = .ok (.iadd, 1) := by decide +kernel
theorem dL_law_308 : decode cL_law 308 = .ok (.iaload, 1) := by decide +kernel
theorem dL_law_309 : decode cL_law 309 = .ok (.aload_n 3, 1) := by decide +kernel
theorem dL_law_310 : decode cL_law 310 = .ok (.invokestatic 75, 3) := by decide +kernel
theorem dL_law_313 : decode cL_law 313 = .ok (.istore 5, 2) := by decide +kernel
theorem dL_law_315 : decode cL_law 315 = .ok (.aload_n 2, 1) := by decide +kernel
theorem dL_law_316 : decode cL_law 316 = .ok (.aload_n 0, 1) := by decide +kernel
theorem dL_law_317 : decode cL_law 317 = .ok (.iload 4, 2) := by decide +kernel
theorem dL_law_319 : decode cL_law 319 = .ok (.iconst 1, 1) := by decide +kernel
theorem dL_law_320 : decode cL_law 320 = .ok (.iadd, 1) := by decide +kernel
theorem dL_law_321 : decode cL_law 321 = .ok (.iaload, 1) := by decide +kernel
theorem dL_law_322 : decode cL_law 322 = .ok (.invokevirtual 77, 3) := by decide +kernel
theorem dL_law_325 : decode cL_law 325 = .ok (.istore 6, 2) := by decide +kernel
theorem dL_law_327 : decode cL_law 327 = .ok (.goto 1003, 3) := by decide +kernel
theorem dL_law_330 : decode cL_law 330 = .ok (.aload_n 1, 1) := by decide +kernel
theorem dL_law_331 : decode cL_law 331 = .ok (.aload_n 0, 1) := by decide +kernel
theorem dL_law_332 : decode cL_law 332 = .ok (.iload 4, 2) := by decide +kernel
theorem dL_law_334 : decode cL_law 334 = .ok (.iconst 1, 1) := by decide +kernel
theorem dL_law_335 : decode cL_law 335 = .ok (.iadd, 1) := by decide +kernel
theorem dL_law_336 : decode cL_law 336 = .ok (.iaload, 1) := by decide +kernel
theorem dL_law_337 : decode cL_law 337 = .ok (.aload_n 0, 1) := by decide +kernel
theorem dL_law_338 : decode cL_law 338 = .ok (.iload 4, 2) := by decide +kernel
theorem dL_law_340 : decode cL_law 340 = .ok (.iconst 2, 1) := by decide +kernel
theorem dL_law_341 : decode cL_law 341 = .ok (.iadd, 1) := by decide +kernel
theorem dL_law_342 : decode cL_law 342 = .ok (.iaload, 1) := by decide +kernel
theorem dL_law_343 : decode cL_law 343 = .ok (.aload_n 3, 1) := by decide +kernel
theorem dL_law_344 : decode cL_law 344 = .ok (.invokestatic 78, 3) := by decide +kernel
theorem dL_law_347 : decode cL_law 347 = .ok (.istore 5, 2) := by decide +kernel
theorem dL_law_349 : decode cL_law 349 = .ok (.aload_n 2, 1) := by decide +kernel
theorem dL_law_350 : decode cL_law 350 = .ok (.aload_n 0, 1) := by decide +kernel
theorem dL_law_351 : decode cL_law 351 = .ok (.iload 4, 2) := by decide +kernel
theorem dL_law_353 : decode cL_law 353 = .ok (.iconst 1, 1) := by decide +kernel
theorem dL_law_354 : decode cL_law 354 = .ok (.iadd, 1) := by decide +kernel
theorem dL_law_355 : decode cL_law 355 = .ok (.iaload, 1) := by decide +kernel
theorem dL_law_356 : decode cL_law 356 = .ok (.aload_n 0, 1) := by decide +kernel
theorem dL_law_357 : decode cL_law 357 = .ok (.iload 4, 2) := by decide +kernel
theorem dL_law_359 : decode cL_law 359 = .ok (.iconst 2, 1) := by decide +kernel
theorem dL_law_360 : decode cL_law 360 = .ok (.iadd, 1) := by decide +kernel
theorem dL_law_361 : decode cL_law 361 = .ok (.iaload, 1) := by decide +kernel
theorem dL_law_362 : decode cL_law 362 = .ok (.invokevirtual 81, 3) := by decide +kernel
theorem dL_law_365 : decode cL_law 365 = .ok (.istore 6, 2) := by decide +kernel
theorem dL_law_367 : decode cL_law 367 = .ok (.aload_n 2, 1) := by decide +kernel
theorem dL_law_368 : decode cL_law 368 = .ok (.invokevirtual 82, 3) := by decide +kernel
theorem dL_law_371 : decode cL_law 371 = .ok (.iload 5, 2) := by decide +kernel
theorem dL_law_373 : decode cL_law 373 = .ok (.if_icmp .eq 5, 3) := by decide +kernel
theorem dL_law_376 : decode cL_law 376 = .ok (.iconst 0, 1) := by decide +kernel
theorem dL_law_377 : decode cL_law 377 = .ok (.ireturn, 1) := by decide +kernel
theorem dL_law_378 : decode cL_law 378 = .ok (.iload 5, 2) := by decide +kernel
theorem dL_law_380 : decode cL_law 380 = .ok (.ifCond .ne 15, 3) := by decide +kernel
theorem dL_law_383 : decode cL_law 383 = .ok (.aload_n 3, 1) := by decide +kernel
theorem dL_law_384 : decode cL_law 384 = .ok (.iconst 0, 1) := by decide +kernel
theorem dL_law_385 : decode cL_law 385 = .ok (.laload, 1) := by decide +kernel
theorem dL_law_386 : decode cL_law 386 = .ok (.iload 6, 2) := by decide +kernel
theorem dL_law_388 : decode cL_law 388 = .ok (.i2l, 1) := by decide +kernel
theorem dL_law_389 : decode cL_law 389 = .ok (.lcmp, 1) := by decide +kernel
theorem dL_law_390 : decode cL_law 390 = .ok (.ifCond .eq 5, 3) := by decide +kernel
theorem dL_law_393 : decode cL_law 393 = .ok (.iconst 0, 1) := by decide +kernel
theorem dL_law_394 : decode cL_law 394 = .ok (.ireturn, 1) := by decide +kernel
theorem dL_law_395 : decode cL_law 395 = .ok (.goto 935, 3) := by decide +kernel
theorem dL_law_398 : decode cL_law 398 = .ok (.aload_n 1, 1) := by decide +kernel
theorem dL_law_399 : decode cL_law 399 = .ok (.aload_n 0, 1) := by decide +kernel
theorem dL_law_400 : decode cL_law 400 = .ok (.iload 4, 2) := by decide +kernel
theorem dL_law_402 : decode cL_law 402 = .ok (.iconst 1, 1) := by decide +kernel
theorem dL_law_403 : decode cL_law 403 = .ok (.iadd, 1) := by decide +kernel
theorem dL_law_404 : decode cL_law 404 = .ok (.iaload, 1) := by decide +kernel
theorem dL_law_405 : decode cL_law 405 = .ok (.aload_n 0, 1) := by decide +kernel
theorem dL_law_406 : decode cL_law 406 = .ok (.iload 4, 2) := by decide +kernel
theorem dL_law_408 : decode cL_law 408 = .ok (.iconst 2, 1) := by decide +kernel
theorem dL_law_409 : decode cL_law 409 = .ok (.iadd, 1) := by decide +kernel
theorem dL_law_410 : decode cL_law 410 = .ok (.iaload, 1) := by decide +kernel
theorem dL_law_411 : decode cL_law 411 = .ok (.aload_n 3, 1) := by decide +kernel
theorem dL_law_412 : decode cL_law 412 = .ok (.invokestatic 85, 3) := by decide +kernel
theorem dL_law_415 : decode cL_law 415 = .ok (.istore 5, 2) := by decide +kernel
theorem dL_law_417 : decode cL_law 417 = .ok (.aload_n 2, 1) := by decide +kernel
theorem dL_law_418 : decode cL_law 418 = .ok (.aload_n 0, 1) := by decide +kernel
theorem dL_law_419 : decode cL_law 419 = .ok (.iload 4, 2) := by decide +kernel
theorem dL_law_421 : decode cL_law 421 = .ok (.iconst 1, 1) := by decide +kernel
theorem dL_law_422 : decode cL_law 422 = .ok (.iadd, 1) := by decide +kernel
theorem dL_law_423 : decode cL_law 423 = .ok (.iaload, 1) := by decide +kernel
theorem dL_law_424 : decode cL_law 424 = .ok (.aload_n 0, 1) := by decide +kernel
theorem dL_law_425 : decode cL_law 425 = .ok (.iload 4, 2) := by decide +kernel
theorem dL_law_427 : decode cL_law 427 = .ok (.iconst 2, 1) := by decide +kernel
theorem dL_law_428 : decode cL_law 428 = .ok (.iadd, 1) := by decide +kernel
theorem dL_law_429 : decode cL_law 429 = .ok (.iaload, 1) := by decide +kernel
theorem dL_law_430 : decode cL_law 430 = .ok (.invokevirtual 87, 3) := by decide +kernel
theorem dL_law_433 : decode cL_law 433 = .ok (.istore 6, 2) := by decide +kernel
theorem dL_law_435 : decode cL_law 435 = .ok (.goto 895, 3) := by decide +kernel
theorem dL_law_438 : decode cL_law 438 = .ok (.aload_n 1, 1) := by decide +kernel
theorem dL_law_439 : decode cL_law 439 = .ok (.aload_n 0, 1) := by decide +kernel
theorem dL_law_440 : decode cL_law 440 = .ok (.iload 4, 2) := by decide +kernel
theorem dL_law_442 : decode cL_law 442 = .ok (.iconst 1, 1) := by decide +kernel
theorem dL_law_443 : decode cL_law 443 = .ok (.iadd, 1) := by decide +kernel
theorem dL_law_444 : decode cL_law 444 = .ok (.iaload, 1) := by decide +kernel
theorem dL_law_445 : decode cL_law 445 = .ok (.aload_n 0, 1) := by decide +kernel
theorem dL_law_446 : decode cL_law 446 = .ok (.iload 4, 2) := by decide +kernel
theorem dL_law_448 : decode cL_law 448 = .ok (.iconst 2, 1) := by decide +kernel
theorem dL_law_449 : decode cL_law 449 = .ok (.iadd, 1) := by decide +kernel
theorem dL_law_450 : decode cL_law 450 = .ok (.iaload, 1) := by decide +kernel
theorem dL_law_451 : decode cL_law 451 = .ok (.aload_n 3, 1) := by decide +kernel
theorem dL_law_452 : decode cL_law 452 = .ok (.invokestatic 88, 3) := by decide +kernel
theorem dL_law_455 : decode cL_law 455 = .ok (.istore 5, 2) := by decide +kernel
theorem dL_law_457 : decode cL_law 457 = .ok (.aload_n 2, 1) := by decide +kernel
theorem dL_law_458 : decode cL_law 458 = .ok (.aload_n 0, 1) := by decide +kernel
theorem dL_law_459 : decode cL_law 459 = .ok (.iload 4, 2) := by decide +kernel
theorem dL_law_461 : decode cL_law 461 = .ok (.iconst 1, 1) := by decide +kernel
theorem dL_law_462 : decode cL_law 462 = .ok (.iadd, 1) := by decide +kernel
theorem dL_law_463 : decode cL_law 463 = .ok (.iaload, 1) := by decide +kernel
theorem dL_law_464 : decode cL_law 464 = .ok (.aload_n 0, 1) := by decide +kernel
theorem dL_law_465 : decode cL_law 465 = .ok (.iload 4, 2) := by decide +kernel
theorem dL_law_467 : decode cL_law 467 = .ok (.iconst 2, 1) := by decide +kernel
theorem dL_law_468 : decode cL_law 468 = .ok (.iadd, 1) := by decide +kernel
theorem dL_law_469 : decode cL_law 469 = .ok (.iaload, 1) := by decide +kernel
theorem dL_law_470 : decode cL_law 470 = .ok (.invokevirtual 90, 3) := by decide +kernel
theorem dL_law_473 : decode cL_law 473 = .ok (.istore 6, 2) := by decide +kernel
theorem dL_law_475 : decode cL_law 475 = .ok (.goto 855, 3) := by decide +kernel
theorem dL_law_478 : decode cL_law 478 = .ok (.aload_n 1, 1) := by decide +kernel
theorem dL_law_479 : decode cL_law 479 = .ok (.aload_n 0, 1) := by decide +kernel
theorem dL_law_480 : decode cL_law 480 = .ok (.iload 4, 2) := by decide +kernel
theorem dL_law_482 : decode cL_law 482 = .ok (.iconst 1, 1) := by decide +kernel
theorem dL_law_483 : decode cL_law 483 = .ok (.iadd, 1) := by decide +kernel
theorem dL_law_484 : decode cL_law 484 = .ok (.iaload, 1) := by decide +kernel
theorem dL_law_485 : decode cL_law 485 = .ok (.aload_n 0, 1) := by decide +kernel
theorem dL_law_486 : decode cL_law 486 = .ok (.iload 4, 2) := by decide +kernel
theorem dL_law_488 : decode cL_law 488 = .ok (.iconst 2, 1) := by decide +kernel
theorem dL_law_489 : decode cL_law 489 = .ok (.iadd, 1) := by decide +kernel
theorem dL_law_490 : decode cL_law 490 = .ok (.iaload, 1) := by decide +kernel
theorem dL_law_491 : decode cL_law 491 = .ok (.aload_n 3, 1) := by decide +kernel
theorem dL_law_492 : decode cL_law 492 = .ok (.invokestatic 91, 3) := by decide +kernel
theorem dL_law_495 : decode cL_law 495 = .ok (.istore 5, 2) := by decide +kernel
theorem dL_law_497 : decode cL_law 497 = .ok (.aload_n 2, 1) := by decide +kernel
theorem dL_law_498 : decode cL_law 498 = .ok (.aload_n 0, 1) := by decide +kernel
theorem dL_law_499 : decode cL_law 499 = .ok (.iload 4, 2) := by decide +kernel
theorem dL_law_501 : decode cL_law 501 = .ok (.iconst 1, 1) := by decide +kernel
theorem dL_law_502 : decode cL_law 502 = .ok (.iadd, 1) := by decide +kernel
theorem dL_law_503 : decode cL_law 503 = .ok (.iaload, 1) := by decide +kernel
theorem dL_law_504 : decode cL_law 504 = .ok (.aload_n 0, 1) := by decide +kernel
theorem dL_law_505 : decode cL_law 505 = .ok (.iload 4, 2) := by decide +kernel
theorem dL_law_507 : decode cL_law 507 = .ok (.iconst 2, 1) := by decide +kernel
theorem dL_law_508 : decode cL_law 508 = .ok (.iadd, 1) := by decide +kernel
theorem dL_law_509 : decode cL_law 509 = .ok (.iaload, 1) := by decide +kernel
theorem dL_law_510 : decode cL_law 510 = .ok (.invokevirtual 93, 3) := by decide +kernel
theorem dL_law_513 : decode cL_law 513 = .ok (.istore 6, 2) := by decide +kernel
theorem dL_law_515 : decode cL_law 515 = .ok (.goto 815, 3) := by decide +kernel
theorem dL_law_518 : decode cL_law 518 = .ok (.aload_n 1, 1) := by decide +kernel
theorem dL_law_519 : decode cL_law 519 = .ok (.aload_n 0, 1) := by decide +kernel
theorem dL_law_520 : decode cL_law 520 = .ok (.iload 4, 2) := by decide +kernel
theorem dL_law_522 : decode cL_law 522 = .ok (.iconst 1, 1) := by decide +kernel
theorem dL_law_523 : decode cL_law 523 = .ok (.iadd, 1) := by decide +kernel
theorem dL_law_524 : decode cL_law 524 = .ok (.iaload, 1) := by decide +kernel
theorem dL_law_525 : decode cL_law 525 = .ok (.aload_n 0, 1) := by decide +kernel
theorem dL_law_526 : decode cL_law 526 = .ok (.iload 4, 2) := by decide +kernel
theorem dL_law_528 : decode cL_law 528 = .ok (.iconst 2, 1) := by decide +kernel
theorem dL_law_529 : decode cL_law 529 = .ok (.iadd, 1) := by decide +kernel
theorem dL_law_530 : decode cL_law 530 = .ok (.iaload, 1) := by decide +kernel
theorem dL_law_531 : decode cL_law 531 = .ok (.aload_n 3, 1) := by decide +kernel
theorem dL_law_532 : decode cL_law 532 = .ok (.invokestatic 94, 3) := by decide +kernel
theorem dL_law_535 : decode cL_law 535 = .ok (.istore 5, 2) := by decide +kernel
theorem dL_law_537 : decode cL_law 537 = .ok (.aload_n 2, 1) := by decide +kernel
theorem dL_law_538 : decode cL_law 538 = .ok (.aload_n 0, 1) := by decide +kernel
theorem dL_law_539 : decode cL_law 539 = .ok (.iload 4, 2) := by decide +kernel
theorem dL_law_541 : decode cL_law 541 = .ok (.iconst 1, 1) := by decide +kernel
theorem dL_law_542 : decode cL_law 542 = .ok (.iadd, 1) := by decide +kernel
theorem dL_law_543 : decode cL_law 543 = .ok (.iaload, 1) := by decide +kernel
theorem dL_law_544 : decode cL_law 544 = .ok (.aload_n 0, 1) := by decide +kernel
theorem dL_law_545 : decode cL_law 545 = .ok (.iload 4, 2) := by decide +kernel
theorem dL_law_547 : decode cL_law 547 = .ok (.iconst 2, 1) := by decide +kernel
theorem dL_law_548 : decode cL_law 548 = .ok (.iadd, 1) := by decide +kernel
theorem dL_law_549 : decode cL_law 549 = .ok (.iaload, 1) := by decide +kernel
theorem dL_law_550 : decode cL_law 550 = .ok (.invokevirtual 96, 3) := by decide +kernel
theorem dL_law_553 : decode cL_law 553 = .ok (.istore 6, 2) := by decide +kernel
theorem dL_law_555 : decode cL_law 555 = .ok (.goto 775, 3) := by decide +kernel
theorem dL_law_558 : decode cL_law 558 = .ok (.aload_n 1, 1) := by decide +kernel
theorem dL_law_559 : decode cL_law 559 = .ok (.aload_n 0, 1) := by decide +kernel
theorem dL_law_560 : decode cL_law 560 = .ok (.iload 4, 2) := by decide +kernel
theorem dL_law_562 : decode cL_law 562 = .ok (.iconst 1, 1) := by decide +kernel
theorem dL_law_563 : decode cL_law 563 = .ok (.iadd, 1) := by decide +kernel
theorem dL_law_564 : decode cL_law 564 = .ok (.iaload, 1) := by decide +kernel
theorem dL_law_565 : decode cL_law 565 = .ok (.aload_n 0, 1) := by decide +kernel
theorem dL_law_566 : decode cL_law 566 = .ok (.iload 4, 2) := by decide +kernel
theorem dL_law_568 : decode cL_law 568 = .ok (.iconst 2, 1) := by decide +kernel
theorem dL_law_569 : decode cL_law 569 = .ok (.iadd, 1) := by decide +kernel
theorem dL_law_570 : decode cL_law 570 = .ok (.iaload, 1) := by decide +kernel
theorem dL_law_571 : decode cL_law 571 = .ok (.aload_n 3, 1) := by decide +kernel
theorem dL_law_572 : decode cL_law 572 = .ok (.invokestatic 97, 3) := by decide +kernel
theorem dL_law_575 : decode cL_law 575 = .ok (.istore 5, 2) := by decide +kernel
theorem dL_law_577 : decode cL_law 577 = .ok (.aload_n 2, 1) := by decide +kernel
theorem dL_law_578 : decode cL_law 578 = .ok (.aload_n 0, 1) := by decide +kernel
theorem dL_law_579 : decode cL_law 579 = .ok (.iload 4, 2) := by decide +kernel
theorem dL_law_581 : decode cL_law 581 = .ok (.iconst 1, 1) := by decide +kernel
theorem dL_law_582 : decode cL_law 582 = .ok (.iadd, 1) := by decide +kernel
theorem dL_law_583 : decode cL_law 583 = .ok (.iaload, 1) := by decide +kernel
theorem dL_law_584 : decode cL_law 584 = .ok (.aload_n 0, 1) := by decide +kernel
theorem dL_law_585 : decode cL_law 585 = .ok (.iload 4, 2) := by decide +kernel
theorem dL_law_587 : decode cL_law 587 = .ok (.iconst 2, 1) := by decide +kernel
theorem dL_law_588 : decode cL_law 588 = .ok (.iadd, 1) := by decide +kernel
theorem dL_law_589 : decode cL_law 589 = .ok (.iaload, 1) := by decide +kernel
theorem dL_law_590 : decode cL_law 590 = .ok (.invokevirtual 99, 3) := by decide +kernel
theorem dL_law_593 : decode cL_law 593 = .ok (.istore 6, 2) := by decide +kernel
theorem dL_law_595 : decode cL_law 595 = .ok (.goto 735, 3) := by decide +kernel
theorem dL_law_598 : decode cL_law 598 = .ok (.aload_n 1, 1) := by decide +kernel
theorem dL_law_599 : decode cL_law 599 = .ok (.aload_n 0, 1) := by decide +kernel
theorem dL_law_600 : decode cL_law 600 = .ok (.iload 4, 2) := by decide +kernel
theorem dL_law_602 : decode cL_law 602 = .ok (.iconst 1, 1) := by decide +kernel
theorem dL_law_603 : decode cL_law 603 = .ok (.iadd, 1) := by decide +kernel
theorem dL_law_604 : decode cL_law 604 = .ok (.iaload, 1) := by decide +kernel
theorem dL_law_605 : decode cL_law 605 = .ok (.aload_n 0, 1) := by decide +kernel
theorem dL_law_606 : decode cL_law 606 = .ok (.iload 4, 2) := by decide +kernel
theorem dL_law_608 : decode cL_law 608 = .ok (.iconst 2, 1) := by decide +kernel
theorem dL_law_609 : decode cL_law 609 = .ok (.iadd, 1) := by decide +kernel
theorem dL_law_610 : decode cL_law 610 = .ok (.iaload, 1) := by decide +kernel
theorem dL_law_611 : decode cL_law 611 = .ok (.aload_n 3, 1) := by decide +kernel
theorem dL_law_612 : decode cL_law 612 = .ok (.invokestatic 100, 3) := by decide +kernel
theorem dL_law_615 : decode cL_law 615 = .ok (.istore 5, 2) := by decide +kernel
theorem dL_law_617 : decode cL_law 617 = .ok (.aload_n 2, 1) := by decide +kernel
theorem dL_law_618 : decode cL_law 618 = .ok (.aload_n 0, 1) := by decide +kernel
theorem dL_law_619 : decode cL_law 619 = .ok (.iload 4, 2) := by decide +kernel
theorem dL_law_621 : decode cL_law 621 = .ok (.iconst 1, 1) := by decide +kernel
theorem dL_law_622 : decode cL_law 622 = .ok (.iadd, 1) := by decide +kernel
theorem dL_law_623 : decode cL_law 623 = .ok (.iaload, 1) := by decide +kernel
theorem dL_law_624 : decode cL_law 624 = .ok (.aload_n 0, 1) := by decide +kernel
theorem dL_law_625 : decode cL_law 625 = .ok (.iload 4, 2) := by decide +kernel
theorem dL_law_627 : decode cL_law 627 = .ok (.iconst 2, 1) := by decide +kernel
theorem dL_law_628 : decode cL_law 628 = .ok (.iadd, 1) := by decide +kernel
theorem dL_law_629 : decode cL_law 629 = .ok (.iaload, 1) := by decide +kernel
theorem dL_law_630 : decode cL_law 630 = .ok (.invokevirtual 102, 3) := by decide +kernel
theorem dL_law_633 : decode cL_law 633 = .ok (.istore 6, 2) := by decide +kernel
theorem dL_law_635 : decode cL_law 635 = .ok (.goto 695, 3) := by decide +kernel
theorem dL_law_638 : decode cL_law 638 = .ok (.aload_n 1, 1) := by decide +kernel
theorem dL_law_639 : decode cL_law 639 = .ok (.aload_n 0, 1) := by decide +kernel
theorem dL_law_640 : decode cL_law 640 = .ok (.iload 4, 2) := by decide +kernel
theorem dL_law_642 : decode cL_law 642 = .ok (.iconst 1, 1) := by decide +kernel
theorem dL_law_643 : decode cL_law 643 = .ok (.iadd, 1) := by decide +kernel
theorem dL_law_644 : decode cL_law 644 = .ok (.iaload, 1) := by decide +kernel
theorem dL_law_645 : decode cL_law 645 = .ok (.aload_n 3, 1) := by decide +kernel
theorem dL_law_646 : decode cL_law 646 = .ok (.invokestatic 103, 3) := by decide +kernel
theorem dL_law_649 : decode cL_law 649 = .ok (.istore 5, 2) := by decide +kernel
theorem dL_law_651 : decode cL_law 651 = .ok (.aload_n 2, 1) := by decide +kernel
theorem dL_law_652 : decode cL_law 652 = .ok (.aload_n 0, 1) := by decide +kernel
theorem dL_law_653 : decode cL_law 653 = .ok (.iload 4, 2) := by decide +kernel
theorem dL_law_655 : decode cL_law 655 = .ok (.iconst 1, 1) := by decide +kernel
theorem dL_law_656 : decode cL_law 656 = .ok (.iadd, 1) := by decide +kernel
theorem dL_law_657 : decode cL_law 657 = .ok (.iaload, 1) := by decide +kernel
theorem dL_law_658 : decode cL_law 658 = .ok (.invokevirtual 105, 3) := by decide +kernel
theorem dL_law_661 : decode cL_law 661 = .ok (.istore 6, 2) := by decide +kernel
theorem dL_law_663 : decode cL_law 663 = .ok (.goto 667, 3) := by decide +kernel
theorem dL_law_666 : decode cL_law 666 = .ok (.aload_n 1, 1) := by decide +kernel
theorem dL_law_667 : decode cL_law 667 = .ok (.aload_n 0, 1) := by decide +kernel
theorem dL_law_668 : decode cL_law 668 = .ok (.iload 4, 2) := by decide +kernel
theorem dL_law_670 : decode cL_law 670 = .ok (.iconst 1, 1) := by decide +kernel
theorem dL_law_671 : decode cL_law 671 = .ok (.iadd, 1) := by decide +kernel
theorem dL_law_672 : decode cL_law 672 = .ok (.iaload, 1) := by decide +kernel
theorem dL_law_673 : decode cL_law 673 = .ok (.aload_n 0, 1) := by decide +kernel
theorem dL_law_674 : decode cL_law 674 = .ok (.iload 4, 2) := by decide +kernel
theorem dL_law_676 : decode cL_law 676 = .ok (.iconst 2, 1) := by decide +kernel
theorem dL_law_677 : decode cL_law 677 = .ok (.iadd, 1) := by decide +kernel
theorem dL_law_678 : decode cL_law 678 = .ok (.iaload, 1) := by decide +kernel
theorem dL_law_679 : decode cL_law 679 = .ok (.aload_n 3, 1) := by decide +kernel
theorem dL_law_680 : decode cL_law 680 = .ok (.invokestatic 106, 3) := by decide +kernel
theorem dL_law_683 : decode cL_law 683 = .ok (.istore 5, 2) := by decide +kernel
theorem dL_law_685 : decode cL_law 685 = .ok (.aload_n 2, 1) := by decide +kernel
theorem dL_law_686 : decode cL_law 686 = .ok (.aload_n 0, 1) := by decide +kernel
theorem dL_law_687 : decode cL_law 687 = .ok (.iload 4, 2) := by decide +kernel
theorem dL_law_689 : decode cL_law 689 = .ok (.iconst 1, 1) := by decide +kernel
theorem dL_law_690 : decode cL_law 690 = .ok (.iadd, 1) := by decide +kernel
theorem dL_law_691 : decode cL_law 691 = .ok (.iaload, 1) := by decide +kernel
theorem dL_law_692 : decode cL_law 692 = .ok (.aload_n 0, 1) := by decide +kernel
theorem dL_law_693 : decode cL_law 693 = .ok (.iload 4, 2) := by decide +kernel
theorem dL_law_695 : decode cL_law 695 = .ok (.iconst 2, 1) := by decide +kernel
theorem dL_law_696 : decode cL_law 696 = .ok (.iadd, 1) := by decide +kernel
theorem dL_law_697 : decode cL_law 697 = .ok (.iaload, 1) := by decide +kernel
theorem dL_law_698 : decode cL_law 698 = .ok (.invokevirtual 108, 3) := by decide +kernel
theorem dL_law_701 : decode cL_law 701 = .ok (.istore 6, 2) := by decide +kernel
theorem dL_law_703 : decode cL_law 703 = .ok (.goto 627, 3) := by decide +kernel
theorem dL_law_706 : decode cL_law 706 = .ok (.aload_n 1, 1) := by decide +kernel
theorem dL_law_707 : decode cL_law 707 = .ok (.aload_n 0, 1) := by decide +kernel
theorem dL_law_708 : decode cL_law 708 = .ok (.iload 4, 2) := by decide +kernel
theorem dL_law_710 : decode cL_law 710 = .ok (.iconst 1, 1) := by decide +kernel
theorem dL_law_711 : decode cL_law 711 = .ok (.iadd, 1) := by decide +kernel
theorem dL_law_712 : decode cL_law 712 = .ok (.iaload, 1) := by decide +kernel
theorem dL_law_713 : decode cL_law 713 = .ok (.aload_n 3, 1) := by decide +kernel
theorem dL_law_714 : decode cL_law 714 = .ok (.invokestatic 109, 3) := by decide +kernel
theorem dL_law_717 : decode cL_law 717 = .ok (.istore 5, 2) := by decide +kernel
theorem dL_law_719 : decode cL_law 719 = .ok (.aload_n 2, 1) := by decide +kernel
theorem dL_law_720 : decode cL_law 720 = .ok (.aload_n 0, 1) := by decide +kernel
theorem dL_law_721 : decode cL_law 721 = .ok (.iload 4, 2) := by decide +kernel
theorem dL_law_723 : decode cL_law 723 = .ok (.iconst 1, 1) := by decide +kernel
theorem dL_law_724 : decode cL_law 724 = .ok (.iadd, 1) := by decide +kernel
theorem dL_law_725 : decode cL_law 725 = .ok (.iaload, 1) := by decide +kernel
theorem dL_law_726 : decode cL_law 726 = .ok (.invokevirtual 111, 3) := by decide +kernel
theorem dL_law_729 : decode cL_law 729 = .ok (.istore 6, 2) := by decide +kernel
theorem dL_law_731 : decode cL_law 731 = .ok (.goto 599, 3) := by decide +kernel
theorem dL_law_734 : decode cL_law 734 = .ok (.aload_n 1, 1) := by decide +kernel
theorem dL_law_735 : decode cL_law 735 = .ok (.aload_n 0, 1) := by decide +kernel
theorem dL_law_736 : decode cL_law 736 = .ok (.iload 4, 2) := by decide +kernel
theorem dL_law_738 : decode cL_law 738 = .ok (.iconst 1, 1) := by decide +kernel
theorem dL_law_739 : decode cL_law 739 = .ok (.iadd, 1) := by decide +kernel
theorem dL_law_740 : decode cL_law 740 = .ok (.iaload, 1) := by decide +kernel
theorem dL_law_741 : decode cL_law 741 = .ok (.invokevirtual 112, 3) := by decide +kernel
theorem dL_law_744 : decode cL_law 744 = .ok (.pop, 1) := by decide +kernel
theorem dL_law_745 : decode cL_law 745 = .ok (.aload_n 2, 1) := by decide +kernel
theorem dL_law_746 : decode cL_law 746 = .ok (.aload_n 0, 1) := by decide +kernel
theorem dL_law_747 : decode cL_law 747 = .ok (.iload 4, 2) := by decide +kernel
theorem dL_law_749 : decode cL_law 749 = .ok (.iconst 1, 1) := by decide +kernel
theorem dL_law_750 : decode cL_law 750 = .ok (.iadd, 1) := by decide +kernel
theorem dL_law_751 : decode cL_law 751 = .ok (.iaload, 1) := by decide +kernel
theorem dL_law_752 : decode cL_law 752 = .ok (.invokevirtual 115, 3) := by decide +kernel
theorem dL_law_755 : decode cL_law 755 = .ok (.pop, 1) := by decide +kernel
theorem dL_law_756 : decode cL_law 756 = .ok (.goto 574, 3) := by decide +kernel
theorem dL_law_759 : decode cL_law 759 = .ok (.aload_n 1, 1) := by decide +kernel
theorem dL_law_760 : decode cL_law 760 = .ok (.aload_n 0, 1) := by decide +kernel
theorem dL_law_761 : decode cL_law 761 = .ok (.iload 4, 2) := by decide +kernel
theorem dL_law_763 : decode cL_law 763 = .ok (.iconst 1, 1) := by decide +kernel
theorem dL_law_764 : decode cL_law 764 = .ok (.iadd, 1) := by decide +kernel
theorem dL_law_765 : decode cL_law 765 = .ok (.iaload, 1) := by decide +kernel
theorem dL_law_766 : decode cL_law 766 = .ok (.aload_n 0, 1) := by decide +kernel
theorem dL_law_767 : decode cL_law 767 = .ok (.iload 4, 2) := by decide +kernel
theorem dL_law_769 : decode cL_law 769 = .ok (.iconst 2, 1) := by decide +kernel
theorem dL_law_770 : decode cL_law 770 = .ok (.iadd, 1) := by decide +kernel
theorem dL_law_771 : decode cL_law 771 = .ok (.iaload, 1) := by decide +kernel
theorem dL_law_772 : decode cL_law 772 = .ok (.aload_n 0, 1) := by decide +kernel
theorem dL_law_773 : decode cL_law 773 = .ok (.iload 4, 2) := by decide +kernel
theorem dL_law_775 : decode cL_law 775 = .ok (.iconst 3, 1) := by decide +kernel
theorem dL_law_776 : decode cL_law 776 = .ok (.iadd, 1) := by decide +kernel
theorem dL_law_777 : decode cL_law 777 = .ok (.iaload, 1) := by decide +kernel
theorem dL_law_778 : decode cL_law 778 = .ok (.aload_n 0, 1) := by decide +kernel
theorem dL_law_779 : decode cL_law 779 = .ok (.iload 4, 2) := by decide +kernel
theorem dL_law_781 : decode cL_law 781 = .ok (.iconst 4, 1) := by decide +kernel
theorem dL_law_782 : decode cL_law 782 = .ok (.iadd, 1) := by decide +kernel
theorem dL_law_783 : decode cL_law 783 = .ok (.iaload, 1) := by decide +kernel
theorem dL_law_784 : decode cL_law 784 = .ok (.invokevirtual 116, 3) := by decide +kernel
theorem dL_law_787 : decode cL_law 787 = .ok (.pop, 1) := by decide +kernel
theorem dL_law_788 : decode cL_law 788 = .ok (.aload_n 2, 1) := by decide +kernel
theorem dL_law_789 : decode cL_law 789 = .ok (.aload_n 0, 1) := by decide +kernel
theorem dL_law_790 : decode cL_law 790 = .ok (.iload 4, 2) := by decide +kernel
theorem dL_law_792 : decode cL_law 792 = .ok (.iconst 1, 1) := by decide +kernel
theorem dL_law_793 : decode cL_law 793 = .ok (.iadd, 1) := by decide +kernel
theorem dL_law_794 : decode cL_law 794 = .ok (.iaload, 1) := by decide +kernel
theorem dL_law_795 : decode cL_law 795 = .ok (.aload_n 0, 1) := by decide +kernel
theorem dL_law_796 : decode cL_law 796 = .ok (.iload 4, 2) := by decide +kernel
theorem dL_law_798 : decode cL_law 798 = .ok (.iconst 2, 1) := by decide +kernel
theorem dL_law_799 : decode cL_law 799 = .ok (.iadd, 1) := by decide +kernel
theorem dL_law_800 : decode cL_law 800 = .ok (.iaload, 1) := by decide +kernel
theorem dL_law_801 : decode cL_law 801 = .ok (.aload_n 0, 1) := by decide +kernel
theorem dL_law_802 : decode cL_law 802 = .ok (.iload 4, 2) := by decide +kernel
theorem dL_law_804 : decode cL_law 804 = .ok (.iconst 3, 1) := by decide +kernel
theorem dL_law_805 : decode cL_law 805 = .ok (.iadd, 1) := by decide +kernel
theorem dL_law_806 : decode cL_law 806 = .ok (.iaload, 1) := by decide +kernel
theorem dL_law_807 : decode cL_law 807 = .ok (.aload_n 0, 1) := by decide +kernel
theorem dL_law_808 : decode cL_law 808 = .ok (.iload 4, 2) := by decide +kernel
theorem dL_law_810 : decode cL_law 810 = .ok (.iconst 4, 1) := by decide +kernel
theorem dL_law_811 : decode cL_law 811 = .ok (.iadd, 1) := by decide +kernel
theorem dL_law_812 : decode cL_law 812 = .ok (.iaload, 1) := by decide +kernel
theorem dL_law_813 : decode cL_law 813 = .ok (.invokevirtual 120, 3) := by decide +kernel
theorem dL_law_816 : decode cL_law 816 = .ok (.pop, 1) := by decide +kernel
theorem dL_law_817 : decode cL_law 817 = .ok (.goto 513, 3) := by decide +kernel
theorem dL_law_820 : decode cL_law 820 = .ok (.aload_n 1, 1) := by decide +kernel
theorem dL_law_821 : decode cL_law 821 = .ok (.aload_n 0, 1) := by decide +kernel
theorem dL_law_822 : decode cL_law 822 = .ok (.iload 4, 2) := by decide +kernel
theorem dL_law_824 : decode cL_law 824 = .ok (.iconst 1, 1) := by decide +kernel
theorem dL_law_825 : decode cL_law 825 = .ok (.iadd, 1) := by decide +kernel
theorem dL_law_826 : decode cL_law 826 = .ok (.iaload, 1) := by decide +kernel
theorem dL_law_827 : decode cL_law 827 = .ok (.aload_n 0, 1) := by decide +kernel
theorem dL_law_828 : decode cL_law 828 = .ok (.iload 4, 2) := by decide +kernel
theorem dL_law_830 : decode cL_law 830 = .ok (.iconst 2, 1) := by decide +kernel
theorem dL_law_831 : decode cL_law 831 = .ok (.iadd, 1) := by decide +kernel
theorem dL_law_832 : decode cL_law 832 = .ok (.iaload, 1) := by decide +kernel
theorem dL_law_833 : decode cL_law 833 = .ok (.invokevirtual 121, 3) := by decide +kernel
theorem dL_law_836 : decode cL_law 836 = .ok (.pop, 1) := by decide +kernel
theorem dL_law_837 : decode cL_law 837 = .ok (.aload_n 2, 1) := by decide +kernel
theorem dL_law_838 : decode cL_law 838 = .ok (.aload_n 0, 1) := by decide +kernel
theorem dL_law_839 : decode cL_law 839 = .ok (.iload 4, 2) := by decide +kernel
theorem dL_law_841 : decode cL_law 841 = .ok (.iconst 1, 1) := by decide +kernel
theorem dL_law_842 : decode cL_law 842 = .ok (.iadd, 1) := by decide +kernel
theorem dL_law_843 : decode cL_law 843 = .ok (.iaload, 1) := by decide +kernel
theorem dL_law_844 : decode cL_law 844 = .ok (.aload_n 0, 1) := by decide +kernel
theorem dL_law_845 : decode cL_law 845 = .ok (.iload 4, 2) := by decide +kernel
theorem dL_law_847 : decode cL_law 847 = .ok (.iconst 2, 1) := by decide +kernel
theorem dL_law_848 : decode cL_law 848 = .ok (.iadd, 1) := by decide +kernel
theorem dL_law_849 : decode cL_law 849 = .ok (.iaload, 1) := by decide +kernel
theorem dL_law_850 : decode cL_law 850 = .ok (.invokevirtual 124, 3) := by decide +kernel
theorem dL_law_853 : decode cL_law 853 = .ok (.pop, 1) := by decide +kernel
theorem dL_law_854 : decode cL_law 854 = .ok (.goto 476, 3) := by decide +kernel
theorem dL_law_857 : decode cL_law 857 = .ok (.aload_n 1, 1) := by decide +kernel
theorem dL_law_858 : decode cL_law 858 = .ok (.aload_n 0, 1) := by decide +kernel
theorem dL_law_859 : decode cL_law 859 = .ok (.iload 4, 2) := by decide +kernel
theorem dL_law_861 : decode cL_law 861 = .ok (.iconst 1, 1) := by decide +kernel
theorem dL_law_862 : decode cL_law 862 = .ok (.iadd, 1) := by decide +kernel
theorem dL_law_863 : decode cL_law 863 = .ok (.iaload, 1) := by decide +kernel
theorem dL_law_864 : decode cL_law 864 = .ok (.invokevirtual 125, 3) := by decide +kernel
theorem dL_law_867 : decode cL_law 867 = .ok (.pop, 1) := by decide +kernel
theorem dL_law_868 : decode cL_law 868 = .ok (.aload_n 2, 1) := by decide +kernel
theorem dL_law_869 : decode cL_law 869 = .ok (.aload_n 0, 1) := by decide +kernel
theorem dL_law_870 : decode cL_law 870 = .ok (.iload 4, 2) := by decide +kernel
theorem dL_law_872 : decode cL_law 872 = .ok (.iconst 1, 1) := by decide +kernel
theorem dL_law_873 : decode cL_law 873 = .ok (.iadd, 1) := by decide +kernel
theorem dL_law_874 : decode cL_law 874 = .ok (.iaload, 1) := by decide +kernel
theorem dL_law_875 : decode cL_law 875 = .ok (.invokevirtual 128, 3) := by decide +kernel
theorem dL_law_878 : decode cL_law 878 = .ok (.pop, 1) := by decide +kernel
theorem dL_law_879 : decode cL_law 879 = .ok (.goto 451, 3) := by decide +kernel
theorem dL_law_882 : decode cL_law 882 = .ok (.aload_n 1, 1) := by decide +kernel
theorem dL_law_883 : decode cL_law 883 = .ok (.aload_n 0, 1) := by decide +kernel
theorem dL_law_884 : decode cL_law 884 = .ok (.iload 4, 2) := by decide +kernel
theorem dL_law_886 : decode cL_law 886 = .ok (.iconst 1, 1) := by decide +kernel
theorem dL_law_887 : decode cL_law 887 = .ok (.iadd, 1) := by decide +kernel
theorem dL_law_888 : decode cL_law 888 = .ok (.iaload, 1) := by decide +kernel
theorem dL_law_889 : decode cL_law 889 = .ok (.invokevirtual 129, 3) := by decide +kernel
theorem dL_law_892 : decode cL_law 892 = .ok (.pop, 1) := by decide +kernel
theorem dL_law_893 : decode cL_law 893 = .ok (.aload_n 2, 1) := by decide +kernel
theorem dL_law_894 : decode cL_law 894 = .ok (.aload_n 0, 1) := by decide +kernel
theorem dL_law_895 : decode cL_law 895 = .ok (.iload 4, 2) := by decide +kernel
theorem dL_law_897 : decode cL_law 897 = .ok (.iconst 1, 1) := by decide +kernel
theorem dL_law_898 : decode cL_law 898 = .ok (.iadd, 1) := by decide +kernel
theorem dL_law_899 : decode cL_law 899 = .ok (.iaload, 1) := by decide +kernel
theorem dL_law_900 : decode cL_law 900 = .ok (.invokevirtual 132, 3) := by decide +kernel
theorem dL_law_903 : decode cL_law 903 = .ok (.pop, 1) := by decide +kernel
theorem dL_law_904 : decode cL_law 904 = .ok (.goto 426, 3) := by decide +kernel
theorem dL_law_907 : decode cL_law 907 = .ok (.aload_n 1, 1) := by decide +kernel
theorem dL_law_908 : decode cL_law 908 = .ok (.aload_n 0, 1) := by decide +kernel
theorem dL_law_909 : decode cL_law 909 = .ok (.iload 4, 2) := by decide +kernel
theorem dL_law_911 : decode cL_law 911 = .ok (.iconst 1, 1) := by decide +kernel
theorem dL_law_912 : decode cL_law 912 = .ok (.iadd, 1) := by decide +kernel
theorem dL_law_913 : decode cL_law 913 = .ok (.iaload, 1) := by decide +kernel
theorem dL_law_914 : decode cL_law 914 = .ok (.aload_n 0, 1) := by decide +kernel
theorem dL_law_915 : decode cL_law 915 = .ok (.iload 4, 2) := by decide +kernel
theorem dL_law_917 : decode cL_law 917 = .ok (.iconst 2, 1) := by decide +kernel
theorem dL_law_918 : decode cL_law 918 = .ok (.iadd, 1) := by decide +kernel
theorem dL_law_919 : decode cL_law 919 = .ok (.iaload, 1) := by decide +kernel
theorem dL_law_920 : decode cL_law 920 = .ok (.invokevirtual 133, 3) := by decide +kernel
theorem dL_law_923 : decode cL_law 923 = .ok (.pop, 1) := by decide +kernel
theorem dL_law_924 : decode cL_law 924 = .ok (.aload_n 2, 1) := by decide +kernel
theorem dL_law_925 : decode cL_law 925 = .ok (.aload_n 0, 1) := by decide +kernel
theorem dL_law_926 : decode cL_law 926 = .ok (.iload 4, 2) := by decide +kernel
theorem dL_law_928 : decode cL_law 928 = .ok (.iconst 1, 1) := by decide +kernel
theorem dL_law_929 : decode cL_law 929 = .ok (.iadd, 1) := by decide +kernel
theorem dL_law_930 : decode cL_law 930 = .ok (.iaload, 1) := by decide +kernel
theorem dL_law_931 : decode cL_law 931 = .ok (.aload_n 0, 1) := by decide +kernel
theorem dL_law_932 : decode cL_law 932 = .ok (.iload 4, 2) := by decide +kernel
theorem dL_law_934 : decode cL_law 934 = .ok (.iconst 2, 1) := by decide +kernel
theorem dL_law_935 : decode cL_law 935 = .ok (.iadd, 1) := by decide +kernel
theorem dL_law_936 : decode cL_law 936 = .ok (.iaload, 1) := by decide +kernel
theorem dL_law_937 : decode cL_law 937 = .ok (.invokevirtual 136, 3) := by decide +kernel
theorem dL_law_940 : decode cL_law 940 = .ok (.pop, 1) := by decide +kernel
theorem dL_law_941 : decode cL_law 941 = .ok (.goto 389, 3) := by decide +kernel
theorem dL_law_944 : decode cL_law 944 = .ok (.aload_n 1, 1) := by decide +kernel
theorem dL_law_945 : decode cL_law 945 = .ok (.aload_n 0, 1) := by decide +kernel
theorem dL_law_946 : decode cL_law 946 = .ok (.iload 4, 2) := by decide +kernel
theorem dL_law_948 : decode cL_law 948 = .ok (.iconst 1, 1) := by decide +kernel
theorem dL_law_949 : decode cL_law 949 = .ok (.iadd, 1) := by decide +kernel
theorem dL_law_950 : decode cL_law 950 = .ok (.iaload, 1) := by decide +kernel
theorem dL_law_951 : decode cL_law 951 = .ok (.aload_n 0, 1) := by decide +kernel
theorem dL_law_952 : decode cL_law 952 = .ok (.iload 4, 2) := by decide +kernel
theorem dL_law_954 : decode cL_law 954 = .ok (.iconst 2, 1) := by decide +kernel
theorem dL_law_955 : decode cL_law 955 = .ok (.iadd, 1) := by decide +kernel
theorem dL_law_956 : decode cL_law 956 = .ok (.iaload, 1) := by decide +kernel
theorem dL_law_957 : decode cL_law 957 = .ok (.invokevirtual 137, 3) := by decide +kernel
theorem dL_law_960 : decode cL_law 960 = .ok (.pop, 1) := by decide +kernel
theorem dL_law_961 : decode cL_law 961 = .ok (.aload_n 2, 1) := by decide +kernel
theorem dL_law_962 : decode cL_law 962 = .ok (.aload_n 0, 1) := by decide +kernel
theorem dL_law_963 : decode cL_law 963 = .ok (.iload 4, 2) := by decide +kernel
theorem dL_law_965 : decode cL_law 965 = .ok (.iconst 1, 1) := by decide +kernel
theorem dL_law_966 : decode cL_law 966 = .ok (.iadd, 1) := by decide +kernel
theorem dL_law_967 : decode cL_law 967 = .ok (.iaload, 1) := by decide +kernel
theorem dL_law_968 : decode cL_law 968 = .ok (.aload_n 0, 1) := by decide +kernel
theorem dL_law_969 : decode cL_law 969 = .ok (.iload 4, 2) := by decide +kernel
theorem dL_law_971 : decode cL_law 971 = .ok (.iconst 2, 1) := by decide +kernel
theorem dL_law_972 : decode cL_law 972 = .ok (.iadd, 1) := by decide +kernel
theorem dL_law_973 : decode cL_law 973 = .ok (.iaload, 1) := by decide +kernel
theorem dL_law_974 : decode cL_law 974 = .ok (.invokevirtual 140, 3) := by decide +kernel
theorem dL_law_977 : decode cL_law 977 = .ok (.pop, 1) := by decide +kernel
theorem dL_law_978 : decode cL_law 978 = .ok (.goto 352, 3) := by decide +kernel
theorem dL_law_981 : decode cL_law 981 = .ok (.aload_n 1, 1) := by decide +kernel
theorem dL_law_982 : decode cL_law 982 = .ok (.aload_n 0, 1) := by decide +kernel
theorem dL_law_983 : decode cL_law 983 = .ok (.iload 4, 2) := by decide +kernel
theorem dL_law_985 : decode cL_law 985 = .ok (.iconst 1, 1) := by decide +kernel
theorem dL_law_986 : decode cL_law 986 = .ok (.iadd, 1) := by decide +kernel
theorem dL_law_987 : decode cL_law 987 = .ok (.iaload, 1) := by decide +kernel
theorem dL_law_988 : decode cL_law 988 = .ok (.aload_n 0, 1) := by decide +kernel
theorem dL_law_989 : decode cL_law 989 = .ok (.iload 4, 2) := by decide +kernel
theorem dL_law_991 : decode cL_law 991 = .ok (.iconst 2, 1) := by decide +kernel
theorem dL_law_992 : decode cL_law 992 = .ok (.iadd, 1) := by decide +kernel
theorem dL_law_993 : decode cL_law 993 = .ok (.iaload, 1) := by decide +kernel
theorem dL_law_994 : decode cL_law 994 = .ok (.invokevirtual 141, 3) := by decide +kernel
theorem dL_law_997 : decode cL_law 997 = .ok (.pop, 1) := by decide +kernel
theorem dL_law_998 : decode cL_law 998 = .ok (.aload_n 2, 1) := by decide +kernel
theorem dL_law_999 : decode cL_law 999 = .ok (.aload_n 0, 1) := by decide +kernel
theorem dL_law_1000 : decode cL_law 1000 = .ok (.iload 4, 2) := by decide +kernel
theorem dL_law_1002 : decode cL_law 1002 = .ok (.iconst 1, 1) := by decide +kernel
theorem dL_law_1003 : decode cL_law 1003 = .ok (.iadd, 1) := by decide +kernel
theorem dL_law_1004 : decode cL_law 1004 = .ok (.iaload, 1) := by decide +kernel
theorem dL_law_1005 : decode cL_law 1005 = .ok (.aload_n 0, 1) := by decide +kernel
theorem dL_law_1006 : decode cL_law 1006 = .ok (.iload 4, 2) := by decide +kernel
theorem dL_law_1008 : decode cL_law 1008 = .ok (.iconst 2, 1) := by decide +kernel
theorem dL_law_1009 : decode cL_law 1009 = .ok (.iadd, 1) := by decide +kernel
theorem dL_law_1010 : decode cL_law 1010 = .ok (.iaload, 1) := by decide +kernel
theorem dL_law_1011 : decode cL_law 1011 = .ok (.invokevirtual 144, 3) := by decide +kernel
theorem dL_law_1014 : decode cL_law 1014 = .ok (.pop, 1) := by decide +kernel
theorem dL_law_1015 : decode cL_law 1015 = .ok (.goto 315, 3) := by decide +kernel
theorem dL_law_1018 : decode cL_law 1018 = .ok (.aload_n 1, 1) := by decide +kernel
theorem dL_law_1019 : decode cL_law 1019 = .ok (.aload_n 0, 1) := by decide +kernel
theorem dL_law_1020 : decode cL_law 1020 = .ok (.iload 4, 2) := by decide +kernel
theorem dL_law_1022 : decode cL_law 1022 = .ok (.iconst 1, 1) := by decide +kernel
theorem dL_law_1023 : decode cL_law 1023 = .ok (.iadd, 1) := by decide +kernel
theorem dL_law_1024 : decode cL_law 1024 = .ok (.iaload, 1) := by decide +kernel
theorem dL_law_1025 : decode cL_law 1025 = .ok (.invokevirtual 145, 3) := by decide +kernel
theorem dL_law_1028 : decode cL_law 1028 = .ok (.pop, 1) := by decide +kernel
theorem dL_law_1029 : decode cL_law 1029 = .ok (.aload_n 2, 1) := by decide +kernel
theorem dL_law_1030 : decode cL_law 1030 = .ok (.aload_n 0, 1) := by decide +kernel
theorem dL_law_1031 : decode cL_law 1031 = .ok (.iload 4, 2) := by decide +kernel
theorem dL_law_1033 : decode cL_law 1033 = .ok (.iconst 1, 1) := by decide +kernel
theorem dL_law_1034 : decode cL_law 1034 = .ok (.iadd, 1) := by decide +kernel
theorem dL_law_1035 : decode cL_law 1035 = .ok (.iaload, 1) := by decide +kernel
theorem dL_law_1036 : decode cL_law 1036 = .ok (.invokevirtual 148, 3) := by decide +kernel
theorem dL_law_1039 : decode cL_law 1039 = .ok (.pop, 1) := by decide +kernel
theorem dL_law_1040 : decode cL_law 1040 = .ok (.goto 290, 3) := by decide +kernel
theorem dL_law_1043 : decode cL_law 1043 = .ok (.aload_n 1, 1) := by decide +kernel
theorem dL_law_1044 : decode cL_law 1044 = .ok (.aload_n 0, 1) := by decide +kernel
theorem dL_law_1045 : decode cL_law 1045 = .ok (.iload 4, 2) := by decide +kernel
theorem dL_law_1047 : decode cL_law 1047 = .ok (.iconst 1, 1) := by decide +kernel
theorem dL_law_1048 : decode cL_law 1048 = .ok (.iadd, 1) := by decide +kernel
theorem dL_law_1049 : decode cL_law 1049 = .ok (.iaload, 1) := by decide +kernel
theorem dL_law_1050 : decode cL_law 1050 = .ok (.aload_n 0, 1) := by decide +kernel
theorem dL_law_1051 : decode cL_law 1051 = .ok (.iload 4, 2) := by decide +kernel
theorem dL_law_1053 : decode cL_law 1053 = .ok (.iconst 2, 1) := by decide +kernel
theorem dL_law_1054 : decode cL_law 1054 = .ok (.iadd, 1) := by decide +kernel
theorem dL_law_1055 : decode cL_law 1055 = .ok (.iaload, 1) := by decide +kernel
theorem dL_law_1056 : decode cL_law 1056 = .ok (.aload_n 0, 1) := by decide +kernel
theorem dL_law_1057 : decode cL_law 1057 = .ok (.iload 4, 2) := by decide +kernel
theorem dL_law_1059 : decode cL_law 1059 = .ok (.iconst 3, 1) := by decide +kernel
theorem dL_law_1060 : decode cL_law 1060 = .ok (.iadd, 1) := by decide +kernel
theorem dL_law_1061 : decode cL_law 1061 = .ok (.iaload, 1) := by decide +kernel
theorem dL_law_1062 : decode cL_law 1062 = .ok (.invokevirtual 149, 3) := by decide +kernel
theorem dL_law_1065 : decode cL_law 1065 = .ok (.pop, 1) := by decide +kernel
theorem dL_law_1066 : decode cL_law 1066 = .ok (.aload_n 2, 1) := by decide +kernel
theorem dL_law_1067 : decode cL_law 1067 = .ok (.aload_n 0, 1) := by decide +kernel
theorem dL_law_1068 : decode cL_law 1068 = .ok (.iload 4, 2) := by decide +kernel
theorem dL_law_1070 : decode cL_law 1070 = .ok (.iconst 1, 1) := by decide +kernel
theorem dL_law_1071 : decode cL_law 1071 = .ok (.iadd, 1) := by decide +kernel
theorem dL_law_1072 : decode cL_law 1072 = .ok (.iaload, 1) := by decide +kernel
theorem dL_law_1073 : decode cL_law 1073 = .ok (.aload_n 0, 1) := by decide +kernel
theorem dL_law_1074 : decode cL_law 1074 = .ok (.iload 4, 2) := by decide +kernel
theorem dL_law_1076 : decode cL_law 1076 = .ok (.iconst 2, 1) := by decide +kernel
theorem dL_law_1077 : decode cL_law 1077 = .ok (.iadd, 1) := by decide +kernel
theorem dL_law_1078 : decode cL_law 1078 = .ok (.iaload, 1) := by decide +kernel
theorem dL_law_1079 : decode cL_law 1079 = .ok (.aload_n 0, 1) := by decide +kernel
theorem dL_law_1080 : decode cL_law 1080 = .ok (.iload 4, 2) := by decide +kernel
theorem dL_law_1082 : decode cL_law 1082 = .ok (.iconst 3, 1) := by decide +kernel
theorem dL_law_1083 : decode cL_law 1083 = .ok (.iadd, 1) := by decide +kernel
theorem dL_law_1084 : decode cL_law 1084 = .ok (.iaload, 1) := by decide +kernel
theorem dL_law_1085 : decode cL_law 1085 = .ok (.invokevirtual 152, 3) := by decide +kernel
theorem dL_law_1088 : decode cL_law 1088 = .ok (.pop, 1) := by decide +kernel
theorem dL_law_1089 : decode cL_law 1089 = .ok (.goto 241, 3) := by decide +kernel
theorem dL_law_1092 : decode cL_law 1092 = .ok (.aload_n 1, 1) := by decide +kernel
theorem dL_law_1093 : decode cL_law 1093 = .ok (.aload_n 0, 1) := by decide +kernel
theorem dL_law_1094 : decode cL_law 1094 = .ok (.iload 4, 2) := by decide +kernel
theorem dL_law_1096 : decode cL_law 1096 = .ok (.iconst 1, 1) := by decide +kernel
theorem dL_law_1097 : decode cL_law 1097 = .ok (.iadd, 1) := by decide +kernel
theorem dL_law_1098 : decode cL_law 1098 = .ok (.iaload, 1) := by decide +kernel
theorem dL_law_1099 : decode cL_law 1099 = .ok (.aload_n 0, 1) := by decide +kernel
theorem dL_law_1100 : decode cL_law 1100 = .ok (.iload 4, 2) := by decide +kernel
theorem dL_law_1102 : decode cL_law 1102 = .ok (.iconst 2, 1) := by decide +kernel
theorem dL_law_1103 : decode cL_law 1103 = .ok (.iadd, 1) := by decide +kernel
theorem dL_law_1104 : decode cL_law 1104 = .ok (.iaload, 1) := by decide +kernel
theorem dL_law_1105 : decode cL_law 1105 = .ok (.invokevirtual 153, 3) := by decide +kernel
theorem dL_law_1108 : decode cL_law 1108 = .ok (.pop, 1) := by decide +kernel
theorem dL_law_1109 : decode cL_law 1109 = .ok (.aload_n 2, 1) := by decide +kernel
theorem dL_law_1110 : decode cL_law 1110 = .ok (.aload_n 0, 1) := by decide +kernel
theorem dL_law_1111 : decode cL_law 1111 = .ok (.iload 4, 2) := by decide +kernel
theorem dL_law_1113 : decode cL_law 1113 = .ok (.iconst 1, 1) := by decide +kernel
theorem dL_law_1114 : decode cL_law 1114 = .ok (.iadd, 1) := by decide +kernel
theorem dL_law_1115 : decode cL_law 1115 = .ok (.iaload, 1) := by decide +kernel
theorem dL_law_1116 : decode cL_law 1116 = .ok (.aload_n 0, 1) := by decide +kernel
theorem dL_law_1117 : decode cL_law 1117 = .ok (.iload 4, 2) := by decide +kernel
theorem dL_law_1119 : decode cL_law 1119 = .ok (.iconst 2, 1) := by decide +kernel
theorem dL_law_1120 : decode cL_law 1120 = .ok (.iadd, 1) := by decide +kernel
theorem dL_law_1121 : decode cL_law 1121 = .ok (.iaload, 1) := by decide +kernel
theorem dL_law_1122 : decode cL_law 1122 = .ok (.invokevirtual 156, 3) := by decide +kernel
theorem dL_law_1125 : decode cL_law 1125 = .ok (.pop, 1) := by decide +kernel
theorem dL_law_1126 : decode cL_law 1126 = .ok (.goto 204, 3) := by decide +kernel
theorem dL_law_1129 : decode cL_law 1129 = .ok (.aload_n 1, 1) := by decide +kernel
theorem dL_law_1130 : decode cL_law 1130 = .ok (.aload_n 0, 1) := by decide +kernel
theorem dL_law_1131 : decode cL_law 1131 = .ok (.iload 4, 2) := by decide +kernel
theorem dL_law_1133 : decode cL_law 1133 = .ok (.iconst 1, 1) := by decide +kernel
theorem dL_law_1134 : decode cL_law 1134 = .ok (.iadd, 1) := by decide +kernel
theorem dL_law_1135 : decode cL_law 1135 = .ok (.iaload, 1) := by decide +kernel
theorem dL_law_1136 : decode cL_law 1136 = .ok (.invokevirtual 157, 3) := by decide +kernel
theorem dL_law_1139 : decode cL_law 1139 = .ok (.pop, 1) := by decide +kernel
theorem dL_law_1140 : decode cL_law 1140 = .ok (.aload_n 2, 1) := by decide +kernel
theorem dL_law_1141 : decode cL_law 1141 = .ok (.aload_n 0, 1) := by decide +kernel
theorem dL_law_1142 : decode cL_law 1142 = .ok (.iload 4, 2) := by decide +kernel
theorem dL_law_1144 : decode cL_law 1144 = .ok (.iconst 1, 1) := by decide +kernel
theorem dL_law_1145 : decode cL_law 1145 = .ok (.iadd, 1) := by decide +kernel
theorem dL_law_1146 : decode cL_law 1146 = .ok (.iaload, 1) := by decide +kernel
theorem dL_law_1147 : decode cL_law 1147 = .ok (.invokevirtual 160, 3) := by decide +kernel
theorem dL_law_1150 : decode cL_law 1150 = .ok (.pop, 1) := by decide +kernel
theorem dL_law_1151 : decode cL_law 1151 = .ok (.goto 179, 3) := by decide +kernel
theorem dL_law_1154 : decode cL_law 1154 = .ok (.aload_n 1, 1) := by decide +kernel
theorem dL_law_1155 : decode cL_law 1155 = .ok (.aload_n 0, 1) := by decide +kernel
theorem dL_law_1156 : decode cL_law 1156 = .ok (.iload 4, 2) := by decide +kernel
theorem dL_law_1158 : decode cL_law 1158 = .ok (.iconst 1, 1) := by decide +kernel
theorem dL_law_1159 : decode cL_law 1159 = .ok (.iadd, 1) := by decide +kernel
theorem dL_law_1160 : decode cL_law 1160 = .ok (.iaload, 1) := by decide +kernel
theorem dL_law_1161 : decode cL_law 1161 = .ok (.invokevirtual 161, 3) := by decide +kernel
theorem dL_law_1164 : decode cL_law 1164 = .ok (.pop, 1) := by decide +kernel
theorem dL_law_1165 : decode cL_law 1165 = .ok (.aload_n 2, 1) := by decide +kernel
theorem dL_law_1166 : decode cL_law 1166 = .ok (.aload_n 0, 1) := by decide +kernel
theorem dL_law_1167 : decode cL_law 1167 = .ok (.iload 4, 2) := by decide +kernel
theorem dL_law_1169 : decode cL_law 1169 = .ok (.iconst 1, 1) := by decide +kernel
