theorem dX12_match_38 : decode cX12_match 38 = .ok (.iconst 3, 1) := by decide +kernel
theorem dX12_match_39 : decode cX12_match 39 = .ok (.iconst 0, 1) := by decide +kernel
theorem dX12_match_40 : decode cX12_match 40 = .ok (.invokevirtual 391, 3) := by decide +kernel
theorem dX12_match_43 : decode cX12_match 43 = .ok (.ireturn, 1) := by decide +kernel
theorem dX12_match_44 : decode cX12_match 44 = .ok (.aload_n 0, 1) := by decide +kernel
theorem dX12_match_45 : decode cX12_match 45 = .ok (.invokevirtual 400, 3) := by decide +kernel
theorem dX12_match_48 : decode cX12_match 48 = .ok (.iconst 0, 1) := by decide +kernel
theorem dX12_match_49 : decode cX12_match 49 = .ok (.istore_n 3, 1) := by decide +kernel
theorem dX12_match_50 : decode cX12_match 50 = .ok (.iload_n 3, 1) := by decide +kernel
theorem dX12_match_51 : decode cX12_match 51 = .ok (.bipush 8, 2) := by decide +kernel
theorem dX12_match_53 : decode cX12_match 53 = .ok (.if_icmp .ge 25, 3) := by decide +kernel
theorem dX12_match_56 : decode cX12_match 56 = .ok (.aload_n 0, 1) := by decide +kernel
theorem dX12_match_57 : decode cX12_match 57 = .ok (.getfield 9, 3) := by decide +kernel
theorem dX12_match_60 : decode cX12_match 60 = .ok (.iconst 1, 1) := by decide +kernel
theorem dX12_match_61 : decode cX12_match 61 = .ok (.iload_n 3, 1) := by decide +kernel
theorem dX12_match_62 : decode cX12_match 62 = .ok (.iadd, 1) := by decide +kernel
theorem dX12_match_63 : decode cX12_match 63 = .ok (.aload_n 0, 1) := by decide +kernel
theorem dX12_match_64 : decode cX12_match 64 = .ok (.getfield 41, 3) := by decide +kernel
theorem dX12_match_67 : decode cX12_match 67 = .ok (.iload_n 3, 1) := by decide +kernel
theorem dX12_match_68 : decode cX12_match 68 = .ok (.iaload, 1) := by decide +kernel
theorem dX12_match_69 : decode cX12_match 69 = .ok (.iconst 1, 1) := by decide +kernel
theorem dX12_match_70 : decode cX12_match 70 = .ok (.iadd, 1) := by decide +kernel
theorem dX12_match_71 : decode cX12_match 71 = .ok (.iastore, 1) := by decide +kernel
theorem dX12_match_72 : decode cX12_match 72 = .ok (.iinc 3 1, 3) := by decide +kernel
theorem dX12_match_75 : decode cX12_match 75 = .ok (.goto (-25), 3) := by decide +kernel
theorem dX12_match_78 : decode cX12_match 78 = .ok (.aload_n 0, 1) := by decide +kernel
theorem dX12_match_79 : decode cX12_match 79 = .ok (.iconst 1, 1) := by decide +kernel
theorem dX12_match_80 : decode cX12_match 80 = .ok (.invokevirtual 403, 3) := by decide +kernel
theorem dX12_match_83 : decode cX12_match 83 = .ok (.ireturn, 1) := by decide +kernel
theorem dX12_common_0 : decode cX12_common 0 = .ok (.aload_n 0, 1) := by decide +kernel
theorem dX12_common_1 : decode cX12_common 1 = .ok (.iconst 0, 1) := by decide +kernel
theorem dX12_common_2 : decode cX12_common 2 = .ok (.putfield 68, 3) := by decide +kernel
theorem dX12_common_5 : decode cX12_common 5 = .ok (.aload_n 0, 1) := by decide +kernel
theorem dX12_common_6 : decode cX12_common 6 = .ok (.iload_n 1, 1) := by decide +kernel
theorem dX12_common_7 : decode cX12_common 7 = .ok (.invokevirtual 376, 3) := by decide +kernel
theorem dX12_common_10 : decode cX12_common 10 = .ok (.ifCond .eq 11, 3) := by decide +kernel
theorem dX12_common_13 : decode cX12_common 13 = .ok (.aload_n 0, 1) := by decide +kernel
theorem dX12_common_14 : decode cX12_common 14 = .ok (.iload_n 2, 1) := by decide +kernel
theorem dX12_common_15 : decode cX12_common 15 = .ok (.invokevirtual 376, 3) := by decide +kernel
theorem dX12_common_18 : decode cX12_common 18 = .ok (.ifCond .ne 10, 3) := by decide +kernel
theorem dX12_common_21 : decode cX12_common 21 = .ok (.aload_n 0, 1) := by decide +kernel
theorem dX12_common_22 : decode cX12_common 22 = .ok (.iconst 1, 1) := by decide +kernel
theorem dX12_common_23 : decode cX12_common 23 = .ok (.iconst (-1), 1) := by decide +kernel
theorem dX12_common_24 : decode cX12_common 24 = .ok (.invokevirtual 391, 3) := by decide +kernel
theorem dX12_common_27 : decode cX12_common 27 = .ok (.ireturn, 1) := by decide +kernel
theorem dX12_common_28 : decode cX12_common 28 = .ok (.aload_n 0, 1) := by decide +kernel
theorem dX12_common_29 : decode cX12_common 29 = .ok (.invokevirtual 400, 3) := by decide +kernel
theorem dX12_common_32 : decode cX12_common 32 = .ok (.aload_n 0, 1) := by decide +kernel
theorem dX12_common_33 : decode cX12_common 33 = .ok (.iconst 0, 1) := by decide +kernel
theorem dX12_common_34 : decode cX12_common 34 = .ok (.putfield 192, 3) := by decide +kernel
theorem dX12_common_37 : decode cX12_common 37 = .ok (.aload_n 0, 1) := by decide +kernel
theorem dX12_common_38 : decode cX12_common 38 = .ok (.iload_n 1, 1) := by decide +kernel
theorem dX12_common_39 : decode cX12_common 39 = .ok (.iload_n 2, 1) := by decide +kernel
theorem dX12_common_40 : decode cX12_common 40 = .ok (.invokevirtual 201, 3) := by decide +kernel
theorem dX12_common_43 : decode cX12_common 43 = .ok (.istore_n 3, 1) := by decide +kernel
theorem dX12_common_44 : decode cX12_common 44 = .ok (.aload_n 0, 1) := by decide +kernel
theorem dX12_common_45 : decode cX12_common 45 = .ok (.getfield 92, 3) := by decide +kernel
theorem dX12_common_48 : decode cX12_common 48 = .ok (.ifCond .ne 20, 3) := by decide +kernel
theorem dX12_common_51 : decode cX12_common 51 = .ok (.aload_n 0, 1) := by decide +kernel
theorem dX12_common_52 : decode cX12_common 52 = .ok (.getfield 195, 3) := by decide +kernel
theorem dX12_common_55 : decode cX12_common 55 = .ok (.ifCond .eq 13, 3) := by decide +kernel
theorem dX12_common_58 : decode cX12_common 58 = .ok (.aload_n 0, 1) := by decide +kernel
theorem dX12_common_59 : decode cX12_common 59 = .ok (.iconst 3, 1) := by decide +kernel
theorem dX12_common_60 : decode cX12_common 60 = .ok (.bipush (-2), 2) := by decide +kernel
theorem dX12_common_62 : decode cX12_common 62 = .ok (.invokevirtual 394, 3) := by decide +kernel
theorem dX12_common_65 : decode cX12_common 65 = .ok (.goto 8, 3) := by decide +kernel
theorem dX12_common_68 : decode cX12_common 68 = .ok (.aload_n 0, 1) := by decide +kernel
theorem dX12_common_69 : decode cX12_common 69 = .ok (.iload_n 3, 1) := by decide +kernel
theorem dX12_common_70 : decode cX12_common 70 = .ok (.invokevirtual 403, 3) := by decide +kernel
theorem dX12_common_73 : decode cX12_common 73 = .ok (.ireturn, 1) := by decide +kernel
theorem dX12_normal_0 : decode cX12_normal 0 = .ok (.aload_n 0, 1) := by decide +kernel
theorem dX12_normal_1 : decode cX12_normal 1 = .ok (.iconst 0, 1) := by decide +kernel
theorem dX12_normal_2 : decode cX12_normal 2 = .ok (.putfield 68, 3) := by decide +kernel
theorem dX12_normal_5 : decode cX12_normal 5 = .ok (.aload_n 0, 1) := by decide +kernel
theorem dX12_normal_6 : decode cX12_normal 6 = .ok (.iload_n 1, 1) := by decide +kernel
theorem dX12_normal_7 : decode cX12_normal 7 = .ok (.invokevirtual 376, 3) := by decide +kernel
theorem dX12_normal_10 : decode cX12_normal 10 = .ok (.ifCond .ne 10, 3) := by decide +kernel
theorem dX12_normal_13 : decode cX12_normal 13 = .ok (.aload_n 0, 1) := by decide +kernel
theorem dX12_normal_14 : decode cX12_normal 14 = .ok (.iconst 1, 1) := by decide +kernel
theorem dX12_normal_15 : decode cX12_normal 15 = .ok (.iconst (-1), 1) := by decide +kernel
theorem dX12_normal_16 : decode cX12_normal 16 = .ok (.invokevirtual 391, 3) := by decide +kernel
theorem dX12_normal_19 : decode cX12_normal 19 = .ok (.ireturn, 1) := by decide +kernel
theorem dX12_normal_20 : decode cX12_normal 20 = .ok (.aload_n 0, 1) := by decide +kernel
theorem dX12_normal_21 : decode cX12_normal 21 = .ok (.invokevirtual 400, 3) := by decide +kernel
theorem dX12_normal_24 : decode cX12_normal 24 = .ok (.aload_n 0, 1) := by decide +kernel
theorem dX12_normal_25 : decode cX12_normal 25 = .ok (.iload_n 1, 1) := by decide +kernel
theorem dX12_normal_26 : decode cX12_normal 26 = .ok (.invokevirtual 221, 3) := by decide +kernel
theorem dX12_normal_29 : decode cX12_normal 29 = .ok (.istore_n 2, 1) := by decide +kernel
theorem dX12_normal_30 : decode cX12_normal 30 = .ok (.aload_n 0, 1) := by decide +kernel
theorem dX12_normal_31 : decode cX12_normal 31 = .ok (.getfield 208, 3) := by decide +kernel
theorem dX12_normal_34 : decode cX12_normal 34 = .ok (.bipush 100, 2) := by decide +kernel
theorem dX12_normal_36 : decode cX12_normal 36 = .ok (.if_icmp .le 13, 3) := by decide +kernel
theorem dX12_normal_39 : decode cX12_normal 39 = .ok (.aload_n 0, 1) := by decide +kernel
theorem dX12_normal_40 : decode cX12_normal 40 = .ok (.iconst 2, 1) := by decide +kernel
theorem dX12_normal_41 : decode cX12_normal 41 = .ok (.bipush (-2), 2) := by decide +kernel
theorem dX12_normal_43 : decode cX12_normal 43 = .ok (.invokevirtual 394, 3) := by decide +kernel
theorem dX12_normal_46 : decode cX12_normal 46 = .ok (.goto 8, 3) := by decide +kernel
theorem dX12_normal_49 : decode cX12_normal 49 = .ok (.aload_n 0, 1) := by decide +kernel
theorem dX12_normal_50 : decode cX12_normal 50 = .ok (.iload_n 2, 1) := by decide +kernel
theorem dX12_normal_51 : decode cX12_normal 51 = .ok (.invokevirtual 403, 3) := by decide +kernel
theorem dX12_normal_54 : decode cX12_normal 54 = .ok (.ireturn, 1) := by decide +kernel
theorem dX12_withPut_0 : decode cX12_withPut 0 = .ok (.iload_n 2, 1) := by decide +kernel
theorem dX12_withPut_1 : decode cX12_withPut 1 = .ok (.ifCond .ne 5, 3) := by decide +kernel
theorem dX12_withPut_4 : decode cX12_withPut 4 = .ok (.iload_n 3, 1) := by decide +kernel
theorem dX12_withPut_5 : decode cX12_withPut 5 = .ok (.ireturn, 1) := by decide +kernel
theorem dX12_withPut_6 : decode cX12_withPut 6 = .ok (.iload_n 2, 1) := by decide +kernel
theorem dX12_withPut_7 : decode cX12_withPut 7 = .ok (.iconst 1, 1) := by decide +kernel
theorem dX12_withPut_8 : decode cX12_withPut 8 = .ok (.isub, 1) := by decide +kernel
theorem dX12_withPut_9 : decode cX12_withPut 9 = .ok (.istore 4, 2) := by decide +kernel
theorem dX12_withPut_11 : decode cX12_withPut 11 = .ok (.aload_n 0, 1) := by decide +kernel
theorem dX12_withPut_12 : decode cX12_withPut 12 = .ok (.iload_n 1, 1) := by decide +kernel
theorem dX12_withPut_13 : decode cX12_withPut 13 = .ok (.invokevirtual 415, 3) := by decide +kernel
theorem dX12_withPut_16 : decode cX12_withPut 16 = .ok (.astore 5, 2) := by decide +kernel
theorem dX12_withPut_18 : decode cX12_withPut 18 = .ok (.iconst 0, 1) := by decide +kernel
theorem dX12_withPut_19 : decode cX12_withPut 19 = .ok (.istore 6, 2) := by decide +kernel
theorem dX12_withPut_21 : decode cX12_withPut 21 = .ok (.iload 6, 2) := by decide +kernel
theorem dX12_withPut_23 : decode cX12_withPut 23 = .ok (.aload_n 0, 1) := by decide +kernel
theorem dX12_withPut_24 : decode cX12_withPut 24 = .ok (.iload_n 1, 1) := by decide +kernel
theorem dX12_withPut_25 : decode cX12_withPut 25 = .ok (.invokevirtual 111, 3) := by decide +kernel
theorem dX12_withPut_28 : decode cX12_withPut 28 = .ok (.if_icmp .ge 60, 3) := by decide +kernel
theorem dX12_withPut_31 : decode cX12_withPut 31 = .ok (.aload_n 0, 1) := by decide +kernel
theorem dX12_withPut_32 : decode cX12_withPut 32 = .ok (.aload_n 0, 1) := by decide +kernel
theorem dX12_withPut_33 : decode cX12_withPut 33 = .ok (.iload_n 1, 1) := by decide +kernel
theorem dX12_withPut_34 : decode cX12_withPut 34 = .ok (.iload 6, 2) := by decide +kernel
theorem dX12_withPut_36 : decode cX12_withPut 36 = .ok (.invokevirtual 88, 3) := by decide +kernel
theorem dX12_withPut_39 : decode cX12_withPut 39 = .ok (.invokevirtual 114, 3) := by decide +kernel
theorem dX12_withPut_42 : decode cX12_withPut 42 = .ok (.istore 7, 2) := by decide +kernel
theorem dX12_withPut_44 : decode cX12_withPut 44 = .ok (.iload 4, 2) := by decide +kernel
theorem dX12_withPut_46 : decode cX12_withPut 46 = .ok (.ifCond .lt 29, 3) := by decide +kernel
theorem dX12_withPut_49 : decode cX12_withPut 49 = .ok (.iload 4, 2) := by decide +kernel
theorem dX12_withPut_51 : decode cX12_withPut 51 = .ok (.iload 7, 2) := by decide +kernel
theorem dX12_withPut_53 : decode cX12_withPut 53 = .ok (.if_icmp .ge 22, 3) := by decide +kernel
theorem dX12_withPut_56 : decode cX12_withPut 56 = .ok (.aload 5, 2) := by decide +kernel
theorem dX12_withPut_58 : decode cX12_withPut 58 = .ok (.iload 6, 2) := by decide +kernel
theorem dX12_withPut_60 : decode cX12_withPut 60 = .ok (.aload_n 0, 1) := by decide +kernel
theorem dX12_withPut_61 : decode cX12_withPut 61 = .ok (.aload_n 0, 1) := by decide +kernel
theorem dX12_withPut_62 : decode cX12_withPut 62 = .ok (.iload_n 1, 1) := by decide +kernel
theorem dX12_withPut_63 : decode cX12_withPut 63 = .ok (.iload 6, 2) := by decide +kernel
theorem dX12_withPut_65 : decode cX12_withPut 65 = .ok (.invokevirtual 88, 3) := by decide +kernel
theorem dX12_withPut_68 : decode cX12_withPut 68 = .ok (.iload 4, 2) := by decide +kernel
theorem dX12_withPut_70 : decode cX12_withPut 70 = .ok (.iload_n 3, 1) := by decide +kernel
theorem dX12_withPut_71 : decode cX12_withPut 71 = .ok (.invokevirtual 419, 3) := by decide +kernel
theorem dX12_withPut_74 : decode cX12_withPut 74 = .ok (.iastore, 1) := by decide +kernel
theorem dX12_withPut_75 : decode cX12_withPut 75 = .ok (.iload 4, 2) := by decide +kernel
theorem dX12_withPut_77 : decode cX12_withPut 77 = .ok (.iload 7, 2) := by decide +kernel
theorem dX12_withPut_79 : decode cX12_withPut 79 = .ok (.isub, 1) := by decide +kernel
theorem dX12_withPut_80 : decode cX12_withPut 80 = .ok (.istore 4, 2) := by decide +kernel
theorem dX12_withPut_82 : decode cX12_withPut 82 = .ok (.iinc 6 1, 3) := by decide +kernel
theorem dX12_withPut_85 : decode cX12_withPut 85 = .ok (.goto (-64), 3) := by decide +kernel
theorem dX12_withPut_88 : decode cX12_withPut 88 = .ok (.aload_n 0, 1) := by decide +kernel
theorem dX12_withPut_89 : decode cX12_withPut 89 = .ok (.iload_n 1, 1) := by decide +kernel
theorem dX12_withPut_90 : decode cX12_withPut 90 = .ok (.aload 5, 2) := by decide +kernel
theorem dX12_withPut_92 : decode cX12_withPut 92 = .ok (.iconst 0, 1) := by decide +kernel
theorem dX12_withPut_93 : decode cX12_withPut 93 = .ok (.iaload, 1) := by decide +kernel
theorem dX12_withPut_94 : decode cX12_withPut 94 = .ok (.aload 5, 2) := by decide +kernel
theorem dX12_withPut_96 : decode cX12_withPut 96 = .ok (.iconst 1, 1) := by decide +kernel
theorem dX12_withPut_97 : decode cX12_withPut 97 = .ok (.iaload, 1) := by decide +kernel
theorem dX12_withPut_98 : decode cX12_withPut 98 = .ok (.aload 5, 2) := by decide +kernel
theorem dX12_withPut_100 : decode cX12_withPut 100 = .ok (.iconst 2, 1) := by decide +kernel
theorem dX12_withPut_101 : decode cX12_withPut 101 = .ok (.iaload, 1) := by decide +kernel
theorem dX12_withPut_102 : decode cX12_withPut 102 = .ok (.invokevirtual 152, 3) := by decide +kernel
theorem dX12_withPut_105 : decode cX12_withPut 105 = .ok (.ireturn, 1) := by decide +kernel
theorem dX12_parts_0 : decode cX12_parts 0 = .ok (.iconst 3, 1) := by decide +kernel
theorem dX12_parts_1 : decode cX12_parts 1 = .ok (.newarray .int, 2) := by decide +kernel
theorem dX12_parts_3 : decode cX12_parts 3 = .ok (.astore_n 2, 1) := by decide +kernel
theorem dX12_parts_4 : decode cX12_parts 4 = .ok (.iconst 0, 1) := by decide +kernel
theorem dX12_parts_5 : decode cX12_parts 5 = .ok (.istore_n 3, 1) := by decide +kernel
theorem dX12_parts_6 : decode cX12_parts 6 = .ok (.iload_n 3, 1) := by decide +kernel
theorem dX12_parts_7 : decode cX12_parts 7 = .ok (.aload_n 0, 1) := by decide +kernel
theorem dX12_parts_8 : decode cX12_parts 8 = .ok (.iload_n 1, 1) := by decide +kernel
theorem dX12_parts_9 : decode cX12_parts 9 = .ok (.invokevirtual 111, 3) := by decide +kernel
theorem dX12_parts_12 : decode cX12_parts 12 = .ok (.if_icmp .ge 18, 3) := by decide +kernel
theorem dX12_parts_15 : decode cX12_parts 15 = .ok (.aload_n 2, 1) := by decide +kernel
theorem dX12_parts_16 : decode cX12_parts 16 = .ok (.iload_n 3, 1) := by decide +kernel
theorem dX12_parts_17 : decode cX12_parts 17 = .ok (.aload_n 0, 1) := by decide +kernel
theorem dX12_parts_18 : decode cX12_parts 18 = .ok (.iload_n 1, 1) := by decide +kernel
theorem dX12_parts_19 : decode cX12_parts 19 = .ok (.iload_n 3, 1) := by decide +kernel
theorem dX12_parts_20 : decode cX12_parts 20 = .ok (.invokevirtual 88, 3) := by decide +kernel
theorem dX12_parts_23 : decode cX12_parts 23 = .ok (.iastore, 1) := by decide +kernel
theorem dX12_parts_24 : decode cX12_parts 24 = .ok (.iinc 3 1, 3) := by decide +kernel
theorem dX12_parts_27 : decode cX12_parts 27 = .ok (.goto (-21), 3) := by decide +kernel
theorem dX12_parts_30 : decode cX12_parts 30 = .ok (.aload_n 2, 1) := by decide +kernel
theorem dX12_parts_31 : decode cX12_parts 31 = .ok (.areturn, 1) := by decide +kernel
theorem dX12_put_0 : decode cX12_put 0 = .ok (.aload_n 0, 1) := by decide +kernel
theorem dX12_put_1 : decode cX12_put 1 = .ok (.iconst 0, 1) := by decide +kernel
theorem dX12_put_2 : decode cX12_put 2 = .ok (.putfield 68, 3) := by decide +kernel
theorem dX12_put_5 : decode cX12_put 5 = .ok (.aload_n 0, 1) := by decide +kernel
theorem dX12_put_6 : decode cX12_put 6 = .ok (.iload_n 1, 1) := by decide +kernel
theorem dX12_put_7 : decode cX12_put 7 = .ok (.invokevirtual 376, 3) := by decide +kernel
theorem dX12_put_10 : decode cX12_put 10 = .ok (.ifCond .eq 21, 3) := by decide +kernel
theorem dX12_put_13 : decode cX12_put 13 = .ok (.aload_n 0, 1) := by decide +kernel
theorem dX12_put_14 : decode cX12_put 14 = .ok (.iload_n 3, 1) := by decide +kernel
theorem dX12_put_15 : decode cX12_put 15 = .ok (.invokevirtual 376, 3) := by decide +kernel
theorem dX12_put_18 : decode cX12_put 18 = .ok (.ifCond .eq 13, 3) := by decide +kernel
theorem dX12_put_21 : decode cX12_put 21 = .ok (.aload_n 0, 1) := by decide +kernel
theorem dX12_put_22 : decode cX12_put 22 = .ok (.iload_n 1, 1) := by decide +kernel
theorem dX12_put_23 : decode cX12_put 23 = .ok (.iload_n 2, 1) := by decide +kernel
theorem dX12_put_24 : decode cX12_put 24 = .ok (.invokevirtual 139, 3) := by decide +kernel
theorem dX12_put_27 : decode cX12_put 27 = .ok (.iconst (-1), 1) := by decide +kernel
theorem dX12_put_28 : decode cX12_put 28 = .ok (.if_icmp .ne 10, 3) := by decide +kernel
theorem dX12_put_31 : decode cX12_put 31 = .ok (.aload_n 0, 1) := by decide +kernel
theorem dX12_put_32 : decode cX12_put 32 = .ok (.iconst 1, 1) := by decide +kernel
theorem dX12_put_33 : decode cX12_put 33 = .ok (.iconst (-1), 1) := by decide +kernel
theorem dX12_put_34 : decode cX12_put 34 = .ok (.invokevirtual 391, 3) := by decide +kernel
theorem dX12_put_37 : decode cX12_put 37 = .ok (.ireturn, 1) := by decide +kernel
theorem dX12_put_38 : decode cX12_put 38 = .ok (.aload_n 0, 1) := by decide +kernel
theorem dX12_put_39 : decode cX12_put 39 = .ok (.invokevirtual 400, 3) := by decide +kernel
theorem dX12_put_42 : decode cX12_put 42 = .ok (.aload_n 0, 1) := by decide +kernel
theorem dX12_put_43 : decode cX12_put 43 = .ok (.aload_n 0, 1) := by decide +kernel
theorem dX12_put_44 : decode cX12_put 44 = .ok (.iload_n 1, 1) := by decide +kernel
theorem dX12_put_45 : decode cX12_put 45 = .ok (.iload_n 2, 1) := by decide +kernel
theorem dX12_put_46 : decode cX12_put 46 = .ok (.iload_n 3, 1) := by decide +kernel
theorem dX12_put_47 : decode cX12_put 47 = .ok (.invokevirtual 419, 3) := by decide +kernel
theorem dX12_put_50 : decode cX12_put 50 = .ok (.invokevirtual 403, 3) := by decide +kernel
theorem dX12_put_53 : decode cX12_put 53 = .ok (.ireturn, 1) := by decide +kernel
theorem dX12_rules_0 : decode cX12_rules 0 = .ok (.aload_n 0, 1) := by decide +kernel
theorem dX12_rules_1 : decode cX12_rules 1 = .ok (.iconst 0, 1) := by decide +kernel
theorem dX12_rules_2 : decode cX12_rules 2 = .ok (.putfield 68, 3) := by decide +kernel
theorem dX12_rules_5 : decode cX12_rules 5 = .ok (.aload_n 0, 1) := by decide +kernel
theorem dX12_rules_6 : decode cX12_rules 6 = .ok (.iload_n 1, 1) := by decide +kernel
theorem dX12_rules_7 : decode cX12_rules 7 = .ok (.invokevirtual 376, 3) := by decide +kernel
theorem dX12_rules_10 : decode cX12_rules 10 = .ok (.ifCond .eq 32, 3) := by decide +kernel
theorem dX12_rules_13 : decode cX12_rules 13 = .ok (.aload_n 0, 1) := by decide +kernel
theorem dX12_rules_14 : decode cX12_rules 14 = .ok (.iload_n 2, 1) := by decide +kernel
theorem dX12_rules_15 : decode cX12_rules 15 = .ok (.invokevirtual 376, 3) := by decide +kernel
theorem dX12_rules_18 : decode cX12_rules 18 = .ok (.ifCond .eq 24, 3) := by decide +kernel
theorem dX12_rules_21 : decode cX12_rules 21 = .ok (.aload_n 0, 1) := by decide +kernel
theorem dX12_rules_22 : decode cX12_rules 22 = .ok (.getfield 9, 3) := by decide +kernel
theorem dX12_rules_25 : decode cX12_rules 25 = .ok (.bipush 9, 2) := by decide +kernel
theorem dX12_rules_27 : decode cX12_rules 27 = .ok (.iaload, 1) := by decide +kernel
theorem dX12_rules_28 : decode cX12_rules 28 = .ok (.bipush 8, 2) := by decide +kernel
theorem dX12_rules_30 : decode cX12_rules 30 = .ok (.if_icmp .eq 12, 3) := by decide +kernel
theorem dX12_rules_33 : decode cX12_rules 33 = .ok (.aload_n 0, 1) := by decide +kernel
theorem dX12_rules_34 : decode cX12_rules 34 = .ok (.iload_n 1, 1) := by decide +kernel
theorem dX12_rules_35 : decode cX12_rules 35 = .ok (.iload_n 2, 1) := by decide +kernel
theorem dX12_rules_36 : decode cX12_rules 36 = .ok (.invokevirtual 301, 3) := by decide +kernel
theorem dX12_rules_39 : decode cX12_rules 39 = .ok (.ifCond .ne 10, 3) := by decide +kernel
theorem dX12_rules_42 : decode cX12_rules 42 = .ok (.aload_n 0, 1) := by decide +kernel
theorem dX12_rules_43 : decode cX12_rules 43 = .ok (.iconst 1, 1) := by decide +kernel
theorem dX12_rules_44 : decode cX12_rules 44 = .ok (.iconst (-1), 1) := by decide +kernel
theorem dX12_rules_45 : decode cX12_rules 45 = .ok (.invokevirtual 391, 3) := by decide +kernel
theorem dX12_rules_48 : decode cX12_rules 48 = .ok (.ireturn, 1) := by decide +kernel
theorem dX12_rules_49 : decode cX12_rules 49 = .ok (.aload_n 0, 1) := by decide +kernel
theorem dX12_rules_50 : decode cX12_rules 50 = .ok (.invokevirtual 400, 3) := by decide +kernel
theorem dX12_rules_53 : decode cX12_rules 53 = .ok (.aload_n 0, 1) := by decide +kernel
theorem dX12_rules_54 : decode cX12_rules 54 = .ok (.iload_n 1, 1) := by decide +kernel
theorem dX12_rules_55 : decode cX12_rules 55 = .ok (.iload_n 2, 1) := by decide +kernel
theorem dX12_rules_56 : decode cX12_rules 56 = .ok (.invokevirtual 304, 3) := by decide +kernel
theorem dX12_rules_59 : decode cX12_rules 59 = .ok (.aload_n 0, 1) := by decide +kernel
theorem dX12_rules_60 : decode cX12_rules 60 = .ok (.getfield 9, 3) := by decide +kernel
theorem dX12_rules_63 : decode cX12_rules 63 = .ok (.bipush 40, 2) := by decide +kernel
theorem dX12_rules_65 : decode cX12_rules 65 = .ok (.iconst 0, 1) := by decide +kernel
theorem dX12_rules_66 : decode cX12_rules 66 = .ok (.iastore, 1) := by decide +kernel
theorem dX12_rules_67 : decode cX12_rules 67 = .ok (.aload_n 0, 1) := by decide +kernel
theorem dX12_rules_68 : decode cX12_rules 68 = .ok (.aload_n 0, 1) := by decide +kernel
theorem dX12_rules_69 : decode cX12_rules 69 = .ok (.getfield 9, 3) := by decide +kernel
theorem dX12_rules_72 : decode cX12_rules 72 = .ok (.bipush 9, 2) := by decide +kernel
theorem dX12_rules_74 : decode cX12_rules 74 = .ok (.iaload, 1) := by decide +kernel
theorem dX12_rules_75 : decode cX12_rules 75 = .ok (.invokevirtual 403, 3) := by decide +kernel
theorem dX12_rules_78 : decode cX12_rules 78 = .ok (.ireturn, 1) := by decide +kernel
theorem dX12_enter_0 : decode cX12_enter 0 = .ok (.aload_n 0, 1) := by decide +kernel
theorem dX12_enter_1 : decode cX12_enter 1 = .ok (.iconst 0, 1) := by decide +kernel
theorem dX12_enter_2 : decode cX12_enter 2 = .ok (.putfield 68, 3) := by decide +kernel
theorem dX12_enter_5 : decode cX12_enter 5 = .ok (.aload_n 0, 1) := by decide +kernel
theorem dX12_enter_6 : decode cX12_enter 6 = .ok (.iload_n 1, 1) := by decide +kernel
theorem dX12_enter_7 : decode cX12_enter 7 = .ok (.invokevirtual 376, 3) := by decide +kernel
theorem dX12_enter_10 : decode cX12_enter 10 = .ok (.ifCond .eq 24, 3) := by decide +kernel
theorem dX12_enter_13 : decode cX12_enter 13 = .ok (.aload_n 0, 1) := by decide +kernel
theorem dX12_enter_14 : decode cX12_enter 14 = .ok (.getfield 9, 3) := by decide +kernel
theorem dX12_enter_17 : decode cX12_enter 17 = .ok (.bipush 26, 2) := by decide +kernel
theorem dX12_enter_19 : decode cX12_enter 19 = .ok (.iaload, 1) := by decide +kernel
theorem dX12_enter_20 : decode cX12_enter 20 = .ok (.bipush 12, 2) := by decide +kernel
theorem dX12_enter_22 : decode cX12_enter 22 = .ok (.if_icmp .eq 12, 3) := by decide +kernel
theorem dX12_enter_25 : decode cX12_enter 25 = .ok (.aload_n 0, 1) := by decide +kernel
theorem dX12_enter_26 : decode cX12_enter 26 = .ok (.iload_n 1, 1) := by decide +kernel
theorem dX12_enter_27 : decode cX12_enter 27 = .ok (.invokevirtual 307, 3) := by decide +kernel
theorem dX12_enter_30 : decode cX12_enter 30 = .ok (.iconst (-1), 1) := by decide +kernel
theorem dX12_enter_31 : decode cX12_enter 31 = .ok (.if_icmp .eq 10, 3) := by decide +kernel
theorem dX12_enter_34 : decode cX12_enter 34 = .ok (.aload_n 0, 1) := by decide +kernel
theorem dX12_enter_35 : decode cX12_enter 35 = .ok (.iconst 1, 1) := by decide +kernel
theorem dX12_enter_36 : decode cX12_enter 36 = .ok (.iconst (-1), 1) := by decide +kernel
theorem dX12_enter_37 : decode cX12_enter 37 = .ok (.invokevirtual 391, 3) := by decide +kernel
theorem dX12_enter_40 : decode cX12_enter 40 = .ok (.ireturn, 1) := by decide +kernel
theorem dX12_enter_41 : decode cX12_enter 41 = .ok (.aload_n 0, 1) := by decide +kernel
theorem dX12_enter_42 : decode cX12_enter 42 = .ok (.invokevirtual 400, 3) := by decide +kernel
theorem dX12_enter_45 : decode cX12_enter 45 = .ok (.aload_n 0, 1) := by decide +kernel
theorem dX12_enter_46 : decode cX12_enter 46 = .ok (.iload_n 1, 1) := by decide +kernel
theorem dX12_enter_47 : decode cX12_enter 47 = .ok (.invokevirtual 310, 3) := by decide +kernel
theorem dX12_enter_50 : decode cX12_enter 50 = .ok (.aload_n 0, 1) := by decide +kernel
theorem dX12_enter_51 : decode cX12_enter 51 = .ok (.aload_n 0, 1) := by decide +kernel
theorem dX12_enter_52 : decode cX12_enter 52 = .ok (.getfield 9, 3) := by decide +kernel
theorem dX12_enter_55 : decode cX12_enter 55 = .ok (.bipush 26, 2) := by decide +kernel
theorem dX12_enter_57 : decode cX12_enter 57 = .ok (.iaload, 1) := by decide +kernel
theorem dX12_enter_58 : decode cX12_enter 58 = .ok (.invokevirtual 403, 3) := by decide +kernel
theorem dX12_enter_61 : decode cX12_enter 61 = .ok (.ireturn, 1) := by decide +kernel
theorem dX12_leave_0 : decode cX12_leave 0 = .ok (.aload_n 0, 1) := by decide +kernel
theorem dX12_leave_1 : decode cX12_leave 1 = .ok (.iconst 0, 1) := by decide +kernel
theorem dX12_leave_2 : decode cX12_leave 2 = .ok (.putfield 68, 3) := by decide +kernel
theorem dX12_leave_5 : decode cX12_leave 5 = .ok (.aload_n 0, 1) := by decide +kernel
theorem dX12_leave_6 : decode cX12_leave 6 = .ok (.iload_n 1, 1) := by decide +kernel
theorem dX12_leave_7 : decode cX12_leave 7 = .ok (.invokevirtual 376, 3) := by decide +kernel
theorem dX12_leave_10 : decode cX12_leave 10 = .ok (.ifCond .eq 11, 3) := by decide +kernel
theorem dX12_leave_13 : decode cX12_leave 13 = .ok (.aload_n 0, 1) := by decide +kernel
theorem dX12_leave_14 : decode cX12_leave 14 = .ok (.iload_n 1, 1) := by decide +kernel
theorem dX12_leave_15 : decode cX12_leave 15 = .ok (.invokevirtual 307, 3) := by decide +kernel
theorem dX12_leave_18 : decode cX12_leave 18 = .ok (.goto 4, 3) := by decide +kernel
theorem dX12_leave_21 : decode cX12_leave 21 = .ok (.iconst (-1), 1) := by decide +kernel
theorem dX12_leave_22 : decode cX12_leave 22 = .ok (.istore_n 2, 1) := by decide +kernel
theorem dX12_leave_23 : decode cX12_leave 23 = .ok (.iload_n 2, 1) := by decide +kernel
theorem dX12_leave_24 : decode cX12_leave 24 = .ok (.iconst (-1), 1) := by decide +kernel
theorem dX12_leave_25 : decode cX12_leave 25 = .ok (.if_icmp .ne 10, 3) := by decide +kernel
theorem dX12_leave_28 : decode cX12_leave 28 = .ok (.aload_n 0, 1) := by decide +kernel
theorem dX12_leave_29 : decode cX12_leave 29 = .ok (.iconst 1, 1) := by decide +kernel
theorem dX12_leave_30 : decode cX12_leave 30 = .ok (.iconst (-1), 1) := by decide +kernel
theorem dX12_leave_31 : decode cX12_leave 31 = .ok (.invokevirtual 391, 3) := by decide +kernel
theorem dX12_leave_34 : decode cX12_leave 34 = .ok (.ireturn, 1) := by decide +kernel
theorem dX12_leave_35 : decode cX12_leave 35 = .ok (.aload_n 0, 1) := by decide +kernel
theorem dX12_leave_36 : decode cX12_leave 36 = .ok (.invokevirtual 400, 3) := by decide +kernel
theorem dX12_leave_39 : decode cX12_leave 39 = .ok (.aload_n 0, 1) := by decide +kernel
theorem dX12_leave_40 : decode cX12_leave 40 = .ok (.getfield 9, 3) := by decide +kernel
theorem dX12_leave_43 : decode cX12_leave 43 = .ok (.bipush 26, 2) := by decide +kernel
theorem dX12_leave_45 : decode cX12_leave 45 = .ok (.dup2, 1) := by decide +kernel
theorem dX12_leave_46 : decode cX12_leave 46 = .ok (.iaload, 1) := by decide +kernel
theorem dX12_leave_47 : decode cX12_leave 47 = .ok (.iconst 1, 1) := by decide +kernel
theorem dX12_leave_48 : decode cX12_leave 48 = .ok (.isub, 1) := by decide +kernel
theorem dX12_leave_49 : decode cX12_leave 49 = .ok (.iastore, 1) := by decide +kernel
theorem dX12_leave_50 : decode cX12_leave 50 = .ok (.iload_n 2, 1) := by decide +kernel
theorem dX12_leave_51 : decode cX12_leave 51 = .ok (.istore_n 3, 1) := by decide +kernel
theorem dX12_leave_52 : decode cX12_leave 52 = .ok (.iload_n 3, 1) := by decide +kernel
theorem dX12_leave_53 : decode cX12_leave 53 = .ok (.aload_n 0, 1) := by decide +kernel
theorem dX12_leave_54 : decode cX12_leave 54 = .ok (.getfield 9, 3) := by decide +kernel
theorem dX12_leave_57 : decode cX12_leave 57 = .ok (.bipush 26, 2) := by decide +kernel
theorem dX12_leave_59 : decode cX12_leave 59 = .ok (.iaload, 1) := by decide +kernel
theorem dX12_leave_60 : decode cX12_leave 60 = .ok (.if_icmp .ge 29, 3) := by decide +kernel
theorem dX12_leave_63 : decode cX12_leave 63 = .ok (.aload_n 0, 1) := by decide +kernel
theorem dX12_leave_64 : decode cX12_leave 64 = .ok (.getfield 9, 3) := by decide +kernel
theorem dX12_leave_67 : decode cX12_leave 67 = .ok (.bipush 27, 2) := by decide +kernel
theorem dX12_leave_69 : decode cX12_leave 69 = .ok (.iload_n 3, 1) := by decide +kernel
theorem dX12_leave_70 : decode cX12_leave 70 = .ok (.iadd, 1) := by decide +kernel
theorem dX12_leave_71 : decode cX12_leave 71 = .ok (.aload_n 0, 1) := by decide +kernel
theorem dX12_leave_72 : decode cX12_leave 72 = .ok (.getfield 9, 3) := by decide +kernel
theorem dX12_leave_75 : decode cX12_leave 75 = .ok (.bipush 27, 2) := by decide +kernel
theorem dX12_leave_77 : decode cX12_leave 77 = .ok (.iload_n 3, 1) := by decide +kernel
theorem dX12_leave_78 : decode cX12_leave 78 = .ok (.iadd, 1) := by decide +kernel
theorem dX12_leave_79 : decode cX12_leave 79 = .ok (.iconst 1, 1) := by decide +kernel
theorem dX12_leave_80 : decode cX12_leave 80 = .ok (.iadd, 1) := by decide +kernel
theorem dX12_leave_81 : decode cX12_leave 81 = .ok (.iaload, 1) := by decide +kernel
theorem dX12_leave_82 : decode cX12_leave 82 = .ok (.iastore, 1) := by decide +kernel
theorem dX12_leave_83 : decode cX12_leave 83 = .ok (.iinc 3 1, 3) := by decide +kernel
theorem dX12_leave_86 : decode cX12_leave 86 = .ok (.goto (-34), 3) := by decide +kernel
theorem dX12_leave_89 : decode cX12_leave 89 = .ok (.aload_n 0, 1) := by decide +kernel
theorem dX12_leave_90 : decode cX12_leave 90 = .ok (.aload_n 0, 1) := by decide +kernel
theorem dX12_leave_91 : decode cX12_leave 91 = .ok (.getfield 9, 3) := by decide +kernel
theorem dX12_leave_94 : decode cX12_leave 94 = .ok (.bipush 26, 2) := by decide +kernel
theorem dX12_leave_96 : decode cX12_leave 96 = .ok (.iaload, 1) := by decide +kernel
theorem dX12_leave_97 : decode cX12_leave 97 = .ok (.invokevirtual 403, 3) := by decide +kernel
theorem dX12_leave_100 : decode cX12_leave 100 = .ok (.ireturn, 1) := by decide +kernel
theorem dX12_room_0 : decode cX12_room 0 = .ok (.aload_n 0, 1) := by decide +kernel
theorem dX12_room_1 : decode cX12_room 1 = .ok (.iconst 0, 1) := by decide +kernel
theorem dX12_room_2 : decode cX12_room 2 = .ok (.putfield 68, 3) := by decide +kernel
theorem dX12_room_5 : decode cX12_room 5 = .ok (.iload_n 1, 1) := by decide +kernel
theorem dX12_room_6 : decode cX12_room 6 = .ok (.iconst 0, 1) := by decide +kernel
theorem dX12_room_7 : decode cX12_room 7 = .ok (.bipush 9, 2) := by decide +kernel
theorem dX12_room_9 : decode cX12_room 9 = .ok (.invokestatic 283, 3) := by decide +kernel
theorem dX12_room_12 : decode cX12_room 12 = .ok (.ifCond .ne 10, 3) := by decide +kernel
theorem dX12_room_15 : decode cX12_room 15 = .ok (.aload_n 0, 1) := by decide +kernel
theorem dX12_room_16 : decode cX12_room 16 = .ok (.iconst 1, 1) := by decide +kernel
theorem dX12_room_17 : decode cX12_room 17 = .ok (.iconst (-1), 1) := by decide +kernel
theorem dX12_room_18 : decode cX12_room 18 = .ok (.invokevirtual 391, 3) := by decide +kernel
theorem dX12_room_21 : decode cX12_room 21 = .ok (.ireturn, 1) := by decide +kernel
theorem dX12_room_22 : decode cX12_room 22 = .ok (.aload_n 0, 1) := by decide +kernel
theorem dX12_room_23 : decode cX12_room 23 = .ok (.invokevirtual 400, 3) := by decide +kernel
theorem dX12_room_26 : decode cX12_room 26 = .ok (.aload_n 0, 1) := by decide +kernel
theorem dX12_room_27 : decode cX12_room 27 = .ok (.getfield 9, 3) := by decide +kernel
theorem dX12_room_30 : decode cX12_room 30 = .ok (.bipush 39, 2) := by decide +kernel
theorem dX12_room_32 : decode cX12_room 32 = .ok (.iaload, 1) := by decide +kernel
theorem dX12_room_33 : decode cX12_room 33 = .ok (.istore_n 2, 1) := by decide +kernel
theorem dX12_room_34 : decode cX12_room 34 = .ok (.aload_n 0, 1) := by decide +kernel
theorem dX12_room_35 : decode cX12_room 35 = .ok (.getfield 9, 3) := by decide +kernel
theorem dX12_room_38 : decode cX12_room 38 = .ok (.bipush 39, 2) := by decide +kernel
theorem dX12_room_40 : decode cX12_room 40 = .ok (.iload_n 1, 1) := by decide +kernel
theorem dX12_room_41 : decode cX12_room 41 = .ok (.iastore, 1) := by decide +kernel
theorem dX12_room_42 : decode cX12_room 42 = .ok (.aload_n 0, 1) := by decide +kernel
theorem dX12_room_43 : decode cX12_room 43 = .ok (.getfield 9, 3) := by decide +kernel
theorem dX12_room_46 : decode cX12_room 46 = .ok (.bipush 40, 2) := by decide +kernel
theorem dX12_room_48 : decode cX12_room 48 = .ok (.iconst 0, 1) := by decide +kernel
theorem dX12_room_49 : decode cX12_room 49 = .ok (.iastore, 1) := by decide +kernel
theorem dX12_room_50 : decode cX12_room 50 = .ok (.aload_n 0, 1) := by decide +kernel
theorem dX12_room_51 : decode cX12_room 51 = .ok (.iload_n 2, 1) := by decide +kernel
theorem dX12_room_52 : decode cX12_room 52 = .ok (.invokevirtual 403, 3) := by decide +kernel
theorem dX12_room_55 : decode cX12_room 55 = .ok (.ireturn, 1) := by decide +kernel
theorem dX12_drawOf_0 : decode cX12_drawOf 0 = .ok (.aload_n 0, 1) := by decide +kernel
theorem dX12_drawOf_1 : decode cX12_drawOf 1 = .ok (.aload_n 0, 1) := by decide +kernel
theorem dX12_drawOf_2 : decode cX12_drawOf 2 = .ok (.getfield 423, 3) := by decide +kernel
theorem dX12_drawOf_5 : decode cX12_drawOf 5 = .ok (.ldc_w 426, 3) := by decide +kernel
theorem dX12_drawOf_8 : decode cX12_drawOf 8 = .ok (.imul, 1) := by decide +kernel
theorem dX12_drawOf_9 : decode cX12_drawOf 9 = .ok (.sipush 12345, 3) := by decide +kernel
theorem dX12_drawOf_12 : decode cX12_drawOf 12 = .ok (.iadd, 1) := by decide +kernel
theorem dX12_drawOf_13 : decode cX12_drawOf 13 = .ok (.putfield 423, 3) := by decide +kernel
theorem dX12_drawOf_16 : decode cX12_drawOf 16 = .ok (.aload_n 0, 1) := by decide +kernel
theorem dX12_drawOf_17 : decode cX12_drawOf 17 = .ok (.getfield 423, 3) := by decide +kernel
theorem dX12_drawOf_20 : decode cX12_drawOf 20 = .ok (.bipush 16, 2) := by decide +kernel
theorem dX12_drawOf_22 : decode cX12_drawOf 22 = .ok (.ishr, 1) := by decide +kernel
theorem dX12_drawOf_23 : decode cX12_drawOf 23 = .ok (.sipush 32767, 3) := by decide +kernel
theorem dX12_drawOf_26 : decode cX12_drawOf 26 = .ok (.iand, 1) := by decide +kernel
theorem dX12_drawOf_27 : decode cX12_drawOf 27 = .ok (.iload_n 1, 1) := by decide +kernel
theorem dX12_drawOf_28 : decode cX12_drawOf 28 = .ok (.irem, 1) := by decide +kernel
theorem dX12_drawOf_29 : decode cX12_drawOf 29 = .ok (.ireturn, 1) := by decide +kernel
theorem dX12_drawn_0 : decode cX12_drawn 0 = .ok (.aload_n 0, 1) := by decide +kernel
theorem dX12_drawn_1 : decode cX12_drawn 1 = .ok (.bipush 8, 2) := by decide +kernel
theorem dX12_drawn_3 : decode cX12_drawn 3 = .ok (.invokevirtual 427, 3) := by decide +kernel
theorem dX12_drawn_6 : decode cX12_drawn 6 = .ok (.istore_n 2, 1) := by decide +kernel
theorem dX12_drawn_7 : decode cX12_drawn 7 = .ok (.iload_n 2, 1) := by decide +kernel
theorem dX12_drawn_8 : decode cX12_drawn 8 = .ok (.ifCond .eq 15, 3) := by decide +kernel
theorem dX12_drawn_11 : decode cX12_drawn 11 = .ok (.iload_n 1, 1) := by decide +kernel
theorem dX12_drawn_12 : decode cX12_drawn 12 = .ok (.iconst 1, 1) := by decide +kernel
theorem dX12_drawn_13 : decode cX12_drawn 13 = .ok (.if_icmp .eq 10, 3) := by decide +kernel
theorem dX12_drawn_16 : decode cX12_drawn 16 = .ok (.aload_n 0, 1) := by decide +kernel
theorem dX12_drawn_17 : decode cX12_drawn 17 = .ok (.getfield 347, 3) := by decide +kernel
theorem dX12_drawn_20 : decode cX12_drawn 20 = .ok (.ifCond .ne 13, 3) := by decide +kernel
theorem dX12_drawn_23 : decode cX12_drawn 23 = .ok (.aload_n 0, 1) := by decide +kernel
theorem dX12_drawn_24 : decode cX12_drawn 24 = .ok (.aload_n 0, 1) := by decide +kernel
theorem dX12_drawn_25 : decode cX12_drawn 25 = .ok (.iconst 3, 1) := by decide +kernel
theorem dX12_drawn_26 : decode cX12_drawn 26 = .ok (.invokevirtual 427, 3) := by decide +kernel
theorem dX12_drawn_29 : decode cX12_drawn 29 = .ok (.invokevirtual 180, 3) := by decide +kernel
theorem dX12_drawn_32 : decode cX12_drawn 32 = .ok (.ireturn, 1) := by decide +kernel
theorem dX12_drawn_33 : decode cX12_drawn 33 = .ok (.aload_n 0, 1) := by decide +kernel
theorem dX12_drawn_34 : decode cX12_drawn 34 = .ok (.aload_n 0, 1) := by decide +kernel
theorem dX12_drawn_35 : decode cX12_drawn 35 = .ok (.getfield 347, 3) := by decide +kernel
theorem dX12_drawn_38 : decode cX12_drawn 38 = .ok (.invokevirtual 427, 3) := by decide +kernel
theorem dX12_drawn_41 : decode cX12_drawn 41 = .ok (.istore_n 3, 1) := by decide +kernel
theorem dX12_drawn_42 : decode cX12_drawn 42 = .ok (.aload_n 0, 1) := by decide +kernel
theorem dX12_drawn_43 : decode cX12_drawn 43 = .ok (.getfield 25, 3) := by decide +kernel
theorem dX12_drawn_46 : decode cX12_drawn 46 = .ok (.iload_n 3, 1) := by decide +kernel
theorem dX12_drawn_47 : decode cX12_drawn 47 = .ok (.iaload, 1) := by decide +kernel
theorem dX12_drawn_48 : decode cX12_drawn 48 = .ok (.ifCond .le 13, 3) := by decide +kernel
theorem dX12_drawn_51 : decode cX12_drawn 51 = .ok (.aload_n 0, 1) := by decide +kernel
theorem dX12_drawn_52 : decode cX12_drawn 52 = .ok (.iload_n 1, 1) := by decide +kernel
theorem dX12_drawn_53 : decode cX12_drawn 53 = .ok (.iconst 1, 1) := by decide +kernel
theorem dX12_drawn_54 : decode cX12_drawn 54 = .ok (.isub, 1) := by decide +kernel
theorem dX12_drawn_55 : decode cX12_drawn 55 = .ok (.invokevirtual 430, 3) := by decide +kernel
theorem dX12_drawn_58 : decode cX12_drawn 58 = .ok (.goto 4, 3) := by decide +kernel
theorem dX12_drawn_61 : decode cX12_drawn 61 = .ok (.iconst 0, 1) := by decide +kernel
theorem dX12_drawn_62 : decode cX12_drawn 62 = .ok (.istore 4, 2) := by decide +kernel
theorem dX12_drawn_64 : decode cX12_drawn 64 = .ok (.aload_n 0, 1) := by decide +kernel
theorem dX12_drawn_65 : decode cX12_drawn 65 = .ok (.getfield 25, 3) := by decide +kernel
theorem dX12_drawn_68 : decode cX12_drawn 68 = .ok (.iload_n 3, 1) := by decide +kernel
theorem dX12_drawn_69 : decode cX12_drawn 69 = .ok (.iaload, 1) := by decide +kernel
theorem dX12_drawn_70 : decode cX12_drawn 70 = .ok (.iconst 1, 1) := by decide +kernel
theorem dX12_drawn_71 : decode cX12_drawn 71 = .ok (.if_icmp .le 13, 3) := by decide +kernel
theorem dX12_drawn_74 : decode cX12_drawn 74 = .ok (.aload_n 0, 1) := by decide +kernel
theorem dX12_drawn_75 : decode cX12_drawn 75 = .ok (.iload_n 1, 1) := by decide +kernel
theorem dX12_drawn_76 : decode cX12_drawn 76 = .ok (.iconst 1, 1) := by decide +kernel
theorem dX12_drawn_77 : decode cX12_drawn 77 = .ok (.isub, 1) := by decide +kernel
theorem dX12_drawn_78 : decode cX12_drawn 78 = .ok (.invokevirtual 430, 3) := by decide +kernel
theorem dX12_drawn_81 : decode cX12_drawn 81 = .ok (.goto 4, 3) := by decide +kernel
theorem dX12_drawn_84 : decode cX12_drawn 84 = .ok (.iconst 0, 1) := by decide +kernel
theorem dX12_drawn_85 : decode cX12_drawn 85 = .ok (.istore 5, 2) := by decide +kernel
theorem dX12_drawn_87 : decode cX12_drawn 87 = .ok (.aload_n 0, 1) := by decide +kernel
theorem dX12_drawn_88 : decode cX12_drawn 88 = .ok (.getfield 25, 3) := by decide +kernel
theorem dX12_drawn_91 : decode cX12_drawn 91 = .ok (.iload_n 3, 1) := by decide +kernel
theorem dX12_drawn_92 : decode cX12_drawn 92 = .ok (.iaload, 1) := by decide +kernel
theorem dX12_drawn_93 : decode cX12_drawn 93 = .ok (.iconst 2, 1) := by decide +kernel
theorem dX12_drawn_94 : decode cX12_drawn 94 = .ok (.if_icmp .le 13, 3) := by decide +kernel
theorem dX12_drawn_97 : decode cX12_drawn 97 = .ok (.aload_n 0, 1) := by decide +kernel
theorem dX12_drawn_98 : decode cX12_drawn 98 = .ok (.iload_n 1, 1) := by decide +kernel
theorem dX12_drawn_99 : decode cX12_drawn 99 = .ok (.iconst 1, 1) := by decide +kernel
theorem dX12_drawn_100 : decode cX12_drawn 100 = .ok (.isub, 1) := by decide +kernel
theorem dX12_drawn_101 : decode cX12_drawn 101 = .ok (.invokevirtual 430, 3) := by decide +kernel
theorem dX12_drawn_104 : decode cX12_drawn 104 = .ok (.goto 4, 3) := by decide +kernel
theorem dX12_drawn_107 : decode cX12_drawn 107 = .ok (.iconst 0, 1) := by decide +kernel
theorem dX12_drawn_108 : decode cX12_drawn 108 = .ok (.istore 6, 2) := by decide +kernel
theorem dX12_drawn_110 : decode cX12_drawn 110 = .ok (.aload_n 0, 1) := by decide +kernel
theorem dX12_drawn_111 : decode cX12_drawn 111 = .ok (.iload_n 3, 1) := by decide +kernel
theorem dX12_drawn_112 : decode cX12_drawn 112 = .ok (.iload 4, 2) := by decide +kernel
theorem dX12_drawn_114 : decode cX12_drawn 114 = .ok (.iload 5, 2) := by decide +kernel
theorem dX12_drawn_116 : decode cX12_drawn 116 = .ok (.iload 6, 2) := by decide +kernel
theorem dX12_drawn_118 : decode cX12_drawn 118 = .ok (.invokevirtual 107, 3) := by decide +kernel
theorem dX12_drawn_121 : decode cX12_drawn 121 = .ok (.ireturn, 1) := by decide +kernel
theorem dX12_draw_0 : decode cX12_draw 0 = .ok (.aload_n 0, 1) := by decide +kernel
theorem dX12_draw_1 : decode cX12_draw 1 = .ok (.iconst 0, 1) := by decide +kernel
theorem dX12_draw_2 : decode cX12_draw 2 = .ok (.putfield 68, 3) := by decide +kernel
theorem dX12_draw_5 : decode cX12_draw 5 = .ok (.iload_n 2, 1) := by decide +kernel
theorem dX12_draw_6 : decode cX12_draw 6 = .ok (.iconst 1, 1) := by decide +kernel
theorem dX12_draw_7 : decode cX12_draw 7 = .ok (.iconst 4, 1) := by decide +kernel
theorem dX12_draw_8 : decode cX12_draw 8 = .ok (.invokestatic 283, 3) := by decide +kernel
theorem dX12_draw_11 : decode cX12_draw 11 = .ok (.ifCond .ne 10, 3) := by decide +kernel
theorem dX12_draw_14 : decode cX12_draw 14 = .ok (.aload_n 0, 1) := by decide +kernel
theorem dX12_draw_15 : decode cX12_draw 15 = .ok (.iconst 1, 1) := by decide +kernel
theorem dX12_draw_16 : decode cX12_draw 16 = .ok (.iconst (-1), 1) := by decide +kernel
theorem dX12_draw_17 : decode cX12_draw 17 = .ok (.invokevirtual 391, 3) := by decide +kernel
theorem dX12_draw_20 : decode cX12_draw 20 = .ok (.ireturn, 1) := by decide +kernel
theorem dX12_draw_21 : decode cX12_draw 21 = .ok (.aload_n 0, 1) := by decide +kernel
theorem dX12_draw_22 : decode cX12_draw 22 = .ok (.invokevirtual 400, 3) := by decide +kernel
theorem dX12_draw_25 : decode cX12_draw 25 = .ok (.aload_n 0, 1) := by decide +kernel
theorem dX12_draw_26 : decode cX12_draw 26 = .ok (.iload_n 1, 1) := by decide +kernel
theorem dX12_draw_27 : decode cX12_draw 27 = .ok (.putfield 423, 3) := by decide +kernel
theorem dX12_draw_30 : decode cX12_draw 30 = .ok (.aload_n 0, 1) := by decide +kernel
theorem dX12_draw_31 : decode cX12_draw 31 = .ok (.aload_n 0, 1) := by decide +kernel
theorem dX12_draw_32 : decode cX12_draw 32 = .ok (.iload_n 2, 1) := by decide +kernel
theorem dX12_draw_33 : decode cX12_draw 33 = .ok (.invokevirtual 430, 3) := by decide +kernel
theorem dX12_draw_36 : decode cX12_draw 36 = .ok (.invokevirtual 403, 3) := by decide +kernel
theorem dX12_draw_39 : decode cX12_draw 39 = .ok (.ireturn, 1) := by decide +kernel
theorem dX12_undo_0 : decode cX12_undo 0 = .ok (.aload_n 0, 1) := by decide +kernel
theorem dX12_undo_1 : decode cX12_undo 1 = .ok (.iconst 0, 1) := by decide +kernel
theorem dX12_undo_2 : decode cX12_undo 2 = .ok (.putfield 68, 3) := by decide +kernel
theorem dX12_undo_5 : decode cX12_undo 5 = .ok (.aload_n 0, 1) := by decide +kernel
theorem dX12_undo_6 : decode cX12_undo 6 = .ok (.getfield 356, 3) := by decide +kernel
theorem dX12_undo_9 : decode cX12_undo 9 = .ok (.ifCond .ne 5, 3) := by decide +kernel
theorem dX12_undo_12 : decode cX12_undo 12 = .ok (.iconst (-1), 1) := by decide +kernel
theorem dX12_undo_13 : decode cX12_undo 13 = .ok (.ireturn, 1) := by decide +kernel
theorem dX12_undo_14 : decode cX12_undo 14 = .ok (.aload_n 0, 1) := by decide +kernel
theorem dX12_undo_15 : decode cX12_undo 15 = .ok (.dup, 1) := by decide +kernel
theorem dX12_undo_16 : decode cX12_undo 16 = .ok (.getfield 356, 3) := by decide +kernel
theorem dX12_undo_19 : decode cX12_undo 19 = .ok (.iconst 1, 1) := by decide +kernel
theorem dX12_undo_20 : decode cX12_undo 20 = .ok (.isub, 1) := by decide +kernel
theorem dX12_undo_21 : decode cX12_undo 21 = .ok (.putfield 356, 3) := by decide +kernel
theorem dX12_undo_24 : decode cX12_undo 24 = .ok (.aload_n 0, 1) := by decide +kernel
theorem dX12_undo_25 : decode cX12_undo 25 = .ok (.aload_n 0, 1) := by decide +kernel
theorem dX12_undo_26 : decode cX12_undo 26 = .ok (.getfield 353, 3) := by decide +kernel
theorem dX12_undo_29 : decode cX12_undo 29 = .ok (.aload_n 0, 1) := by decide +kernel
theorem dX12_undo_30 : decode cX12_undo 30 = .ok (.getfield 356, 3) := by decide +kernel
theorem dX12_undo_33 : decode cX12_undo 33 = .ok (.invokestatic 397, 3) := by decide +kernel
theorem dX12_undo_36 : decode cX12_undo 36 = .ok (.iconst 0, 1) := by decide +kernel
theorem dX12_undo_37 : decode cX12_undo 37 = .ok (.bipush 63, 2) := by decide +kernel
theorem dX12_undo_39 : decode cX12_undo 39 = .ok (.invokevirtual 343, 3) := by decide +kernel
theorem dX12_undo_42 : decode cX12_undo 42 = .ok (.aload_n 0, 1) := by decide +kernel
theorem dX12_undo_43 : decode cX12_undo 43 = .ok (.getfield 356, 3) := by decide +kernel
theorem dX12_undo_46 : decode cX12_undo 46 = .ok (.ireturn, 1) := by decide +kernel
theorem dX12_years_0 : decode cX12_years 0 = .ok (.aload_n 0, 1) := by decide +kernel
theorem dX12_years_1 : decode cX12_years 1 = .ok (.iconst 0, 1) := by decide +kernel
theorem dX12_years_2 : decode cX12_years 2 = .ok (.putfield 68, 3) := by decide +kernel
theorem dX12_years_5 : decode cX12_years 5 = .ok (.aload_n 0, 1) := by decide +kernel
theorem dX12_years_6 : decode cX12_years 6 = .ok (.iload_n 3, 1) := by decide +kernel
theorem dX12_years_7 : decode cX12_years 7 = .ok (.iconst 0, 1) := by decide +kernel
theorem dX12_years_8 : decode cX12_years 8 = .ok (.iconst 2, 1) := by decide +kernel
theorem dX12_years_9 : decode cX12_years 9 = .ok (.invokestatic 283, 3) := by decide +kernel
theorem dX12_years_12 : decode cX12_years 12 = .ok (.iconst 1, 1) := by decide +kernel
theorem dX12_years_13 : decode cX12_years 13 = .ok (.invokevirtual 334, 3) := by decide +kernel
theorem dX12_years_16 : decode cX12_years 16 = .ok (.ifCond .eq 18, 3) := by decide +kernel
theorem dX12_years_19 : decode cX12_years 19 = .ok (.aload_n 0, 1) := by decide +kernel
theorem dX12_years_20 : decode cX12_years 20 = .ok (.iload_n 2, 1) := by decide +kernel
theorem dX12_years_21 : decode cX12_years 21 = .ok (.iconst 0, 1) := by decide +kernel
theorem dX12_years_22 : decode cX12_years 22 = .ok (.bipush 20, 2) := by decide +kernel
theorem dX12_years_24 : decode cX12_years 24 = .ok (.invokestatic 283, 3) := by decide +kernel
theorem dX12_years_27 : decode cX12_years 27 = .ok (.iconst 2, 1) := by decide +kernel
theorem dX12_years_28 : decode cX12_years 28 = .ok (.invokevirtual 334, 3) := by decide +kernel
theorem dX12_years_31 : decode cX12_years 31 = .ok (.ifCond .ne 5, 3) := by decide +kernel
theorem dX12_years_34 : decode cX12_years 34 = .ok (.iconst 0, 1) := by decide +kernel
theorem dX12_years_35 : decode cX12_years 35 = .ok (.ireturn, 1) := by decide +kernel
theorem dX12_years_36 : decode cX12_years 36 = .ok (.aload_n 0, 1) := by decide +kernel
theorem dX12_years_37 : decode cX12_years 37 = .ok (.invokevirtual 400, 3) := by decide +kernel
theorem dX12_years_40 : decode cX12_years 40 = .ok (.aload_n 0, 1) := by decide +kernel
theorem dX12_years_41 : decode cX12_years 41 = .ok (.iload_n 1, 1) := by decide +kernel
theorem dX12_years_42 : decode cX12_years 42 = .ok (.putfield 423, 3) := by decide +kernel
theorem dX12_years_45 : decode cX12_years 45 = .ok (.iconst 0, 1) := by decide +kernel
theorem dX12_years_46 : decode cX12_years 46 = .ok (.istore 4, 2) := by decide +kernel
theorem dX12_years_48 : decode cX12_years 48 = .ok (.iconst 1, 1) := by decide +kernel
theorem dX12_years_49 : decode cX12_years 49 = .ok (.istore 5, 2) := by decide +kernel
theorem dX12_years_51 : decode cX12_years 51 = .ok (.iconst 0, 1) := by decide +kernel
theorem dX12_years_52 : decode cX12_years 52 = .ok (.istore 6, 2) := by decide +kernel
theorem dX12_years_54 : decode cX12_years 54 = .ok (.iload 6, 2) := by decide +kernel
theorem dX12_years_56 : decode cX12_years 56 = .ok (.iload_n 2, 1) := by decide +kernel
theorem dX12_years_57 : decode cX12_years 57 = .ok (.if_icmp .ge 77, 3) := by decide +kernel
theorem dX12_years_60 : decode cX12_years 60 = .ok (.iload 5, 2) := by decide +kernel
theorem dX12_years_62 : decode cX12_years 62 = .ok (.ifCond .eq 72, 3) := by decide +kernel
theorem dX12_years_65 : decode cX12_years 65 = .ok (.aload_n 0, 1) := by decide +kernel
theorem dX12_years_66 : decode cX12_years 66 = .ok (.iconst 3, 1) := by decide +kernel
theorem dX12_years_67 : decode cX12_years 67 = .ok (.invokevirtual 430, 3) := by decide +kernel
theorem dX12_years_70 : decode cX12_years 70 = .ok (.istore 7, 2) := by decide +kernel
theorem dX12_years_72 : decode cX12_years 72 = .ok (.aload_n 0, 1) := by decide +kernel
theorem dX12_years_73 : decode cX12_years 73 = .ok (.getfield 92, 3) := by decide +kernel
theorem dX12_years_76 : decode cX12_years 76 = .ok (.ifCond .eq 7, 3) := by decide +kernel
theorem dX12_years_79 : decode cX12_years 79 = .ok (.iconst 0, 1) := by decide +kernel
theorem dX12_years_80 : decode cX12_years 80 = .ok (.goto 9, 3) := by decide +kernel
theorem dX12_years_83 : decode cX12_years 83 = .ok (.aload_n 0, 1) := by decide +kernel
theorem dX12_years_84 : decode cX12_years 84 = .ok (.iload 7, 2) := by decide +kernel
theorem dX12_years_86 : decode cX12_years 86 = .ok (.invokevirtual 221, 3) := by decide +kernel
theorem dX12_years_89 : decode cX12_years 89 = .ok (.istore 8, 2) := by decide +kernel
theorem dX12_years_91 : decode cX12_years 91 = .ok (.aload_n 0, 1) := by decide +kernel
theorem dX12_years_92 : decode cX12_years 92 = .ok (.invokevirtual 211, 3) := by decide +kernel
theorem dX12_years_95 : decode cX12_years 95 = .ok (.ifCond .ne 7, 3) := by decide +kernel
theorem dX12_years_98 : decode cX12_years 98 = .ok (.iconst 1, 1) := by decide +kernel
theorem dX12_years_99 : decode cX12_years 99 = .ok (.goto 4, 3) := by decide +kernel
theorem dX12_years_102 : decode cX12_years 102 = .ok (.iconst 0, 1) := by decide +kernel
theorem dX12_years_103 : decode cX12_years 103 = .ok (.istore 5, 2) := by decide +kernel
theorem dX12_years_105 : decode cX12_years 105 = .ok (.iload 5, 2) := by decide +kernel
theorem dX12_years_107 : decode cX12_years 107 = .ok (.ifCond .eq 21, 3) := by decide +kernel
theorem dX12_years_110 : decode cX12_years 110 = .ok (.iload 4, 2) := by decide +kernel
theorem dX12_years_112 : decode cX12_years 112 = .ok (.aload_n 0, 1) := by decide +kernel
theorem dX12_years_113 : decode cX12_years 113 = .ok (.iload 7, 2) := by decide +kernel
theorem dX12_years_115 : decode cX12_years 115 = .ok (.invokevirtual 120, 3) := by decide +kernel
theorem dX12_years_118 : decode cX12_years 118 = .ok (.aload_n 0, 1) := by decide +kernel
theorem dX12_years_119 : decode cX12_years 119 = .ok (.iload 8, 2) := by decide +kernel
theorem dX12_years_121 : decode cX12_years 121 = .ok (.invokevirtual 120, 3) := by decide +kernel
theorem dX12_years_124 : decode cX12_years 124 = .ok (.isub, 1) := by decide +kernel
theorem dX12_years_125 : decode cX12_years 125 = .ok (.iadd, 1) := by decide +kernel
theorem dX12_years_126 : decode cX12_years 126 = .ok (.istore 4, 2) := by decide +kernel
theorem dX12_years_128 : decode cX12_years 128 = .ok (.iinc 6 1, 3) := by decide +kernel
theorem dX12_years_131 : decode cX12_years 131 = .ok (.goto (-77), 3) := by decide +kernel
theorem dX12_years_134 : decode cX12_years 134 = .ok (.iload_n 3, 1) := by decide +kernel
theorem dX12_years_135 : decode cX12_years 135 = .ok (.ifCond .ne 8, 3) := by decide +kernel
theorem dX12_years_138 : decode cX12_years 138 = .ok (.iload 4, 2) := by decide +kernel
theorem dX12_years_140 : decode cX12_years 140 = .ok (.goto 41, 3) := by decide +kernel
theorem dX12_years_143 : decode cX12_years 143 = .ok (.iload_n 3, 1) := by decide +kernel
theorem dX12_years_144 : decode cX12_years 144 = .ok (.iconst 1, 1) := by decide +kernel
theorem dX12_years_145 : decode cX12_years 145 = .ok (.if_icmp .ne 21, 3) := by decide +kernel
theorem dX12_years_148 : decode cX12_years 148 = .ok (.aload_n 0, 1) := by decide +kernel
theorem dX12_years_149 : decode cX12_years 149 = .ok (.getfield 9, 3) := by decide +kernel
theorem dX12_years_152 : decode cX12_years 152 = .ok (.bipush 61, 2) := by decide +kernel
theorem dX12_years_154 : decode cX12_years 154 = .ok (.iaload, 1) := by decide +kernel
theorem dX12_years_155 : decode cX12_years 155 = .ok (.aload_n 0, 1) := by decide +kernel
theorem dX12_years_156 : decode cX12_years 156 = .ok (.getfield 9, 3) := by decide +kernel
theorem dX12_years_159 : decode cX12_years 159 = .ok (.bipush 124, 2) := by decide +kernel
theorem dX12_years_161 : decode cX12_years 161 = .ok (.iaload, 1) := by decide +kernel
theorem dX12_years_162 : decode cX12_years 162 = .ok (.isub, 1) := by decide +kernel
theorem dX12_years_163 : decode cX12_years 163 = .ok (.goto 18, 3) := by decide +kernel
theorem dX12_years_166 : decode cX12_years 166 = .ok (.aload_n 0, 1) := by decide +kernel
theorem dX12_years_167 : decode cX12_years 167 = .ok (.getfield 9, 3) := by decide +kernel
theorem dX12_years_170 : decode cX12_years 170 = .ok (.bipush 62, 2) := by decide +kernel
theorem dX12_years_172 : decode cX12_years 172 = .ok (.iaload, 1) := by decide +kernel
theorem dX12_years_173 : decode cX12_years 173 = .ok (.aload_n 0, 1) := by decide +kernel
theorem dX12_years_174 : decode cX12_years 174 = .ok (.getfield 9, 3) := by decide +kernel
theorem dX12_years_177 : decode cX12_years 177 = .ok (.bipush 125, 2) := by decide +kernel
theorem dX12_years_179 : decode cX12_years 179 = .ok (.iaload, 1) := by decide +kernel
theorem dX12_years_180 : decode cX12_years 180 = .ok (.isub, 1) := by decide +kernel
theorem dX12_years_181 : decode cX12_years 181 = .ok (.istore 6, 2) := by decide +kernel
theorem dX12_years_183 : decode cX12_years 183 = .ok (.aload_n 0, 1) := by decide +kernel
theorem dX12_years_184 : decode cX12_years 184 = .ok (.bipush 63, 2) := by decide +kernel
theorem dX12_years_186 : decode cX12_years 186 = .ok (.iconst 0, 1) := by decide +kernel
theorem dX12_years_187 : decode cX12_years 187 = .ok (.bipush 63, 2) := by decide +kernel
theorem dX12_years_189 : decode cX12_years 189 = .ok (.invokevirtual 343, 3) := by decide +kernel
theorem dX12_years_192 : decode cX12_years 192 = .ok (.iload 5, 2) := by decide +kernel
theorem dX12_years_194 : decode cX12_years 194 = .ok (.ifCond .eq 8, 3) := by decide +kernel
theorem dX12_years_197 : decode cX12_years 197 = .ok (.iload 6, 2) := by decide +kernel
theorem dX12_years_199 : decode cX12_years 199 = .ok (.goto 4, 3) := by decide +kernel
theorem dX12_years_202 : decode cX12_years 202 = .ok (.iconst (-1), 1) := by decide +kernel
theorem dX12_years_203 : decode cX12_years 203 = .ok (.ireturn, 1) := by decide +kernel
theorem dX12_image_0 : decode cX12_image 0 = .ok (.aload_n 0, 1) := by decide +kernel
theorem dX12_image_1 : decode cX12_image 1 = .ok (.iconst 0, 1) := by decide +kernel
theorem dX12_image_2 : decode cX12_image 2 = .ok (.putfield 68, 3) := by decide +kernel
theorem dX12_image_5 : decode cX12_image 5 = .ok (.aload_n 0, 1) := by decide +kernel
theorem dX12_image_6 : decode cX12_image 6 = .ok (.iconst 0, 1) := by decide +kernel
theorem dX12_image_7 : decode cX12_image 7 = .ok (.sipush 400, 3) := by decide +kernel
theorem dX12_image_10 : decode cX12_image 10 = .ok (.invokevirtual 340, 3) := by decide +kernel
theorem dX12_image_13 : decode cX12_image 13 = .ok (.aload_n 0, 1) := by decide +kernel
theorem dX12_image_14 : decode cX12_image 14 = .ok (.iconst 0, 1) := by decide +kernel
theorem dX12_image_15 : decode cX12_image 15 = .ok (.sipush 2709, 3) := by decide +kernel
theorem dX12_image_18 : decode cX12_image 18 = .ok (.bipush 63, 2) := by decide +kernel
theorem dX12_image_20 : decode cX12_image 20 = .ok (.invokevirtual 343, 3) := by decide +kernel
theorem dX12_image_23 : decode cX12_image 23 = .ok (.aload_n 0, 1) := by decide +kernel
theorem dX12_image_24 : decode cX12_image 24 = .ok (.sipush 189, 3) := by decide +kernel
theorem dX12_image_27 : decode cX12_image 27 = .ok (.sipush 2772, 3) := by decide +kernel
theorem dX12_image_30 : decode cX12_image 30 = .ok (.sipush 2520, 3) := by decide +kernel
theorem dX12_image_33 : decode cX12_image 33 = .ok (.invokevirtual 343, 3) := by decide +kernel
theorem dX12_image_36 : decode cX12_image 36 = .ok (.aload_n 0, 1) := by decide +kernel
theorem dX12_image_37 : decode cX12_image 37 = .ok (.aload_n 0, 1) := by decide +kernel
theorem dX12_image_38 : decode cX12_image 38 = .ok (.getfield 356, 3) := by decide +kernel
theorem dX12_image_41 : decode cX12_image 41 = .ok (.putfield 433, 3) := by decide +kernel
theorem dX12_image_44 : decode cX12_image 44 = .ok (.aload_n 0, 1) := by decide +kernel
theorem dX12_image_45 : decode cX12_image 45 = .ok (.aload_n 0, 1) := by decide +kernel
theorem dX12_image_46 : decode cX12_image 46 = .ok (.getfield 353, 3) := by decide +kernel
theorem dX12_image_49 : decode cX12_image 49 = .ok (.putfield 436, 3) := by decide +kernel
theorem dX12_image_52 : decode cX12_image 52 = .ok (.iconst 0, 1) := by decide +kernel
theorem dX12_image_53 : decode cX12_image 53 = .ok (.istore_n 1, 1) := by decide +kernel
theorem dX12_image_54 : decode cX12_image 54 = .ok (.iload_n 1, 1) := by decide +kernel
theorem dX12_image_55 : decode cX12_image 55 = .ok (.iconst 4, 1) := by decide +kernel
theorem dX12_image_56 : decode cX12_image 56 = .ok (.if_icmp .ge 23, 3) := by decide +kernel
theorem dX12_image_59 : decode cX12_image 59 = .ok (.aload_n 0, 1) := by decide +kernel
theorem dX12_image_60 : decode cX12_image 60 = .ok (.getfield 31, 3) := by decide +kernel
theorem dX12_image_63 : decode cX12_image 63 = .ok (.iconst 4, 1) := by decide +kernel
theorem dX12_image_64 : decode cX12_image 64 = .ok (.iload_n 1, 1) := by decide +kernel
theorem dX12_image_65 : decode cX12_image 65 = .ok (.iadd, 1) := by decide +kernel
theorem dX12_image_66 : decode cX12_image 66 = .ok (.aload_n 0, 1) := by decide +kernel
theorem dX12_image_67 : decode cX12_image 67 = .ok (.getfield 31, 3) := by decide +kernel
theorem dX12_image_70 : decode cX12_image 70 = .ok (.iload_n 1, 1) := by decide +kernel
theorem dX12_image_71 : decode cX12_image 71 = .ok (.iaload, 1) := by decide +kernel
theorem dX12_image_72 : decode cX12_image 72 = .ok (.iastore, 1) := by decide +kernel
theorem dX12_image_73 : decode cX12_image 73 = .ok (.iinc 1 1, 3) := by decide +kernel
theorem dX12_image_76 : decode cX12_image 76 = .ok (.goto (-22), 3) := by decide +kernel
theorem dX12_image_79 : decode cX12_image 79 = .ok (.aload_n 0, 1) := by decide +kernel
theorem dX12_image_80 : decode cX12_image 80 = .ok (.iconst 1, 1) := by decide +kernel
theorem dX12_image_81 : decode cX12_image 81 = .ok (.putfield 350, 3) := by decide +kernel
theorem dX12_image_84 : decode cX12_image 84 = .ok (.return_, 1) := by decide +kernel
theorem dX12_restore_0 : decode cX12_restore 0 = .ok (.aload_n 0, 1) := by decide +kernel
theorem dX12_restore_1 : decode cX12_restore 1 = .ok (.iconst 0, 1) := by decide +kernel
theorem dX12_restore_2 : decode cX12_restore 2 = .ok (.putfield 68, 3) := by decide +kernel
theorem dX12_restore_5 : decode cX12_restore 5 = .ok (.aload_n 0, 1) := by decide +kernel
theorem dX12_restore_6 : decode cX12_restore 6 = .ok (.getfield 350, 3) := by decide +kernel
theorem dX12_restore_9 : decode cX12_restore 9 = .ok (.ifCond .ne 5, 3) := by decide +kernel
theorem dX12_restore_12 : decode cX12_restore 12 = .ok (.iconst 0, 1) := by decide +kernel
theorem dX12_restore_13 : decode cX12_restore 13 = .ok (.ireturn, 1) := by decide +kernel
theorem dX12_restore_14 : decode cX12_restore 14 = .ok (.aload_n 0, 1) := by decide +kernel
theorem dX12_restore_15 : decode cX12_restore 15 = .ok (.sipush 400, 3) := by decide +kernel
theorem dX12_restore_18 : decode cX12_restore 18 = .ok (.iconst 0, 1) := by decide +kernel
theorem dX12_restore_19 : decode cX12_restore 19 = .ok (.invokevirtual 340, 3) := by decide +kernel
theorem dX12_restore_22 : decode cX12_restore 22 = .ok (.aload_n 0, 1) := by decide +kernel
theorem dX12_restore_23 : decode cX12_restore 23 = .ok (.sipush 2709, 3) := by decide +kernel
theorem dX12_restore_26 : decode cX12_restore 26 = .ok (.iconst 0, 1) := by decide +kernel
theorem dX12_restore_27 : decode cX12_restore 27 = .ok (.bipush 63, 2) := by decide +kernel
theorem dX12_restore_29 : decode cX12_restore 29 = .ok (.invokevirtual 343, 3) := by decide +kernel
theorem dX12_restore_32 : decode cX12_restore 32 = .ok (.aload_n 0, 1) := by decide +kernel
theorem dX12_restore_33 : decode cX12_restore 33 = .ok (.sipush 2772, 3) := by decide +kernel
theorem dX12_restore_36 : decode cX12_restore 36 = .ok (.sipush 189, 3) := by decide +kernel
theorem dX12_restore_39 : decode cX12_restore 39 = .ok (.sipush 2520, 3) := by decide +kernel
theorem dX12_restore_42 : decode cX12_restore 42 = .ok (.invokevirtual 343, 3) := by decide +kernel
theorem dX12_restore_45 : decode cX12_restore 45 = .ok (.aload_n 0, 1) := by decide +kernel
theorem dX12_restore_46 : decode cX12_restore 46 = .ok (.aload_n 0, 1) := by decide +kernel
theorem dX12_restore_47 : decode cX12_restore 47 = .ok (.getfield 433, 3) := by decide +kernel
theorem dX12_restore_50 : decode cX12_restore 50 = .ok (.putfield 356, 3) := by decide +kernel
theorem dX12_restore_53 : decode cX12_restore 53 = .ok (.aload_n 0, 1) := by decide +kernel
theorem dX12_restore_54 : decode cX12_restore 54 = .ok (.aload_n 0, 1) := by decide +kernel
theorem dX12_restore_55 : decode cX12_restore 55 = .ok (.getfield 436, 3) := by decide +kernel
theorem dX12_restore_58 : decode cX12_restore 58 = .ok (.putfield 353, 3) := by decide +kernel
theorem dX12_restore_61 : decode cX12_restore 61 = .ok (.iconst 0, 1) := by decide +kernel
theorem dX12_restore_62 : decode cX12_restore 62 = .ok (.istore_n 1, 1) := by decide +kernel
theorem dX12_restore_63 : decode cX12_restore 63 = .ok (.iload_n 1, 1) := by decide +kernel
theorem dX12_restore_64 : decode cX12_restore 64 = .ok (.iconst 4, 1) := by decide +kernel
theorem dX12_restore_65 : decode cX12_restore 65 = .ok (.if_icmp .ge 23, 3) := by decide +kernel
theorem dX12_restore_68 : decode cX12_restore 68 = .ok (.aload_n 0, 1) := by decide +kernel
theorem dX12_restore_69 : decode cX12_restore 69 = .ok (.getfield 31, 3) := by decide +kernel
theorem dX12_restore_72 : decode cX12_restore 72 = .ok (.iload_n 1, 1) := by decide +kernel
theorem dX12_restore_73 : decode cX12_restore 73 = .ok (.aload_n 0, 1) := by decide +kernel
theorem dX12_restore_74 : decode cX12_restore 74 = .ok (.getfield 31, 3) := by decide +kernel
theorem dX12_restore_77 : decode cX12_restore 77 = .ok (.iconst 4, 1) := by decide +kernel
theorem dX12_restore_78 : decode cX12_restore 78 = .ok (.iload_n 1, 1) := by decide +kernel
theorem dX12_restore_79 : decode cX12_restore 79 = .ok (.iadd, 1) := by decide +kernel
theorem dX12_restore_80 : decode cX12_restore 80 = .ok (.iaload, 1) := by decide +kernel
theorem dX12_restore_81 : decode cX12_restore 81 = .ok (.iastore, 1) := by decide +kernel
theorem dX12_restore_82 : decode cX12_restore 82 = .ok (.iinc 1 1, 3) := by decide +kernel
theorem dX12_restore_85 : decode cX12_restore 85 = .ok (.goto (-22), 3) := by decide +kernel
theorem dX12_restore_88 : decode cX12_restore 88 = .ok (.iconst 1, 1) := by decide +kernel
theorem dX12_restore_89 : decode cX12_restore 89 = .ok (.ireturn, 1) := by decide +kernel
theorem dJ0_length_8abf5_0 : decode cJ0_length_8abf5 0 = .ok (.aload_n 0, 1) := by decide +kernel
theorem dJ0_length_8abf5_1 : decode cJ0_length_8abf5 1 = .ok (.getfield 9, 3) := by decide +kernel
theorem dJ0_length_8abf5_4 : decode cJ0_length_8abf5 4 = .ok (.arraylength, 1) := by decide +kernel
theorem dJ0_length_8abf5_5 : decode cJ0_length_8abf5 5 = .ok (.aload_n 0, 1) := by decide +kernel
theorem dJ0_length_8abf5_6 : decode cJ0_length_8abf5 6 = .ok (.invokevirtual 335, 3) := by decide +kernel
theorem dJ0_length_8abf5_9 : decode cJ0_length_8abf5 9 = .ok (.ishr, 1) := by decide +kernel
theorem dJ0_length_8abf5_10 : decode cJ0_length_8abf5 10 = .ok (.ireturn, 1) := by decide +kernel
theorem dJ0_charAt_5068e_0 : decode cJ0_charAt_5068e 0 = .ok (.aload_n 0, 1) := by decide +kernel
theorem dJ0_charAt_5068e_1 : decode cJ0_charAt_5068e 1 = .ok (.invokevirtual 492, 3) := by decide +kernel
theorem dJ0_charAt_5068e_4 : decode cJ0_charAt_5068e 4 = .ok (.ifCond .eq 12, 3) := by decide +kernel
theorem dJ0_charAt_5068e_7 : decode cJ0_charAt_5068e 7 = .ok (.aload_n 0, 1) := by decide +kernel
theorem dJ0_charAt_5068e_8 : decode cJ0_charAt_5068e 8 = .ok (.getfield 9, 3) := by decide +kernel
theorem dJ0_charAt_5068e_11 : decode cJ0_charAt_5068e 11 = .ok (.iload_n 1, 1) := by decide +kernel
theorem dJ0_charAt_5068e_12 : decode cJ0_charAt_5068e 12 = .ok (.invokestatic 495, 3) := by decide +kernel
theorem dJ0_charAt_5068e_15 : decode cJ0_charAt_5068e 15 = .ok (.ireturn, 1) := by decide +kernel
theorem dJ0_coder_7d493_0 : decode cJ0_coder_7d493 0 = .ok (.getstatic 38, 3) := by decide +kernel
theorem dJ0_coder_7d493_3 : decode cJ0_coder_7d493 3 = .ok (.ifCond .eq 10, 3) := by decide +kernel
theorem dJ0_coder_7d493_6 : decode cJ0_coder_7d493 6 = .ok (.aload_n 0, 1) := by decide +kernel
theorem dJ0_coder_7d493_7 : decode cJ0_coder_7d493 7 = .ok (.getfield 15, 3) := by decide +kernel
theorem dJ0_coder_7d493_10 : decode cJ0_coder_7d493 10 = .ok (.goto 4, 3) := by decide +kernel
theorem dJ0_coder_7d493_14 : decode cJ0_coder_7d493 14 = .ok (.ireturn, 1) := by decide +kernel
theorem dJ0_isLatin1_aae02_0 : decode cJ0_isLatin1_aae02 0 = .ok (.getstatic 38, 3) := by decide +kernel
theorem dJ0_isLatin1_aae02_3 : decode cJ0_isLatin1_aae02 3 = .ok (.ifCond .eq 14, 3) := by decide +kernel
theorem dJ0_isLatin1_aae02_6 : decode cJ0_isLatin1_aae02 6 = .ok (.aload_n 0, 1) := by decide +kernel
theorem dJ0_isLatin1_aae02_7 : decode cJ0_isLatin1_aae02 7 = .ok (.getfield 15, 3) := by decide +kernel
theorem dJ0_isLatin1_aae02_10 : decode cJ0_isLatin1_aae02 10 = .ok (.ifCond .ne 7, 3) := by decide +kernel
theorem dJ0_isLatin1_aae02_13 : decode cJ0_isLatin1_aae02 13 = .ok (.iconst 1, 1) := by decide +kernel
theorem dJ0_isLatin1_aae02_14 : decode cJ0_isLatin1_aae02 14 = .ok (.goto 4, 3) := by decide +kernel
theorem dJ0_isLatin1_aae02_18 : decode cJ0_isLatin1_aae02 18 = .ok (.ireturn, 1) := by decide +kernel
theorem dJ0_checkIndex_df160_0 : decode cJ0_checkIndex_df160 0 = .ok (.iload_n 0, 1) := by decide +kernel
theorem dJ0_checkIndex_df160_1 : decode cJ0_checkIndex_df160 1 = .ok (.iload_n 1, 1) := by decide +kernel
theorem dJ0_checkIndex_df160_2 : decode cJ0_checkIndex_df160 2 = .ok (.getstatic 1053, 3) := by decide +kernel
theorem dJ0_checkIndex_df160_5 : decode cJ0_checkIndex_df160 5 = .ok (.invokestatic 1059, 3) := by decide +kernel
theorem dJ0_checkIndex_df160_8 : decode cJ0_checkIndex_df160 8 = .ok (.pop, 1) := by decide +kernel
theorem dJ0_checkIndex_df160_9 : decode cJ0_checkIndex_df160 9 = .ok (.return_, 1) := by decide +kernel
theorem dJ1_charAt_3b067_0 : decode cJ1_charAt_3b067 0 = .ok (.iload_n 1, 1) := by decide +kernel
theorem dJ1_charAt_3b067_1 : decode cJ1_charAt_3b067 1 = .ok (.aload_n 0, 1) := by decide +kernel
theorem dJ1_charAt_3b067_2 : decode cJ1_charAt_3b067 2 = .ok (.arraylength, 1) := by decide +kernel
theorem dJ1_charAt_3b067_3 : decode cJ1_charAt_3b067 3 = .ok (.invokestatic 9, 3) := by decide +kernel
theorem dJ1_charAt_3b067_6 : decode cJ1_charAt_3b067 6 = .ok (.aload_n 0, 1) := by decide +kernel
theorem dJ1_charAt_3b067_7 : decode cJ1_charAt_3b067 7 = .ok (.iload_n 1, 1) := by decide +kernel
theorem dJ1_charAt_3b067_8 : decode cJ1_charAt_3b067 8 = .ok (.baload, 1) := by decide +kernel
theorem dJ1_charAt_3b067_9 : decode cJ1_charAt_3b067 9 = .ok (.sipush 255, 3) := by decide +kernel
theorem dJ1_charAt_3b067_12 : decode cJ1_charAt_3b067 12 = .ok (.iand, 1) := by decide +kernel
theorem dJ1_charAt_3b067_13 : decode cJ1_charAt_3b067 13 = .ok (.i2c, 1) := by decide +kernel
theorem dJ1_charAt_3b067_14 : decode cJ1_charAt_3b067 14 = .ok (.ireturn, 1) := by decide +kernel
theorem dJ7_fill_53178_0 : decode cJ7_fill_53178 0 = .ok (.iconst 0, 1) := by decide +kernel
theorem dJ7_fill_53178_1 : decode cJ7_fill_53178 1 = .ok (.istore_n 2, 1) := by decide +kernel
theorem dJ7_fill_53178_2 : decode cJ7_fill_53178 2 = .ok (.aload_n 0, 1) := by decide +kernel
theorem dJ7_fill_53178_3 : decode cJ7_fill_53178 3 = .ok (.arraylength, 1) := by decide +kernel
theorem dJ7_fill_53178_4 : decode cJ7_fill_53178 4 = .ok (.istore_n 3, 1) := by decide +kernel
theorem dJ7_fill_53178_5 : decode cJ7_fill_53178 5 = .ok (.iload_n 2, 1) := by decide +kernel
theorem dJ7_fill_53178_6 : decode cJ7_fill_53178 6 = .ok (.iload_n 3, 1) := by decide +kernel
theorem dJ7_fill_53178_7 : decode cJ7_fill_53178 7 = .ok (.if_icmp .ge 13, 3) := by decide +kernel
theorem dJ7_fill_53178_10 : decode cJ7_fill_53178 10 = .ok (.aload_n 0, 1) := by decide +kernel
theorem dJ7_fill_53178_11 : decode cJ7_fill_53178 11 = .ok (.iload_n 2, 1) := by decide +kernel
theorem dJ7_fill_53178_12 : decode cJ7_fill_53178 12 = .ok (.iload_n 1, 1) := by decide +kernel
theorem dJ7_fill_53178_13 : decode cJ7_fill_53178 13 = .ok (.iastore, 1) := by decide +kernel
theorem dJ7_fill_53178_14 : decode cJ7_fill_53178 14 = .ok (.iinc 2 1, 3) := by decide +kernel
theorem dJ7_fill_53178_17 : decode cJ7_fill_53178 17 = .ok (.goto (-12), 3) := by decide +kernel
theorem dJ7_fill_53178_20 : decode cJ7_fill_53178 20 = .ok (.return_, 1) := by decide +kernel
theorem dJ3_checkIndex_8e157_0 : decode cJ3_checkIndex_8e157 0 = .ok (.iload_n 0, 1) := by decide +kernel
theorem dJ3_checkIndex_8e157_1 : decode cJ3_checkIndex_8e157 1 = .ok (.ifCond .lt 8, 3) := by decide +kernel
theorem dJ3_checkIndex_8e157_4 : decode cJ3_checkIndex_8e157 4 = .ok (.iload_n 0, 1) := by decide +kernel
theorem dJ3_checkIndex_8e157_5 : decode cJ3_checkIndex_8e157 5 = .ok (.iload_n 1, 1) := by decide +kernel
theorem dJ3_checkIndex_8e157_6 : decode cJ3_checkIndex_8e157 6 = .ok (.if_icmp .lt 10, 3) := by decide +kernel
theorem dJ3_checkIndex_8e157_16 : decode cJ3_checkIndex_8e157 16 = .ok (.iload_n 0, 1) := by decide +kernel
theorem dJ3_checkIndex_8e157_17 : decode cJ3_checkIndex_8e157 17 = .ok (.ireturn, 1) := by decide +kernel
