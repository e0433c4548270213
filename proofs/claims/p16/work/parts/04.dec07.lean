theorem dX11_unify_47 : decode cX11_unify 47 = .ok (.iconst 1, 1) := by decide +kernel
theorem dX11_unify_48 : decode cX11_unify 48 = .ok (.if_icmp .eq 10, 3) := by decide +kernel
theorem dX11_unify_51 : decode cX11_unify 51 = .ok (.aload_n 0, 1) := by decide +kernel
theorem dX11_unify_52 : decode cX11_unify 52 = .ok (.iconst 3, 1) := by decide +kernel
theorem dX11_unify_53 : decode cX11_unify 53 = .ok (.iload_n 3, 1) := by decide +kernel
theorem dX11_unify_54 : decode cX11_unify 54 = .ok (.invokevirtual 284, 3) := by decide +kernel
theorem dX11_unify_57 : decode cX11_unify 57 = .ok (.ireturn, 1) := by decide +kernel
theorem dX11_unify_58 : decode cX11_unify 58 = .ok (.aload_n 0, 1) := by decide +kernel
theorem dX11_unify_59 : decode cX11_unify 59 = .ok (.getfield 29, 3) := by decide +kernel
theorem dX11_unify_62 : decode cX11_unify 62 = .ok (.invokevirtual 287, 3) := by decide +kernel
theorem dX11_unify_65 : decode cX11_unify 65 = .ok (.aload_n 0, 1) := by decide +kernel
theorem dX11_unify_66 : decode cX11_unify 66 = .ok (.getfield 29, 3) := by decide +kernel
theorem dX11_unify_69 : decode cX11_unify 69 = .ok (.getfield 49, 3) := by decide +kernel
theorem dX11_unify_72 : decode cX11_unify 72 = .ok (.getfield 235, 3) := by decide +kernel
theorem dX11_unify_75 : decode cX11_unify 75 = .ok (.iload_n 1, 1) := by decide +kernel
theorem dX11_unify_76 : decode cX11_unify 76 = .ok (.iaload, 1) := by decide +kernel
theorem dX11_unify_77 : decode cX11_unify 77 = .ok (.aload_n 0, 1) := by decide +kernel
theorem dX11_unify_78 : decode cX11_unify 78 = .ok (.getfield 29, 3) := by decide +kernel
theorem dX11_unify_81 : decode cX11_unify 81 = .ok (.getfield 49, 3) := by decide +kernel
theorem dX11_unify_84 : decode cX11_unify 84 = .ok (.getfield 235, 3) := by decide +kernel
theorem dX11_unify_87 : decode cX11_unify 87 = .ok (.iload_n 2, 1) := by decide +kernel
theorem dX11_unify_88 : decode cX11_unify 88 = .ok (.iaload, 1) := by decide +kernel
theorem dX11_unify_89 : decode cX11_unify 89 = .ok (.ior, 1) := by decide +kernel
theorem dX11_unify_90 : decode cX11_unify 90 = .ok (.istore 4, 2) := by decide +kernel
theorem dX11_unify_92 : decode cX11_unify 92 = .ok (.aload_n 0, 1) := by decide +kernel
theorem dX11_unify_93 : decode cX11_unify 93 = .ok (.aload_n 0, 1) := by decide +kernel
theorem dX11_unify_94 : decode cX11_unify 94 = .ok (.getfield 69, 3) := by decide +kernel
theorem dX11_unify_97 : decode cX11_unify 97 = .ok (.iload 4, 2) := by decide +kernel
theorem dX11_unify_99 : decode cX11_unify 99 = .ok (.aload_n 0, 1) := by decide +kernel
theorem dX11_unify_100 : decode cX11_unify 100 = .ok (.getfield 29, 3) := by decide +kernel
theorem dX11_unify_103 : decode cX11_unify 103 = .ok (.getfield 156, 3) := by decide +kernel
theorem dX11_unify_106 : decode cX11_unify 106 = .ok (.getfield 167, 3) := by decide +kernel
theorem dX11_unify_109 : decode cX11_unify 109 = .ok (.bipush 7, 2) := by decide +kernel
theorem dX11_unify_111 : decode cX11_unify 111 = .ok (.invokevirtual 323, 3) := by decide +kernel
theorem dX11_unify_114 : decode cX11_unify 114 = .ok (.invokevirtual 293, 3) := by decide +kernel
theorem dX11_unify_117 : decode cX11_unify 117 = .ok (.ireturn, 1) := by decide +kernel
theorem dX11_match_0 : decode cX11_match 0 = .ok (.aload_n 0, 1) := by decide +kernel
theorem dX11_match_1 : decode cX11_match 1 = .ok (.getfield 29, 3) := by decide +kernel
theorem dX11_match_4 : decode cX11_match 4 = .ok (.getfield 49, 3) := by decide +kernel
theorem dX11_match_7 : decode cX11_match 7 = .ok (.iload_n 1, 1) := by decide +kernel
theorem dX11_match_8 : decode cX11_match 8 = .ok (.invokevirtual 304, 3) := by decide +kernel
theorem dX11_match_11 : decode cX11_match 11 = .ok (.ifCond .eq 17, 3) := by decide +kernel
theorem dX11_match_14 : decode cX11_match 14 = .ok (.aload_n 0, 1) := by decide +kernel
theorem dX11_match_15 : decode cX11_match 15 = .ok (.getfield 29, 3) := by decide +kernel
theorem dX11_match_18 : decode cX11_match 18 = .ok (.getfield 49, 3) := by decide +kernel
theorem dX11_match_21 : decode cX11_match 21 = .ok (.iload_n 2, 1) := by decide +kernel
theorem dX11_match_22 : decode cX11_match 22 = .ok (.invokevirtual 304, 3) := by decide +kernel
theorem dX11_match_25 : decode cX11_match 25 = .ok (.ifCond .ne 10, 3) := by decide +kernel
theorem dX11_match_28 : decode cX11_match 28 = .ok (.aload_n 0, 1) := by decide +kernel
theorem dX11_match_29 : decode cX11_match 29 = .ok (.iconst 1, 1) := by decide +kernel
theorem dX11_match_30 : decode cX11_match 30 = .ok (.iconst (-1), 1) := by decide +kernel
theorem dX11_match_31 : decode cX11_match 31 = .ok (.invokevirtual 284, 3) := by decide +kernel
theorem dX11_match_34 : decode cX11_match 34 = .ok (.ireturn, 1) := by decide +kernel
theorem dX11_match_35 : decode cX11_match 35 = .ok (.aload_n 0, 1) := by decide +kernel
theorem dX11_match_36 : decode cX11_match 36 = .ok (.getfield 55, 3) := by decide +kernel
theorem dX11_match_39 : decode cX11_match 39 = .ok (.iload_n 1, 1) := by decide +kernel
theorem dX11_match_40 : decode cX11_match 40 = .ok (.iload_n 2, 1) := by decide +kernel
theorem dX11_match_41 : decode cX11_match 41 = .ok (.invokevirtual 326, 3) := by decide +kernel
theorem dX11_match_44 : decode cX11_match 44 = .ok (.ifCond .ne 10, 3) := by decide +kernel
theorem dX11_match_47 : decode cX11_match 47 = .ok (.aload_n 0, 1) := by decide +kernel
theorem dX11_match_48 : decode cX11_match 48 = .ok (.iconst 3, 1) := by decide +kernel
theorem dX11_match_49 : decode cX11_match 49 = .ok (.iconst 0, 1) := by decide +kernel
theorem dX11_match_50 : decode cX11_match 50 = .ok (.invokevirtual 284, 3) := by decide +kernel
theorem dX11_match_53 : decode cX11_match 53 = .ok (.ireturn, 1) := by decide +kernel
theorem dX11_match_54 : decode cX11_match 54 = .ok (.aload_n 0, 1) := by decide +kernel
theorem dX11_match_55 : decode cX11_match 55 = .ok (.getfield 29, 3) := by decide +kernel
theorem dX11_match_58 : decode cX11_match 58 = .ok (.invokevirtual 287, 3) := by decide +kernel
theorem dX11_match_61 : decode cX11_match 61 = .ok (.aload_n 0, 1) := by decide +kernel
theorem dX11_match_62 : decode cX11_match 62 = .ok (.getfield 55, 3) := by decide +kernel
theorem dX11_match_65 : decode cX11_match 65 = .ok (.getfield 329, 3) := by decide +kernel
theorem dX11_match_68 : decode cX11_match 68 = .ok (.iconst 0, 1) := by decide +kernel
theorem dX11_match_69 : decode cX11_match 69 = .ok (.aload_n 0, 1) := by decide +kernel
theorem dX11_match_70 : decode cX11_match 70 = .ok (.getfield 29, 3) := by decide +kernel
theorem dX11_match_73 : decode cX11_match 73 = .ok (.getfield 156, 3) := by decide +kernel
theorem dX11_match_76 : decode cX11_match 76 = .ok (.getfield 167, 3) := by decide +kernel
theorem dX11_match_79 : decode cX11_match 79 = .ok (.bipush 7, 2) := by decide +kernel
theorem dX11_match_81 : decode cX11_match 81 = .ok (.bipush 8, 2) := by decide +kernel
theorem dX11_match_83 : decode cX11_match 83 = .ok (.invokestatic 332, 3) := by decide +kernel
theorem dX11_match_86 : decode cX11_match 86 = .ok (.aload_n 0, 1) := by decide +kernel
theorem dX11_match_87 : decode cX11_match 87 = .ok (.getfield 29, 3) := by decide +kernel
theorem dX11_match_90 : decode cX11_match 90 = .ok (.invokevirtual 305, 3) := by decide +kernel
theorem dX11_match_93 : decode cX11_match 93 = .ok (.iconst 1, 1) := by decide +kernel
theorem dX11_match_94 : decode cX11_match 94 = .ok (.ireturn, 1) := by decide +kernel
theorem dX11_common_0 : decode cX11_common 0 = .ok (.aload_n 0, 1) := by decide +kernel
theorem dX11_common_1 : decode cX11_common 1 = .ok (.getfield 29, 3) := by decide +kernel
theorem dX11_common_4 : decode cX11_common 4 = .ok (.getfield 49, 3) := by decide +kernel
theorem dX11_common_7 : decode cX11_common 7 = .ok (.iload_n 1, 1) := by decide +kernel
theorem dX11_common_8 : decode cX11_common 8 = .ok (.invokevirtual 304, 3) := by decide +kernel
theorem dX11_common_11 : decode cX11_common 11 = .ok (.ifCond .eq 17, 3) := by decide +kernel
theorem dX11_common_14 : decode cX11_common 14 = .ok (.aload_n 0, 1) := by decide +kernel
theorem dX11_common_15 : decode cX11_common 15 = .ok (.getfield 29, 3) := by decide +kernel
theorem dX11_common_18 : decode cX11_common 18 = .ok (.getfield 49, 3) := by decide +kernel
theorem dX11_common_21 : decode cX11_common 21 = .ok (.iload_n 2, 1) := by decide +kernel
theorem dX11_common_22 : decode cX11_common 22 = .ok (.invokevirtual 304, 3) := by decide +kernel
theorem dX11_common_25 : decode cX11_common 25 = .ok (.ifCond .ne 10, 3) := by decide +kernel
theorem dX11_common_28 : decode cX11_common 28 = .ok (.aload_n 0, 1) := by decide +kernel
theorem dX11_common_29 : decode cX11_common 29 = .ok (.iconst 1, 1) := by decide +kernel
theorem dX11_common_30 : decode cX11_common 30 = .ok (.iconst (-1), 1) := by decide +kernel
theorem dX11_common_31 : decode cX11_common 31 = .ok (.invokevirtual 284, 3) := by decide +kernel
theorem dX11_common_34 : decode cX11_common 34 = .ok (.ireturn, 1) := by decide +kernel
theorem dX11_common_35 : decode cX11_common 35 = .ok (.aload_n 0, 1) := by decide +kernel
theorem dX11_common_36 : decode cX11_common 36 = .ok (.getfield 62, 3) := by decide +kernel
theorem dX11_common_39 : decode cX11_common 39 = .ok (.iload_n 1, 1) := by decide +kernel
theorem dX11_common_40 : decode cX11_common 40 = .ok (.iload_n 2, 1) := by decide +kernel
theorem dX11_common_41 : decode cX11_common 41 = .ok (.invokevirtual 338, 3) := by decide +kernel
theorem dX11_common_44 : decode cX11_common 44 = .ok (.ifCond .ne 11, 3) := by decide +kernel
theorem dX11_common_47 : decode cX11_common 47 = .ok (.aload_n 0, 1) := by decide +kernel
theorem dX11_common_48 : decode cX11_common 48 = .ok (.iconst 3, 1) := by decide +kernel
theorem dX11_common_49 : decode cX11_common 49 = .ok (.bipush (-2), 2) := by decide +kernel
theorem dX11_common_51 : decode cX11_common 51 = .ok (.invokevirtual 284, 3) := by decide +kernel
theorem dX11_common_54 : decode cX11_common 54 = .ok (.ireturn, 1) := by decide +kernel
theorem dX11_common_55 : decode cX11_common 55 = .ok (.aload_n 0, 1) := by decide +kernel
theorem dX11_common_56 : decode cX11_common 56 = .ok (.getfield 29, 3) := by decide +kernel
theorem dX11_common_59 : decode cX11_common 59 = .ok (.invokevirtual 287, 3) := by decide +kernel
theorem dX11_common_62 : decode cX11_common 62 = .ok (.aload_n 0, 1) := by decide +kernel
theorem dX11_common_63 : decode cX11_common 63 = .ok (.aload_n 0, 1) := by decide +kernel
theorem dX11_common_64 : decode cX11_common 64 = .ok (.getfield 62, 3) := by decide +kernel
theorem dX11_common_67 : decode cX11_common 67 = .ok (.iload_n 1, 1) := by decide +kernel
theorem dX11_common_68 : decode cX11_common 68 = .ok (.iload_n 2, 1) := by decide +kernel
theorem dX11_common_69 : decode cX11_common 69 = .ok (.invokevirtual 341, 3) := by decide +kernel
theorem dX11_common_72 : decode cX11_common 72 = .ok (.invokevirtual 293, 3) := by decide +kernel
theorem dX11_common_75 : decode cX11_common 75 = .ok (.ireturn, 1) := by decide +kernel
theorem dX11_normal_0 : decode cX11_normal 0 = .ok (.aload_n 0, 1) := by decide +kernel
theorem dX11_normal_1 : decode cX11_normal 1 = .ok (.getfield 29, 3) := by decide +kernel
theorem dX11_normal_4 : decode cX11_normal 4 = .ok (.getfield 49, 3) := by decide +kernel
theorem dX11_normal_7 : decode cX11_normal 7 = .ok (.iload_n 1, 1) := by decide +kernel
theorem dX11_normal_8 : decode cX11_normal 8 = .ok (.invokevirtual 304, 3) := by decide +kernel
theorem dX11_normal_11 : decode cX11_normal 11 = .ok (.ifCond .ne 10, 3) := by decide +kernel
theorem dX11_normal_14 : decode cX11_normal 14 = .ok (.aload_n 0, 1) := by decide +kernel
theorem dX11_normal_15 : decode cX11_normal 15 = .ok (.iconst 1, 1) := by decide +kernel
theorem dX11_normal_16 : decode cX11_normal 16 = .ok (.iconst (-1), 1) := by decide +kernel
theorem dX11_normal_17 : decode cX11_normal 17 = .ok (.invokevirtual 284, 3) := by decide +kernel
theorem dX11_normal_20 : decode cX11_normal 20 = .ok (.ireturn, 1) := by decide +kernel
theorem dX11_normal_21 : decode cX11_normal 21 = .ok (.aload_n 0, 1) := by decide +kernel
theorem dX11_normal_22 : decode cX11_normal 22 = .ok (.getfield 29, 3) := by decide +kernel
theorem dX11_normal_25 : decode cX11_normal 25 = .ok (.invokevirtual 287, 3) := by decide +kernel
theorem dX11_normal_28 : decode cX11_normal 28 = .ok (.aload_n 0, 1) := by decide +kernel
theorem dX11_normal_29 : decode cX11_normal 29 = .ok (.getfield 90, 3) := by decide +kernel
theorem dX11_normal_32 : decode cX11_normal 32 = .ok (.invokevirtual 344, 3) := by decide +kernel
theorem dX11_normal_35 : decode cX11_normal 35 = .ok (.aload_n 0, 1) := by decide +kernel
theorem dX11_normal_36 : decode cX11_normal 36 = .ok (.aload_n 0, 1) := by decide +kernel
theorem dX11_normal_37 : decode cX11_normal 37 = .ok (.getfield 90, 3) := by decide +kernel
theorem dX11_normal_40 : decode cX11_normal 40 = .ok (.iload_n 1, 1) := by decide +kernel
theorem dX11_normal_41 : decode cX11_normal 41 = .ok (.invokevirtual 347, 3) := by decide +kernel
theorem dX11_normal_44 : decode cX11_normal 44 = .ok (.invokevirtual 293, 3) := by decide +kernel
theorem dX11_normal_47 : decode cX11_normal 47 = .ok (.ireturn, 1) := by decide +kernel
theorem dX11_put_0 : decode cX11_put 0 = .ok (.aload_n 0, 1) := by decide +kernel
theorem dX11_put_1 : decode cX11_put 1 = .ok (.getfield 29, 3) := by decide +kernel
theorem dX11_put_4 : decode cX11_put 4 = .ok (.getfield 49, 3) := by decide +kernel
theorem dX11_put_7 : decode cX11_put 7 = .ok (.astore 4, 2) := by decide +kernel
theorem dX11_put_9 : decode cX11_put 9 = .ok (.aload 4, 2) := by decide +kernel
theorem dX11_put_11 : decode cX11_put 11 = .ok (.iload_n 1, 1) := by decide +kernel
theorem dX11_put_12 : decode cX11_put 12 = .ok (.invokevirtual 304, 3) := by decide +kernel
theorem dX11_put_15 : decode cX11_put 15 = .ok (.ifCond .eq 22, 3) := by decide +kernel
theorem dX11_put_18 : decode cX11_put 18 = .ok (.aload 4, 2) := by decide +kernel
theorem dX11_put_20 : decode cX11_put 20 = .ok (.iload_n 3, 1) := by decide +kernel
theorem dX11_put_21 : decode cX11_put 21 = .ok (.invokevirtual 304, 3) := by decide +kernel
theorem dX11_put_24 : decode cX11_put 24 = .ok (.ifCond .eq 13, 3) := by decide +kernel
theorem dX11_put_27 : decode cX11_put 27 = .ok (.aload 4, 2) := by decide +kernel
theorem dX11_put_29 : decode cX11_put 29 = .ok (.iload_n 1, 1) := by decide +kernel
theorem dX11_put_30 : decode cX11_put 30 = .ok (.iload_n 2, 1) := by decide +kernel
theorem dX11_put_31 : decode cX11_put 31 = .ok (.invokevirtual 256, 3) := by decide +kernel
theorem dX11_put_34 : decode cX11_put 34 = .ok (.ifCond .ne 10, 3) := by decide +kernel
theorem dX11_put_37 : decode cX11_put 37 = .ok (.aload_n 0, 1) := by decide +kernel
theorem dX11_put_38 : decode cX11_put 38 = .ok (.iconst 1, 1) := by decide +kernel
theorem dX11_put_39 : decode cX11_put 39 = .ok (.iconst (-1), 1) := by decide +kernel
theorem dX11_put_40 : decode cX11_put 40 = .ok (.invokevirtual 284, 3) := by decide +kernel
theorem dX11_put_43 : decode cX11_put 43 = .ok (.ireturn, 1) := by decide +kernel
theorem dX11_put_44 : decode cX11_put 44 = .ok (.aload_n 0, 1) := by decide +kernel
theorem dX11_put_45 : decode cX11_put 45 = .ok (.getfield 29, 3) := by decide +kernel
theorem dX11_put_48 : decode cX11_put 48 = .ok (.invokevirtual 287, 3) := by decide +kernel
theorem dX11_put_51 : decode cX11_put 51 = .ok (.aload_n 0, 1) := by decide +kernel
theorem dX11_put_52 : decode cX11_put 52 = .ok (.aload_n 0, 1) := by decide +kernel
theorem dX11_put_53 : decode cX11_put 53 = .ok (.getfield 62, 3) := by decide +kernel
theorem dX11_put_56 : decode cX11_put 56 = .ok (.iload_n 1, 1) := by decide +kernel
theorem dX11_put_57 : decode cX11_put 57 = .ok (.iload_n 2, 1) := by decide +kernel
theorem dX11_put_58 : decode cX11_put 58 = .ok (.iload_n 3, 1) := by decide +kernel
theorem dX11_put_59 : decode cX11_put 59 = .ok (.invokevirtual 350, 3) := by decide +kernel
theorem dX11_put_62 : decode cX11_put 62 = .ok (.invokevirtual 293, 3) := by decide +kernel
theorem dX11_put_65 : decode cX11_put 65 = .ok (.ireturn, 1) := by decide +kernel
theorem dX11_rules_0 : decode cX11_rules 0 = .ok (.aload_n 0, 1) := by decide +kernel
theorem dX11_rules_1 : decode cX11_rules 1 = .ok (.getfield 29, 3) := by decide +kernel
theorem dX11_rules_4 : decode cX11_rules 4 = .ok (.getfield 156, 3) := by decide +kernel
theorem dX11_rules_7 : decode cX11_rules 7 = .ok (.astore_n 3, 1) := by decide +kernel
theorem dX11_rules_8 : decode cX11_rules 8 = .ok (.aload_n 3, 1) := by decide +kernel
theorem dX11_rules_9 : decode cX11_rules 9 = .ok (.getfield 167, 3) := by decide +kernel
theorem dX11_rules_12 : decode cX11_rules 12 = .ok (.iconst 4, 1) := by decide +kernel
theorem dX11_rules_13 : decode cX11_rules 13 = .ok (.iaload, 1) := by decide +kernel
theorem dX11_rules_14 : decode cX11_rules 14 = .ok (.bipush 8, 2) := by decide +kernel
theorem dX11_rules_16 : decode cX11_rules 16 = .ok (.if_icmp .ge 15, 3) := by decide +kernel
theorem dX11_rules_19 : decode cX11_rules 19 = .ok (.aload_n 0, 1) := by decide +kernel
theorem dX11_rules_20 : decode cX11_rules 20 = .ok (.getfield 81, 3) := by decide +kernel
theorem dX11_rules_23 : decode cX11_rules 23 = .ok (.iload_n 1, 1) := by decide +kernel
theorem dX11_rules_24 : decode cX11_rules 24 = .ok (.iload_n 2, 1) := by decide +kernel
theorem dX11_rules_25 : decode cX11_rules 25 = .ok (.invokevirtual 353, 3) := by decide +kernel
theorem dX11_rules_28 : decode cX11_rules 28 = .ok (.ifCond .ne 10, 3) := by decide +kernel
theorem dX11_rules_31 : decode cX11_rules 31 = .ok (.aload_n 0, 1) := by decide +kernel
theorem dX11_rules_32 : decode cX11_rules 32 = .ok (.iconst 1, 1) := by decide +kernel
theorem dX11_rules_33 : decode cX11_rules 33 = .ok (.iconst (-1), 1) := by decide +kernel
theorem dX11_rules_34 : decode cX11_rules 34 = .ok (.invokevirtual 284, 3) := by decide +kernel
theorem dX11_rules_37 : decode cX11_rules 37 = .ok (.ireturn, 1) := by decide +kernel
theorem dX11_rules_38 : decode cX11_rules 38 = .ok (.aload_n 0, 1) := by decide +kernel
theorem dX11_rules_39 : decode cX11_rules 39 = .ok (.getfield 29, 3) := by decide +kernel
theorem dX11_rules_42 : decode cX11_rules 42 = .ok (.invokevirtual 287, 3) := by decide +kernel
theorem dX11_rules_45 : decode cX11_rules 45 = .ok (.aload_n 3, 1) := by decide +kernel
theorem dX11_rules_46 : decode cX11_rules 46 = .ok (.iload_n 1, 1) := by decide +kernel
theorem dX11_rules_47 : decode cX11_rules 47 = .ok (.iload_n 2, 1) := by decide +kernel
theorem dX11_rules_48 : decode cX11_rules 48 = .ok (.invokevirtual 356, 3) := by decide +kernel
theorem dX11_rules_51 : decode cX11_rules 51 = .ok (.aload_n 0, 1) := by decide +kernel
theorem dX11_rules_52 : decode cX11_rules 52 = .ok (.getfield 29, 3) := by decide +kernel
theorem dX11_rules_55 : decode cX11_rules 55 = .ok (.invokevirtual 305, 3) := by decide +kernel
theorem dX11_rules_58 : decode cX11_rules 58 = .ok (.aload_n 3, 1) := by decide +kernel
theorem dX11_rules_59 : decode cX11_rules 59 = .ok (.getfield 167, 3) := by decide +kernel
theorem dX11_rules_62 : decode cX11_rules 62 = .ok (.iconst 4, 1) := by decide +kernel
theorem dX11_rules_63 : decode cX11_rules 63 = .ok (.iaload, 1) := by decide +kernel
theorem dX11_rules_64 : decode cX11_rules 64 = .ok (.ireturn, 1) := by decide +kernel
theorem dX11_enter_0 : decode cX11_enter 0 = .ok (.aload_n 0, 1) := by decide +kernel
theorem dX11_enter_1 : decode cX11_enter 1 = .ok (.getfield 29, 3) := by decide +kernel
theorem dX11_enter_4 : decode cX11_enter 4 = .ok (.getfield 156, 3) := by decide +kernel
theorem dX11_enter_7 : decode cX11_enter 7 = .ok (.astore_n 2, 1) := by decide +kernel
theorem dX11_enter_8 : decode cX11_enter 8 = .ok (.aload_n 0, 1) := by decide +kernel
theorem dX11_enter_9 : decode cX11_enter 9 = .ok (.getfield 29, 3) := by decide +kernel
theorem dX11_enter_12 : decode cX11_enter 12 = .ok (.getfield 49, 3) := by decide +kernel
theorem dX11_enter_15 : decode cX11_enter 15 = .ok (.iload_n 1, 1) := by decide +kernel
theorem dX11_enter_16 : decode cX11_enter 16 = .ok (.invokevirtual 304, 3) := by decide +kernel
theorem dX11_enter_19 : decode cX11_enter 19 = .ok (.ifCond .eq 23, 3) := by decide +kernel
theorem dX11_enter_22 : decode cX11_enter 22 = .ok (.aload_n 2, 1) := by decide +kernel
theorem dX11_enter_23 : decode cX11_enter 23 = .ok (.getfield 167, 3) := by decide +kernel
theorem dX11_enter_26 : decode cX11_enter 26 = .ok (.iconst 5, 1) := by decide +kernel
theorem dX11_enter_27 : decode cX11_enter 27 = .ok (.iaload, 1) := by decide +kernel
theorem dX11_enter_28 : decode cX11_enter 28 = .ok (.bipush 12, 2) := by decide +kernel
theorem dX11_enter_30 : decode cX11_enter 30 = .ok (.if_icmp .ge 12, 3) := by decide +kernel
theorem dX11_enter_33 : decode cX11_enter 33 = .ok (.aload_n 2, 1) := by decide +kernel
theorem dX11_enter_34 : decode cX11_enter 34 = .ok (.iload_n 1, 1) := by decide +kernel
theorem dX11_enter_35 : decode cX11_enter 35 = .ok (.invokevirtual 241, 3) := by decide +kernel
theorem dX11_enter_38 : decode cX11_enter 38 = .ok (.iconst (-1), 1) := by decide +kernel
theorem dX11_enter_39 : decode cX11_enter 39 = .ok (.if_icmp .eq 10, 3) := by decide +kernel
theorem dX11_enter_42 : decode cX11_enter 42 = .ok (.aload_n 0, 1) := by decide +kernel
theorem dX11_enter_43 : decode cX11_enter 43 = .ok (.iconst 1, 1) := by decide +kernel
theorem dX11_enter_44 : decode cX11_enter 44 = .ok (.iconst (-1), 1) := by decide +kernel
theorem dX11_enter_45 : decode cX11_enter 45 = .ok (.invokevirtual 284, 3) := by decide +kernel
theorem dX11_enter_48 : decode cX11_enter 48 = .ok (.ireturn, 1) := by decide +kernel
theorem dX11_enter_49 : decode cX11_enter 49 = .ok (.aload_n 0, 1) := by decide +kernel
theorem dX11_enter_50 : decode cX11_enter 50 = .ok (.getfield 29, 3) := by decide +kernel
theorem dX11_enter_53 : decode cX11_enter 53 = .ok (.invokevirtual 287, 3) := by decide +kernel
theorem dX11_enter_56 : decode cX11_enter 56 = .ok (.aload_n 2, 1) := by decide +kernel
theorem dX11_enter_57 : decode cX11_enter 57 = .ok (.iload_n 1, 1) := by decide +kernel
theorem dX11_enter_58 : decode cX11_enter 58 = .ok (.invokevirtual 360, 3) := by decide +kernel
theorem dX11_enter_61 : decode cX11_enter 61 = .ok (.aload_n 0, 1) := by decide +kernel
theorem dX11_enter_62 : decode cX11_enter 62 = .ok (.getfield 29, 3) := by decide +kernel
theorem dX11_enter_65 : decode cX11_enter 65 = .ok (.invokevirtual 305, 3) := by decide +kernel
theorem dX11_enter_68 : decode cX11_enter 68 = .ok (.aload_n 2, 1) := by decide +kernel
theorem dX11_enter_69 : decode cX11_enter 69 = .ok (.getfield 167, 3) := by decide +kernel
theorem dX11_enter_72 : decode cX11_enter 72 = .ok (.iconst 5, 1) := by decide +kernel
theorem dX11_enter_73 : decode cX11_enter 73 = .ok (.iaload, 1) := by decide +kernel
theorem dX11_enter_74 : decode cX11_enter 74 = .ok (.ireturn, 1) := by decide +kernel
theorem dX11_leave_0 : decode cX11_leave 0 = .ok (.aload_n 0, 1) := by decide +kernel
theorem dX11_leave_1 : decode cX11_leave 1 = .ok (.getfield 29, 3) := by decide +kernel
theorem dX11_leave_4 : decode cX11_leave 4 = .ok (.getfield 156, 3) := by decide +kernel
theorem dX11_leave_7 : decode cX11_leave 7 = .ok (.astore_n 2, 1) := by decide +kernel
theorem dX11_leave_8 : decode cX11_leave 8 = .ok (.aload_n 0, 1) := by decide +kernel
theorem dX11_leave_9 : decode cX11_leave 9 = .ok (.getfield 29, 3) := by decide +kernel
theorem dX11_leave_12 : decode cX11_leave 12 = .ok (.getfield 49, 3) := by decide +kernel
theorem dX11_leave_15 : decode cX11_leave 15 = .ok (.iload_n 1, 1) := by decide +kernel
theorem dX11_leave_16 : decode cX11_leave 16 = .ok (.invokevirtual 304, 3) := by decide +kernel
theorem dX11_leave_19 : decode cX11_leave 19 = .ok (.ifCond .eq 11, 3) := by decide +kernel
theorem dX11_leave_22 : decode cX11_leave 22 = .ok (.aload_n 2, 1) := by decide +kernel
theorem dX11_leave_23 : decode cX11_leave 23 = .ok (.iload_n 1, 1) := by decide +kernel
theorem dX11_leave_24 : decode cX11_leave 24 = .ok (.invokevirtual 241, 3) := by decide +kernel
theorem dX11_leave_27 : decode cX11_leave 27 = .ok (.goto 4, 3) := by decide +kernel
theorem dX11_leave_30 : decode cX11_leave 30 = .ok (.iconst (-1), 1) := by decide +kernel
theorem dX11_leave_31 : decode cX11_leave 31 = .ok (.istore_n 3, 1) := by decide +kernel
theorem dX11_leave_32 : decode cX11_leave 32 = .ok (.iload_n 3, 1) := by decide +kernel
theorem dX11_leave_33 : decode cX11_leave 33 = .ok (.iconst (-1), 1) := by decide +kernel
theorem dX11_leave_34 : decode cX11_leave 34 = .ok (.if_icmp .ne 10, 3) := by decide +kernel
theorem dX11_leave_37 : decode cX11_leave 37 = .ok (.aload_n 0, 1) := by decide +kernel
theorem dX11_leave_38 : decode cX11_leave 38 = .ok (.iconst 1, 1) := by decide +kernel
theorem dX11_leave_39 : decode cX11_leave 39 = .ok (.iconst (-1), 1) := by decide +kernel
theorem dX11_leave_40 : decode cX11_leave 40 = .ok (.invokevirtual 284, 3) := by decide +kernel
theorem dX11_leave_43 : decode cX11_leave 43 = .ok (.ireturn, 1) := by decide +kernel
theorem dX11_leave_44 : decode cX11_leave 44 = .ok (.aload_n 0, 1) := by decide +kernel
theorem dX11_leave_45 : decode cX11_leave 45 = .ok (.getfield 29, 3) := by decide +kernel
theorem dX11_leave_48 : decode cX11_leave 48 = .ok (.invokevirtual 287, 3) := by decide +kernel
theorem dX11_leave_51 : decode cX11_leave 51 = .ok (.aload_n 2, 1) := by decide +kernel
theorem dX11_leave_52 : decode cX11_leave 52 = .ok (.iload_n 3, 1) := by decide +kernel
theorem dX11_leave_53 : decode cX11_leave 53 = .ok (.invokevirtual 363, 3) := by decide +kernel
theorem dX11_leave_56 : decode cX11_leave 56 = .ok (.aload_n 0, 1) := by decide +kernel
theorem dX11_leave_57 : decode cX11_leave 57 = .ok (.getfield 29, 3) := by decide +kernel
theorem dX11_leave_60 : decode cX11_leave 60 = .ok (.invokevirtual 305, 3) := by decide +kernel
theorem dX11_leave_63 : decode cX11_leave 63 = .ok (.aload_n 2, 1) := by decide +kernel
theorem dX11_leave_64 : decode cX11_leave 64 = .ok (.getfield 167, 3) := by decide +kernel
theorem dX11_leave_67 : decode cX11_leave 67 = .ok (.iconst 5, 1) := by decide +kernel
theorem dX11_leave_68 : decode cX11_leave 68 = .ok (.iaload, 1) := by decide +kernel
theorem dX11_leave_69 : decode cX11_leave 69 = .ok (.ireturn, 1) := by decide +kernel
theorem dX11_room_0 : decode cX11_room 0 = .ok (.iload_n 1, 1) := by decide +kernel
theorem dX11_room_1 : decode cX11_room 1 = .ok (.ifCond .lt 9, 3) := by decide +kernel
theorem dX11_room_4 : decode cX11_room 4 = .ok (.iload_n 1, 1) := by decide +kernel
theorem dX11_room_5 : decode cX11_room 5 = .ok (.bipush 9, 2) := by decide +kernel
theorem dX11_room_7 : decode cX11_room 7 = .ok (.if_icmp .le 10, 3) := by decide +kernel
theorem dX11_room_10 : decode cX11_room 10 = .ok (.aload_n 0, 1) := by decide +kernel
theorem dX11_room_11 : decode cX11_room 11 = .ok (.iconst 1, 1) := by decide +kernel
theorem dX11_room_12 : decode cX11_room 12 = .ok (.iconst (-1), 1) := by decide +kernel
theorem dX11_room_13 : decode cX11_room 13 = .ok (.invokevirtual 284, 3) := by decide +kernel
theorem dX11_room_16 : decode cX11_room 16 = .ok (.ireturn, 1) := by decide +kernel
theorem dX11_room_17 : decode cX11_room 17 = .ok (.aload_n 0, 1) := by decide +kernel
theorem dX11_room_18 : decode cX11_room 18 = .ok (.getfield 29, 3) := by decide +kernel
theorem dX11_room_21 : decode cX11_room 21 = .ok (.getfield 156, 3) := by decide +kernel
theorem dX11_room_24 : decode cX11_room 24 = .ok (.getfield 167, 3) := by decide +kernel
theorem dX11_room_27 : decode cX11_room 27 = .ok (.iconst 1, 1) := by decide +kernel
theorem dX11_room_28 : decode cX11_room 28 = .ok (.iaload, 1) := by decide +kernel
theorem dX11_room_29 : decode cX11_room 29 = .ok (.istore_n 2, 1) := by decide +kernel
theorem dX11_room_30 : decode cX11_room 30 = .ok (.aload_n 0, 1) := by decide +kernel
theorem dX11_room_31 : decode cX11_room 31 = .ok (.getfield 29, 3) := by decide +kernel
theorem dX11_room_34 : decode cX11_room 34 = .ok (.invokevirtual 287, 3) := by decide +kernel
theorem dX11_room_37 : decode cX11_room 37 = .ok (.aload_n 0, 1) := by decide +kernel
theorem dX11_room_38 : decode cX11_room 38 = .ok (.getfield 29, 3) := by decide +kernel
theorem dX11_room_41 : decode cX11_room 41 = .ok (.getfield 156, 3) := by decide +kernel
theorem dX11_room_44 : decode cX11_room 44 = .ok (.iload_n 1, 1) := by decide +kernel
theorem dX11_room_45 : decode cX11_room 45 = .ok (.invokevirtual 366, 3) := by decide +kernel
theorem dX11_room_48 : decode cX11_room 48 = .ok (.aload_n 0, 1) := by decide +kernel
theorem dX11_room_49 : decode cX11_room 49 = .ok (.getfield 29, 3) := by decide +kernel
theorem dX11_room_52 : decode cX11_room 52 = .ok (.invokevirtual 305, 3) := by decide +kernel
theorem dX11_room_55 : decode cX11_room 55 = .ok (.iload_n 2, 1) := by decide +kernel
theorem dX11_room_56 : decode cX11_room 56 = .ok (.ireturn, 1) := by decide +kernel
theorem dX11_draw_0 : decode cX11_draw 0 = .ok (.iload_n 2, 1) := by decide +kernel
theorem dX11_draw_1 : decode cX11_draw 1 = .ok (.iconst 1, 1) := by decide +kernel
theorem dX11_draw_2 : decode cX11_draw 2 = .ok (.if_icmp .lt 8, 3) := by decide +kernel
theorem dX11_draw_5 : decode cX11_draw 5 = .ok (.iload_n 2, 1) := by decide +kernel
theorem dX11_draw_6 : decode cX11_draw 6 = .ok (.iconst 4, 1) := by decide +kernel
theorem dX11_draw_7 : decode cX11_draw 7 = .ok (.if_icmp .le 10, 3) := by decide +kernel
theorem dX11_draw_10 : decode cX11_draw 10 = .ok (.aload_n 0, 1) := by decide +kernel
theorem dX11_draw_11 : decode cX11_draw 11 = .ok (.iconst 1, 1) := by decide +kernel
theorem dX11_draw_12 : decode cX11_draw 12 = .ok (.iconst (-1), 1) := by decide +kernel
theorem dX11_draw_13 : decode cX11_draw 13 = .ok (.invokevirtual 284, 3) := by decide +kernel
theorem dX11_draw_16 : decode cX11_draw 16 = .ok (.ireturn, 1) := by decide +kernel
theorem dX11_draw_17 : decode cX11_draw 17 = .ok (.aload_n 0, 1) := by decide +kernel
theorem dX11_draw_18 : decode cX11_draw 18 = .ok (.getfield 29, 3) := by decide +kernel
theorem dX11_draw_21 : decode cX11_draw 21 = .ok (.invokevirtual 287, 3) := by decide +kernel
theorem dX11_draw_24 : decode cX11_draw 24 = .ok (.aload_n 0, 1) := by decide +kernel
theorem dX11_draw_25 : decode cX11_draw 25 = .ok (.getfield 62, 3) := by decide +kernel
theorem dX11_draw_28 : decode cX11_draw 28 = .ok (.iload_n 1, 1) := by decide +kernel
theorem dX11_draw_29 : decode cX11_draw 29 = .ok (.putfield 369, 3) := by decide +kernel
theorem dX11_draw_32 : decode cX11_draw 32 = .ok (.aload_n 0, 1) := by decide +kernel
theorem dX11_draw_33 : decode cX11_draw 33 = .ok (.aload_n 0, 1) := by decide +kernel
theorem dX11_draw_34 : decode cX11_draw 34 = .ok (.getfield 62, 3) := by decide +kernel
theorem dX11_draw_37 : decode cX11_draw 37 = .ok (.iload_n 2, 1) := by decide +kernel
theorem dX11_draw_38 : decode cX11_draw 38 = .ok (.invokevirtual 372, 3) := by decide +kernel
theorem dX11_draw_41 : decode cX11_draw 41 = .ok (.invokevirtual 293, 3) := by decide +kernel
theorem dX11_draw_44 : decode cX11_draw 44 = .ok (.ireturn, 1) := by decide +kernel
theorem dX11_undo_0 : decode cX11_undo 0 = .ok (.aload_n 0, 1) := by decide +kernel
theorem dX11_undo_1 : decode cX11_undo 1 = .ok (.getfield 29, 3) := by decide +kernel
theorem dX11_undo_4 : decode cX11_undo 4 = .ok (.invokevirtual 375, 3) := by decide +kernel
theorem dX11_undo_7 : decode cX11_undo 7 = .ok (.ireturn, 1) := by decide +kernel
theorem dX11_years_0 : decode cX11_years 0 = .ok (.iload_n 3, 1) := by decide +kernel
theorem dX11_years_1 : decode cX11_years 1 = .ok (.ifCond .lt 8, 3) := by decide +kernel
theorem dX11_years_4 : decode cX11_years 4 = .ok (.iload_n 3, 1) := by decide +kernel
theorem dX11_years_5 : decode cX11_years 5 = .ok (.iconst 2, 1) := by decide +kernel
theorem dX11_years_6 : decode cX11_years 6 = .ok (.if_icmp .le 14, 3) := by decide +kernel
theorem dX11_years_9 : decode cX11_years 9 = .ok (.new 188, 3) := by decide +kernel
theorem dX11_years_12 : decode cX11_years 12 = .ok (.dup, 1) := by decide +kernel
theorem dX11_years_13 : decode cX11_years 13 = .ok (.ldc_w 378, 3) := by decide +kernel
theorem dX11_years_16 : decode cX11_years 16 = .ok (.invokespecial 192, 3) := by decide +kernel
theorem dX11_years_19 : decode cX11_years 19 = .ok (.athrow, 1) := by decide +kernel
theorem dX11_years_20 : decode cX11_years 20 = .ok (.iload_n 2, 1) := by decide +kernel
theorem dX11_years_21 : decode cX11_years 21 = .ok (.ifCond .lt 9, 3) := by decide +kernel
theorem dX11_years_24 : decode cX11_years 24 = .ok (.iload_n 2, 1) := by decide +kernel
theorem dX11_years_25 : decode cX11_years 25 = .ok (.bipush 20, 2) := by decide +kernel
theorem dX11_years_27 : decode cX11_years 27 = .ok (.if_icmp .le 14, 3) := by decide +kernel
theorem dX11_years_30 : decode cX11_years 30 = .ok (.new 122, 3) := by decide +kernel
theorem dX11_years_33 : decode cX11_years 33 = .ok (.dup, 1) := by decide +kernel
theorem dX11_years_34 : decode cX11_years 34 = .ok (.ldc_w 380, 3) := by decide +kernel
theorem dX11_years_37 : decode cX11_years 37 = .ok (.invokespecial 126, 3) := by decide +kernel
theorem dX11_years_40 : decode cX11_years 40 = .ok (.athrow, 1) := by decide +kernel
theorem dX11_years_41 : decode cX11_years 41 = .ok (.aload_n 0, 1) := by decide +kernel
theorem dX11_years_42 : decode cX11_years 42 = .ok (.getfield 29, 3) := by decide +kernel
theorem dX11_years_45 : decode cX11_years 45 = .ok (.invokevirtual 287, 3) := by decide +kernel
theorem dX11_years_48 : decode cX11_years 48 = .ok (.aload_n 0, 1) := by decide +kernel
theorem dX11_years_49 : decode cX11_years 49 = .ok (.iload_n 1, 1) := by decide +kernel
theorem dX11_years_50 : decode cX11_years 50 = .ok (.iload_n 2, 1) := by decide +kernel
theorem dX11_years_51 : decode cX11_years 51 = .ok (.invokevirtual 382, 3) := by decide +kernel
theorem dX11_years_54 : decode cX11_years 54 = .ok (.istore 4, 2) := by decide +kernel
theorem dX11_years_56 : decode cX11_years 56 = .ok (.iload 4, 2) := by decide +kernel
theorem dX11_years_58 : decode cX11_years 58 = .ok (.iconst (-1), 1) := by decide +kernel
theorem dX11_years_59 : decode cX11_years 59 = .ok (.if_icmp .ne 7, 3) := by decide +kernel
theorem dX11_years_62 : decode cX11_years 62 = .ok (.iconst (-1), 1) := by decide +kernel
theorem dX11_years_63 : decode cX11_years 63 = .ok (.goto 10, 3) := by decide +kernel
theorem dX11_years_66 : decode cX11_years 66 = .ok (.aload_n 0, 1) := by decide +kernel
theorem dX11_years_67 : decode cX11_years 67 = .ok (.iload 4, 2) := by decide +kernel
theorem dX11_years_69 : decode cX11_years 69 = .ok (.iload_n 3, 1) := by decide +kernel
theorem dX11_years_70 : decode cX11_years 70 = .ok (.invokevirtual 385, 3) := by decide +kernel
theorem dX11_years_73 : decode cX11_years 73 = .ok (.istore 5, 2) := by decide +kernel
theorem dX11_years_75 : decode cX11_years 75 = .ok (.aload_n 0, 1) := by decide +kernel
theorem dX11_years_76 : decode cX11_years 76 = .ok (.getfield 29, 3) := by decide +kernel
theorem dX11_years_79 : decode cX11_years 79 = .ok (.invokevirtual 388, 3) := by decide +kernel
theorem dX11_years_82 : decode cX11_years 82 = .ok (.iload 5, 2) := by decide +kernel
theorem dX11_years_84 : decode cX11_years 84 = .ok (.ireturn, 1) := by decide +kernel
theorem dX11_lostBy_0 : decode cX11_lostBy 0 = .ok (.aload_n 0, 1) := by decide +kernel
theorem dX11_lostBy_1 : decode cX11_lostBy 1 = .ok (.getfield 62, 3) := by decide +kernel
theorem dX11_lostBy_4 : decode cX11_lostBy 4 = .ok (.iload_n 1, 1) := by decide +kernel
theorem dX11_lostBy_5 : decode cX11_lostBy 5 = .ok (.putfield 369, 3) := by decide +kernel
theorem dX11_lostBy_8 : decode cX11_lostBy 8 = .ok (.aload_n 0, 1) := by decide +kernel
theorem dX11_lostBy_9 : decode cX11_lostBy 9 = .ok (.getfield 90, 3) := by decide +kernel
theorem dX11_lostBy_12 : decode cX11_lostBy 12 = .ok (.invokevirtual 344, 3) := by decide +kernel
theorem dX11_lostBy_15 : decode cX11_lostBy 15 = .ok (.iconst 0, 1) := by decide +kernel
theorem dX11_lostBy_16 : decode cX11_lostBy 16 = .ok (.istore_n 3, 1) := by decide +kernel
theorem dX11_lostBy_17 : decode cX11_lostBy 17 = .ok (.iconst 0, 1) := by decide +kernel
theorem dX11_lostBy_18 : decode cX11_lostBy 18 = .ok (.istore 4, 2) := by decide +kernel
theorem dX11_lostBy_20 : decode cX11_lostBy 20 = .ok (.iload 4, 2) := by decide +kernel
theorem dX11_lostBy_22 : decode cX11_lostBy 22 = .ok (.iload_n 2, 1) := by decide +kernel
theorem dX11_lostBy_23 : decode cX11_lostBy 23 = .ok (.if_icmp .ge 77, 3) := by decide +kernel
theorem dX11_lostBy_26 : decode cX11_lostBy 26 = .ok (.aload_n 0, 1) := by decide +kernel
theorem dX11_lostBy_27 : decode cX11_lostBy 27 = .ok (.getfield 62, 3) := by decide +kernel
theorem dX11_lostBy_30 : decode cX11_lostBy 30 = .ok (.iconst 3, 1) := by decide +kernel
theorem dX11_lostBy_31 : decode cX11_lostBy 31 = .ok (.invokevirtual 372, 3) := by decide +kernel
theorem dX11_lostBy_34 : decode cX11_lostBy 34 = .ok (.istore 5, 2) := by decide +kernel
theorem dX11_lostBy_36 : decode cX11_lostBy 36 = .ok (.iload 5, 2) := by decide +kernel
theorem dX11_lostBy_38 : decode cX11_lostBy 38 = .ok (.ifCond .ge 8, 3) := by decide +kernel
theorem dX11_lostBy_41 : decode cX11_lostBy 41 = .ok (.iload 5, 2) := by decide +kernel
theorem dX11_lostBy_43 : decode cX11_lostBy 43 = .ok (.goto 12, 3) := by decide +kernel
theorem dX11_lostBy_46 : decode cX11_lostBy 46 = .ok (.aload_n 0, 1) := by decide +kernel
theorem dX11_lostBy_47 : decode cX11_lostBy 47 = .ok (.getfield 90, 3) := by decide +kernel
theorem dX11_lostBy_50 : decode cX11_lostBy 50 = .ok (.iload 5, 2) := by decide +kernel
theorem dX11_lostBy_52 : decode cX11_lostBy 52 = .ok (.invokevirtual 347, 3) := by decide +kernel
theorem dX11_lostBy_55 : decode cX11_lostBy 55 = .ok (.istore 6, 2) := by decide +kernel
theorem dX11_lostBy_57 : decode cX11_lostBy 57 = .ok (.iload 6, 2) := by decide +kernel
theorem dX11_lostBy_59 : decode cX11_lostBy 59 = .ok (.ifCond .ge 5, 3) := by decide +kernel
theorem dX11_lostBy_62 : decode cX11_lostBy 62 = .ok (.iconst (-1), 1) := by decide +kernel
theorem dX11_lostBy_63 : decode cX11_lostBy 63 = .ok (.ireturn, 1) := by decide +kernel
theorem dX11_lostBy_64 : decode cX11_lostBy 64 = .ok (.iload_n 3, 1) := by decide +kernel
theorem dX11_lostBy_65 : decode cX11_lostBy 65 = .ok (.aload_n 0, 1) := by decide +kernel
theorem dX11_lostBy_66 : decode cX11_lostBy 66 = .ok (.getfield 29, 3) := by decide +kernel
theorem dX11_lostBy_69 : decode cX11_lostBy 69 = .ok (.getfield 49, 3) := by decide +kernel
theorem dX11_lostBy_72 : decode cX11_lostBy 72 = .ok (.getfield 234, 3) := by decide +kernel
theorem dX11_lostBy_75 : decode cX11_lostBy 75 = .ok (.iload 5, 2) := by decide +kernel
theorem dX11_lostBy_77 : decode cX11_lostBy 77 = .ok (.iaload, 1) := by decide +kernel
theorem dX11_lostBy_78 : decode cX11_lostBy 78 = .ok (.aload_n 0, 1) := by decide +kernel
theorem dX11_lostBy_79 : decode cX11_lostBy 79 = .ok (.getfield 29, 3) := by decide +kernel
theorem dX11_lostBy_82 : decode cX11_lostBy 82 = .ok (.getfield 49, 3) := by decide +kernel
theorem dX11_lostBy_85 : decode cX11_lostBy 85 = .ok (.getfield 234, 3) := by decide +kernel
theorem dX11_lostBy_88 : decode cX11_lostBy 88 = .ok (.iload 6, 2) := by decide +kernel
theorem dX11_lostBy_90 : decode cX11_lostBy 90 = .ok (.iaload, 1) := by decide +kernel
theorem dX11_lostBy_91 : decode cX11_lostBy 91 = .ok (.isub, 1) := by decide +kernel
theorem dX11_lostBy_92 : decode cX11_lostBy 92 = .ok (.iadd, 1) := by decide +kernel
theorem dX11_lostBy_93 : decode cX11_lostBy 93 = .ok (.istore_n 3, 1) := by decide +kernel
theorem dX11_lostBy_94 : decode cX11_lostBy 94 = .ok (.iinc 4 1, 3) := by decide +kernel
theorem dX11_lostBy_97 : decode cX11_lostBy 97 = .ok (.goto (-77), 3) := by decide +kernel
theorem dX11_lostBy_100 : decode cX11_lostBy 100 = .ok (.iload_n 3, 1) := by decide +kernel
theorem dX11_lostBy_101 : decode cX11_lostBy 101 = .ok (.ireturn, 1) := by decide +kernel
theorem dX11_yearsAnswer_0 : decode cX11_yearsAnswer 0 = .ok (.iload_n 2, 1) := by decide +kernel
theorem dX11_yearsAnswer_1 : decode cX11_yearsAnswer 1 = .ok (.ifCond .ne 5, 3) := by decide +kernel
theorem dX11_yearsAnswer_4 : decode cX11_yearsAnswer 4 = .ok (.iload_n 1, 1) := by decide +kernel
theorem dX11_yearsAnswer_5 : decode cX11_yearsAnswer 5 = .ok (.ireturn, 1) := by decide +kernel
theorem dX11_yearsAnswer_6 : decode cX11_yearsAnswer 6 = .ok (.iload_n 2, 1) := by decide +kernel
theorem dX11_yearsAnswer_7 : decode cX11_yearsAnswer 7 = .ok (.iconst 1, 1) := by decide +kernel
theorem dX11_yearsAnswer_8 : decode cX11_yearsAnswer 8 = .ok (.if_icmp .ne 7, 3) := by decide +kernel
theorem dX11_yearsAnswer_11 : decode cX11_yearsAnswer 11 = .ok (.iconst 2, 1) := by decide +kernel
theorem dX11_yearsAnswer_12 : decode cX11_yearsAnswer 12 = .ok (.goto 4, 3) := by decide +kernel
theorem dX11_yearsAnswer_15 : decode cX11_yearsAnswer 15 = .ok (.iconst 3, 1) := by decide +kernel
theorem dX11_yearsAnswer_16 : decode cX11_yearsAnswer 16 = .ok (.istore_n 3, 1) := by decide +kernel
theorem dX11_yearsAnswer_17 : decode cX11_yearsAnswer 17 = .ok (.aload_n 0, 1) := by decide +kernel
theorem dX11_yearsAnswer_18 : decode cX11_yearsAnswer 18 = .ok (.getfield 29, 3) := by decide +kernel
theorem dX11_yearsAnswer_21 : decode cX11_yearsAnswer 21 = .ok (.getfield 156, 3) := by decide +kernel
theorem dX11_yearsAnswer_24 : decode cX11_yearsAnswer 24 = .ok (.getfield 167, 3) := by decide +kernel
theorem dX11_yearsAnswer_27 : decode cX11_yearsAnswer 27 = .ok (.iload_n 3, 1) := by decide +kernel
theorem dX11_yearsAnswer_28 : decode cX11_yearsAnswer 28 = .ok (.iaload, 1) := by decide +kernel
theorem dX11_yearsAnswer_29 : decode cX11_yearsAnswer 29 = .ok (.aload_n 0, 1) := by decide +kernel
theorem dX11_yearsAnswer_30 : decode cX11_yearsAnswer 30 = .ok (.getfield 29, 3) := by decide +kernel
theorem dX11_yearsAnswer_33 : decode cX11_yearsAnswer 33 = .ok (.getfield 391, 3) := by decide +kernel
theorem dX11_yearsAnswer_36 : decode cX11_yearsAnswer 36 = .ok (.iload_n 3, 1) := by decide +kernel
theorem dX11_yearsAnswer_37 : decode cX11_yearsAnswer 37 = .ok (.iaload, 1) := by decide +kernel
theorem dX11_yearsAnswer_38 : decode cX11_yearsAnswer 38 = .ok (.isub, 1) := by decide +kernel
theorem dX11_yearsAnswer_39 : decode cX11_yearsAnswer 39 = .ok (.ireturn, 1) := by decide +kernel
theorem dX11_image_0 : decode cX11_image 0 = .ok (.aload_n 0, 1) := by decide +kernel
theorem dX11_image_1 : decode cX11_image 1 = .ok (.getfield 33, 3) := by decide +kernel
theorem dX11_image_4 : decode cX11_image 4 = .ok (.aload_n 0, 1) := by decide +kernel
theorem dX11_image_5 : decode cX11_image 5 = .ok (.getfield 29, 3) := by decide +kernel
theorem dX11_image_8 : decode cX11_image 8 = .ok (.invokevirtual 394, 3) := by decide +kernel
theorem dX11_image_11 : decode cX11_image 11 = .ok (.aload_n 0, 1) := by decide +kernel
theorem dX11_image_12 : decode cX11_image 12 = .ok (.iconst 1, 1) := by decide +kernel
theorem dX11_image_13 : decode cX11_image 13 = .ok (.putfield 114, 3) := by decide +kernel
theorem dX11_image_16 : decode cX11_image 16 = .ok (.return_, 1) := by decide +kernel
theorem dX11_restore_0 : decode cX11_restore 0 = .ok (.aload_n 0, 1) := by decide +kernel
theorem dX11_restore_1 : decode cX11_restore 1 = .ok (.getfield 114, 3) := by decide +kernel
theorem dX11_restore_4 : decode cX11_restore 4 = .ok (.ifCond .ne 5, 3) := by decide +kernel
theorem dX11_restore_7 : decode cX11_restore 7 = .ok (.iconst 0, 1) := by decide +kernel
theorem dX11_restore_8 : decode cX11_restore 8 = .ok (.ireturn, 1) := by decide +kernel
theorem dX11_restore_9 : decode cX11_restore 9 = .ok (.aload_n 0, 1) := by decide +kernel
theorem dX11_restore_10 : decode cX11_restore 10 = .ok (.getfield 29, 3) := by decide +kernel
theorem dX11_restore_13 : decode cX11_restore 13 = .ok (.aload_n 0, 1) := by decide +kernel
theorem dX11_restore_14 : decode cX11_restore 14 = .ok (.getfield 33, 3) := by decide +kernel
theorem dX11_restore_17 : decode cX11_restore 17 = .ok (.invokevirtual 394, 3) := by decide +kernel
theorem dX11_restore_20 : decode cX11_restore 20 = .ok (.iconst 1, 1) := by decide +kernel
theorem dX11_restore_21 : decode cX11_restore 21 = .ok (.ireturn, 1) := by decide +kernel
theorem dX11_needTerm_0 : decode cX11_needTerm 0 = .ok (.aload_n 0, 1) := by decide +kernel
theorem dX11_needTerm_1 : decode cX11_needTerm 1 = .ok (.getfield 29, 3) := by decide +kernel
theorem dX11_needTerm_4 : decode cX11_needTerm 4 = .ok (.getfield 49, 3) := by decide +kernel
theorem dX11_needTerm_7 : decode cX11_needTerm 7 = .ok (.iload_n 1, 1) := by decide +kernel
theorem dX11_needTerm_8 : decode cX11_needTerm 8 = .ok (.invokevirtual 304, 3) := by decide +kernel
theorem dX11_needTerm_11 : decode cX11_needTerm 11 = .ok (.ifCond .ne 14, 3) := by decide +kernel
theorem dX11_needTerm_14 : decode cX11_needTerm 14 = .ok (.new 188, 3) := by decide +kernel
theorem dX11_needTerm_17 : decode cX11_needTerm 17 = .ok (.dup, 1) := by decide +kernel
theorem dX11_needTerm_18 : decode cX11_needTerm 18 = .ok (.ldc_w 397, 3) := by decide +kernel
theorem dX11_needTerm_21 : decode cX11_needTerm 21 = .ok (.invokespecial 192, 3) := by decide +kernel
theorem dX11_needTerm_24 : decode cX11_needTerm 24 = .ok (.athrow, 1) := by decide +kernel
theorem dX11_needTerm_25 : decode cX11_needTerm 25 = .ok (.return_, 1) := by decide +kernel
theorem dX11_isVariableNumber_0 : decode cX11_isVariableNumber 0 = .ok (.iload_n 0, 1) := by decide +kernel
theorem dX11_isVariableNumber_1 : decode cX11_isVariableNumber 1 = .ok (.ifCond .lt 13, 3) := by decide +kernel
theorem dX11_isVariableNumber_4 : decode cX11_isVariableNumber 4 = .ok (.iload_n 0, 1) := by decide +kernel
theorem dX11_isVariableNumber_5 : decode cX11_isVariableNumber 5 = .ok (.bipush 8, 2) := by decide +kernel
theorem dX11_isVariableNumber_7 : decode cX11_isVariableNumber 7 = .ok (.if_icmp .ge 7, 3) := by decide +kernel
theorem dX11_isVariableNumber_10 : decode cX11_isVariableNumber 10 = .ok (.iconst 1, 1) := by decide +kernel
theorem dX11_isVariableNumber_11 : decode cX11_isVariableNumber 11 = .ok (.goto 4, 3) := by decide +kernel
theorem dX11_isVariableNumber_14 : decode cX11_isVariableNumber 14 = .ok (.iconst 0, 1) := by decide +kernel
theorem dX11_isVariableNumber_15 : decode cX11_isVariableNumber 15 = .ok (.ireturn, 1) := by decide +kernel
theorem dX11_refused_0 : decode cX11_refused 0 = .ok (.aload_n 0, 1) := by decide +kernel
theorem dX11_refused_1 : decode cX11_refused 1 = .ok (.getfield 29, 3) := by decide +kernel
theorem dX11_refused_4 : decode cX11_refused 4 = .ok (.getfield 142, 3) := by decide +kernel
theorem dX11_refused_7 : decode cX11_refused 7 = .ok (.iload_n 1, 1) := by decide +kernel
theorem dX11_refused_8 : decode cX11_refused 8 = .ok (.dup2, 1) := by decide +kernel
theorem dX11_refused_9 : decode cX11_refused 9 = .ok (.iaload, 1) := by decide +kernel
theorem dX11_refused_10 : decode cX11_refused 10 = .ok (.iconst 1, 1) := by decide +kernel
theorem dX11_refused_11 : decode cX11_refused 11 = .ok (.iadd, 1) := by decide +kernel
theorem dX11_refused_12 : decode cX11_refused 12 = .ok (.iastore, 1) := by decide +kernel
theorem dX11_refused_13 : decode cX11_refused 13 = .ok (.iload_n 2, 1) := by decide +kernel
theorem dX11_refused_14 : decode cX11_refused 14 = .ok (.ireturn, 1) := by decide +kernel
theorem dX11_settled_0 : decode cX11_settled 0 = .ok (.iload_n 1, 1) := by decide +kernel
theorem dX11_settled_1 : decode cX11_settled 1 = .ok (.ifCond .ge 17, 3) := by decide +kernel
theorem dX11_settled_4 : decode cX11_settled 4 = .ok (.aload_n 0, 1) := by decide +kernel
theorem dX11_settled_5 : decode cX11_settled 5 = .ok (.getfield 29, 3) := by decide +kernel
theorem dX11_settled_8 : decode cX11_settled 8 = .ok (.invokevirtual 388, 3) := by decide +kernel
theorem dX11_settled_11 : decode cX11_settled 11 = .ok (.aload_n 0, 1) := by decide +kernel
theorem dX11_settled_12 : decode cX11_settled 12 = .ok (.iconst 2, 1) := by decide +kernel
theorem dX11_settled_13 : decode cX11_settled 13 = .ok (.iload_n 1, 1) := by decide +kernel
theorem dX11_settled_14 : decode cX11_settled 14 = .ok (.invokevirtual 284, 3) := by decide +kernel
theorem dX11_settled_17 : decode cX11_settled 17 = .ok (.ireturn, 1) := by decide +kernel
theorem dX11_settled_18 : decode cX11_settled 18 = .ok (.aload_n 0, 1) := by decide +kernel
theorem dX11_settled_19 : decode cX11_settled 19 = .ok (.getfield 29, 3) := by decide +kernel
theorem dX11_settled_22 : decode cX11_settled 22 = .ok (.invokevirtual 305, 3) := by decide +kernel
theorem dX11_settled_25 : decode cX11_settled 25 = .ok (.iload_n 1, 1) := by decide +kernel
theorem dX11_settled_26 : decode cX11_settled 26 = .ok (.ireturn, 1) := by decide +kernel
