theorem dX12_matches_89 : decode cX12_matches 89 = .ok (.ifCond .ne 5, 3) := by decide +kernel
theorem dX12_matches_92 : decode cX12_matches 92 = .ok (.iconst 0, 1) := by decide +kernel
theorem dX12_matches_93 : decode cX12_matches 93 = .ok (.ireturn, 1) := by decide +kernel
theorem dX12_matches_94 : decode cX12_matches 94 = .ok (.iinc 3 1, 3) := by decide +kernel
theorem dX12_matches_97 : decode cX12_matches 97 = .ok (.goto (-33), 3) := by decide +kernel
theorem dX12_matches_100 : decode cX12_matches 100 = .ok (.iconst 1, 1) := by decide +kernel
theorem dX12_matches_101 : decode cX12_matches 101 = .ok (.ireturn, 1) := by decide +kernel
theorem dX12_doesMatch_0 : decode cX12_doesMatch 0 = .ok (.iconst 0, 1) := by decide +kernel
theorem dX12_doesMatch_1 : decode cX12_doesMatch 1 = .ok (.istore_n 3, 1) := by decide +kernel
theorem dX12_doesMatch_2 : decode cX12_doesMatch 2 = .ok (.iload_n 3, 1) := by decide +kernel
theorem dX12_doesMatch_3 : decode cX12_doesMatch 3 = .ok (.bipush 8, 2) := by decide +kernel
theorem dX12_doesMatch_5 : decode cX12_doesMatch 5 = .ok (.if_icmp .ge 16, 3) := by decide +kernel
theorem dX12_doesMatch_8 : decode cX12_doesMatch 8 = .ok (.aload_n 0, 1) := by decide +kernel
theorem dX12_doesMatch_9 : decode cX12_doesMatch 9 = .ok (.getfield 41, 3) := by decide +kernel
theorem dX12_doesMatch_12 : decode cX12_doesMatch 12 = .ok (.iload_n 3, 1) := by decide +kernel
theorem dX12_doesMatch_13 : decode cX12_doesMatch 13 = .ok (.iconst (-1), 1) := by decide +kernel
theorem dX12_doesMatch_14 : decode cX12_doesMatch 14 = .ok (.iastore, 1) := by decide +kernel
theorem dX12_doesMatch_15 : decode cX12_doesMatch 15 = .ok (.iinc 3 1, 3) := by decide +kernel
theorem dX12_doesMatch_18 : decode cX12_doesMatch 18 = .ok (.goto (-16), 3) := by decide +kernel
theorem dX12_doesMatch_21 : decode cX12_doesMatch 21 = .ok (.aload_n 0, 1) := by decide +kernel
theorem dX12_doesMatch_22 : decode cX12_doesMatch 22 = .ok (.iload_n 1, 1) := by decide +kernel
theorem dX12_doesMatch_23 : decode cX12_doesMatch 23 = .ok (.iload_n 2, 1) := by decide +kernel
theorem dX12_doesMatch_24 : decode cX12_doesMatch 24 = .ok (.invokevirtual 145, 3) := by decide +kernel
theorem dX12_doesMatch_27 : decode cX12_doesMatch 27 = .ok (.ireturn, 1) := by decide +kernel
theorem dX12_remade_0 : decode cX12_remade 0 = .ok (.aload_n 0, 1) := by decide +kernel
theorem dX12_remade_1 : decode cX12_remade 1 = .ok (.aload_n 0, 1) := by decide +kernel
theorem dX12_remade_2 : decode cX12_remade 2 = .ok (.iload_n 1, 1) := by decide +kernel
theorem dX12_remade_3 : decode cX12_remade 3 = .ok (.invokevirtual 74, 3) := by decide +kernel
theorem dX12_remade_6 : decode cX12_remade 6 = .ok (.iload_n 2, 1) := by decide +kernel
theorem dX12_remade_7 : decode cX12_remade 7 = .ok (.iload_n 3, 1) := by decide +kernel
theorem dX12_remade_8 : decode cX12_remade 8 = .ok (.iload 4, 2) := by decide +kernel
theorem dX12_remade_10 : decode cX12_remade 10 = .ok (.invokevirtual 107, 3) := by decide +kernel
theorem dX12_remade_13 : decode cX12_remade 13 = .ok (.ireturn, 1) := by decide +kernel
theorem dX12_appliedBy_0 : decode cX12_appliedBy 0 = .ok (.aload_n 0, 1) := by decide +kernel
theorem dX12_appliedBy_1 : decode cX12_appliedBy 1 = .ok (.getfield 92, 3) := by decide +kernel
theorem dX12_appliedBy_4 : decode cX12_appliedBy 4 = .ok (.ifCond .eq 5, 3) := by decide +kernel
theorem dX12_appliedBy_7 : decode cX12_appliedBy 7 = .ok (.iconst 0, 1) := by decide +kernel
theorem dX12_appliedBy_8 : decode cX12_appliedBy 8 = .ok (.ireturn, 1) := by decide +kernel
theorem dX12_appliedBy_9 : decode cX12_appliedBy 9 = .ok (.aload_n 0, 1) := by decide +kernel
theorem dX12_appliedBy_10 : decode cX12_appliedBy 10 = .ok (.iload_n 1, 1) := by decide +kernel
theorem dX12_appliedBy_11 : decode cX12_appliedBy 11 = .ok (.invokevirtual 78, 3) := by decide +kernel
theorem dX12_appliedBy_14 : decode cX12_appliedBy 14 = .ok (.ifCond .eq 26, 3) := by decide +kernel
theorem dX12_appliedBy_17 : decode cX12_appliedBy 17 = .ok (.aload_n 2, 1) := by decide +kernel
theorem dX12_appliedBy_18 : decode cX12_appliedBy 18 = .ok (.aload_n 0, 1) := by decide +kernel
theorem dX12_appliedBy_19 : decode cX12_appliedBy 19 = .ok (.iload_n 1, 1) := by decide +kernel
theorem dX12_appliedBy_20 : decode cX12_appliedBy 20 = .ok (.invokevirtual 123, 3) := by decide +kernel
theorem dX12_appliedBy_23 : decode cX12_appliedBy 23 = .ok (.iaload, 1) := by decide +kernel
theorem dX12_appliedBy_24 : decode cX12_appliedBy 24 = .ok (.iconst (-1), 1) := by decide +kernel
theorem dX12_appliedBy_25 : decode cX12_appliedBy 25 = .ok (.if_icmp .ne 7, 3) := by decide +kernel
theorem dX12_appliedBy_28 : decode cX12_appliedBy 28 = .ok (.iload_n 1, 1) := by decide +kernel
theorem dX12_appliedBy_29 : decode cX12_appliedBy 29 = .ok (.goto 10, 3) := by decide +kernel
theorem dX12_appliedBy_32 : decode cX12_appliedBy 32 = .ok (.aload_n 2, 1) := by decide +kernel
theorem dX12_appliedBy_33 : decode cX12_appliedBy 33 = .ok (.aload_n 0, 1) := by decide +kernel
theorem dX12_appliedBy_34 : decode cX12_appliedBy 34 = .ok (.iload_n 1, 1) := by decide +kernel
theorem dX12_appliedBy_35 : decode cX12_appliedBy 35 = .ok (.invokevirtual 123, 3) := by decide +kernel
theorem dX12_appliedBy_38 : decode cX12_appliedBy 38 = .ok (.iaload, 1) := by decide +kernel
theorem dX12_appliedBy_39 : decode cX12_appliedBy 39 = .ok (.ireturn, 1) := by decide +kernel
theorem dX12_appliedBy_40 : decode cX12_appliedBy 40 = .ok (.aload_n 0, 1) := by decide +kernel
theorem dX12_appliedBy_41 : decode cX12_appliedBy 41 = .ok (.iload_n 1, 1) := by decide +kernel
theorem dX12_appliedBy_42 : decode cX12_appliedBy 42 = .ok (.invokevirtual 111, 3) := by decide +kernel
theorem dX12_appliedBy_45 : decode cX12_appliedBy 45 = .ok (.istore_n 3, 1) := by decide +kernel
theorem dX12_appliedBy_46 : decode cX12_appliedBy 46 = .ok (.iload_n 3, 1) := by decide +kernel
theorem dX12_appliedBy_47 : decode cX12_appliedBy 47 = .ok (.ifCond .le 17, 3) := by decide +kernel
theorem dX12_appliedBy_50 : decode cX12_appliedBy 50 = .ok (.aload_n 0, 1) := by decide +kernel
theorem dX12_appliedBy_51 : decode cX12_appliedBy 51 = .ok (.aload_n 0, 1) := by decide +kernel
theorem dX12_appliedBy_52 : decode cX12_appliedBy 52 = .ok (.iload_n 1, 1) := by decide +kernel
theorem dX12_appliedBy_53 : decode cX12_appliedBy 53 = .ok (.iconst 0, 1) := by decide +kernel
theorem dX12_appliedBy_54 : decode cX12_appliedBy 54 = .ok (.invokevirtual 88, 3) := by decide +kernel
theorem dX12_appliedBy_57 : decode cX12_appliedBy 57 = .ok (.aload_n 2, 1) := by decide +kernel
theorem dX12_appliedBy_58 : decode cX12_appliedBy 58 = .ok (.invokevirtual 148, 3) := by decide +kernel
theorem dX12_appliedBy_61 : decode cX12_appliedBy 61 = .ok (.goto 4, 3) := by decide +kernel
theorem dX12_appliedBy_64 : decode cX12_appliedBy 64 = .ok (.iconst 0, 1) := by decide +kernel
theorem dX12_appliedBy_65 : decode cX12_appliedBy 65 = .ok (.istore 4, 2) := by decide +kernel
theorem dX12_appliedBy_67 : decode cX12_appliedBy 67 = .ok (.iload_n 3, 1) := by decide +kernel
theorem dX12_appliedBy_68 : decode cX12_appliedBy 68 = .ok (.iconst 1, 1) := by decide +kernel
theorem dX12_appliedBy_69 : decode cX12_appliedBy 69 = .ok (.if_icmp .le 17, 3) := by decide +kernel
theorem dX12_appliedBy_72 : decode cX12_appliedBy 72 = .ok (.aload_n 0, 1) := by decide +kernel
theorem dX12_appliedBy_73 : decode cX12_appliedBy 73 = .ok (.aload_n 0, 1) := by decide +kernel
theorem dX12_appliedBy_74 : decode cX12_appliedBy 74 = .ok (.iload_n 1, 1) := by decide +kernel
theorem dX12_appliedBy_75 : decode cX12_appliedBy 75 = .ok (.iconst 1, 1) := by decide +kernel
theorem dX12_appliedBy_76 : decode cX12_appliedBy 76 = .ok (.invokevirtual 88, 3) := by decide +kernel
theorem dX12_appliedBy_79 : decode cX12_appliedBy 79 = .ok (.aload_n 2, 1) := by decide +kernel
theorem dX12_appliedBy_80 : decode cX12_appliedBy 80 = .ok (.invokevirtual 148, 3) := by decide +kernel
theorem dX12_appliedBy_83 : decode cX12_appliedBy 83 = .ok (.goto 4, 3) := by decide +kernel
theorem dX12_appliedBy_86 : decode cX12_appliedBy 86 = .ok (.iconst 0, 1) := by decide +kernel
theorem dX12_appliedBy_87 : decode cX12_appliedBy 87 = .ok (.istore 5, 2) := by decide +kernel
theorem dX12_appliedBy_89 : decode cX12_appliedBy 89 = .ok (.iload_n 3, 1) := by decide +kernel
theorem dX12_appliedBy_90 : decode cX12_appliedBy 90 = .ok (.iconst 2, 1) := by decide +kernel
theorem dX12_appliedBy_91 : decode cX12_appliedBy 91 = .ok (.if_icmp .le 17, 3) := by decide +kernel
theorem dX12_appliedBy_94 : decode cX12_appliedBy 94 = .ok (.aload_n 0, 1) := by decide +kernel
theorem dX12_appliedBy_95 : decode cX12_appliedBy 95 = .ok (.aload_n 0, 1) := by decide +kernel
theorem dX12_appliedBy_96 : decode cX12_appliedBy 96 = .ok (.iload_n 1, 1) := by decide +kernel
theorem dX12_appliedBy_97 : decode cX12_appliedBy 97 = .ok (.iconst 2, 1) := by decide +kernel
theorem dX12_appliedBy_98 : decode cX12_appliedBy 98 = .ok (.invokevirtual 88, 3) := by decide +kernel
theorem dX12_appliedBy_101 : decode cX12_appliedBy 101 = .ok (.aload_n 2, 1) := by decide +kernel
theorem dX12_appliedBy_102 : decode cX12_appliedBy 102 = .ok (.invokevirtual 148, 3) := by decide +kernel
theorem dX12_appliedBy_105 : decode cX12_appliedBy 105 = .ok (.goto 4, 3) := by decide +kernel
theorem dX12_appliedBy_108 : decode cX12_appliedBy 108 = .ok (.iconst 0, 1) := by decide +kernel
theorem dX12_appliedBy_109 : decode cX12_appliedBy 109 = .ok (.istore 6, 2) := by decide +kernel
theorem dX12_appliedBy_111 : decode cX12_appliedBy 111 = .ok (.aload_n 0, 1) := by decide +kernel
theorem dX12_appliedBy_112 : decode cX12_appliedBy 112 = .ok (.iload_n 1, 1) := by decide +kernel
theorem dX12_appliedBy_113 : decode cX12_appliedBy 113 = .ok (.iload 4, 2) := by decide +kernel
theorem dX12_appliedBy_115 : decode cX12_appliedBy 115 = .ok (.iload 5, 2) := by decide +kernel
theorem dX12_appliedBy_117 : decode cX12_appliedBy 117 = .ok (.iload 6, 2) := by decide +kernel
theorem dX12_appliedBy_119 : decode cX12_appliedBy 119 = .ok (.invokevirtual 152, 3) := by decide +kernel
theorem dX12_appliedBy_122 : decode cX12_appliedBy 122 = .ok (.ireturn, 1) := by decide +kernel
theorem dX12_laysBound_0 : decode cX12_laysBound 0 = .ok (.iconst 0, 1) := by decide +kernel
theorem dX12_laysBound_1 : decode cX12_laysBound 1 = .ok (.istore_n 1, 1) := by decide +kernel
theorem dX12_laysBound_2 : decode cX12_laysBound 2 = .ok (.iload_n 1, 1) := by decide +kernel
theorem dX12_laysBound_3 : decode cX12_laysBound 3 = .ok (.bipush 8, 2) := by decide +kernel
theorem dX12_laysBound_5 : decode cX12_laysBound 5 = .ok (.if_icmp .ge 25, 3) := by decide +kernel
theorem dX12_laysBound_8 : decode cX12_laysBound 8 = .ok (.aload_n 0, 1) := by decide +kernel
theorem dX12_laysBound_9 : decode cX12_laysBound 9 = .ok (.getfield 44, 3) := by decide +kernel
theorem dX12_laysBound_12 : decode cX12_laysBound 12 = .ok (.iload_n 1, 1) := by decide +kernel
theorem dX12_laysBound_13 : decode cX12_laysBound 13 = .ok (.aload_n 0, 1) := by decide +kernel
theorem dX12_laysBound_14 : decode cX12_laysBound 14 = .ok (.getfield 9, 3) := by decide +kernel
theorem dX12_laysBound_17 : decode cX12_laysBound 17 = .ok (.iconst 1, 1) := by decide +kernel
theorem dX12_laysBound_18 : decode cX12_laysBound 18 = .ok (.iload_n 1, 1) := by decide +kernel
theorem dX12_laysBound_19 : decode cX12_laysBound 19 = .ok (.iadd, 1) := by decide +kernel
theorem dX12_laysBound_20 : decode cX12_laysBound 20 = .ok (.iaload, 1) := by decide +kernel
theorem dX12_laysBound_21 : decode cX12_laysBound 21 = .ok (.iconst 1, 1) := by decide +kernel
theorem dX12_laysBound_22 : decode cX12_laysBound 22 = .ok (.isub, 1) := by decide +kernel
theorem dX12_laysBound_23 : decode cX12_laysBound 23 = .ok (.iastore, 1) := by decide +kernel
theorem dX12_laysBound_24 : decode cX12_laysBound 24 = .ok (.iinc 1 1, 3) := by decide +kernel
theorem dX12_laysBound_27 : decode cX12_laysBound 27 = .ok (.goto (-25), 3) := by decide +kernel
theorem dX12_laysBound_30 : decode cX12_laysBound 30 = .ok (.return_, 1) := by decide +kernel
theorem dX12_isRing_0 : decode cX12_isRing 0 = .ok (.iconst 0, 1) := by decide +kernel
theorem dX12_isRing_1 : decode cX12_isRing 1 = .ok (.istore_n 2, 1) := by decide +kernel
theorem dX12_isRing_2 : decode cX12_isRing 2 = .ok (.iconst 0, 1) := by decide +kernel
theorem dX12_isRing_3 : decode cX12_isRing 3 = .ok (.istore_n 3, 1) := by decide +kernel
theorem dX12_isRing_4 : decode cX12_isRing 4 = .ok (.iload_n 3, 1) := by decide +kernel
theorem dX12_isRing_5 : decode cX12_isRing 5 = .ok (.bipush 8, 2) := by decide +kernel
theorem dX12_isRing_7 : decode cX12_isRing 7 = .ok (.if_icmp .ge 59, 3) := by decide +kernel
theorem dX12_isRing_10 : decode cX12_isRing 10 = .ok (.aload_n 0, 1) := by decide +kernel
theorem dX12_isRing_11 : decode cX12_isRing 11 = .ok (.getfield 47, 3) := by decide +kernel
theorem dX12_isRing_14 : decode cX12_isRing 14 = .ok (.iload_n 3, 1) := by decide +kernel
theorem dX12_isRing_15 : decode cX12_isRing 15 = .ok (.aload_n 0, 1) := by decide +kernel
theorem dX12_isRing_16 : decode cX12_isRing 16 = .ok (.getfield 44, 3) := by decide +kernel
theorem dX12_isRing_19 : decode cX12_isRing 19 = .ok (.iload_n 3, 1) := by decide +kernel
theorem dX12_isRing_20 : decode cX12_isRing 20 = .ok (.iaload, 1) := by decide +kernel
theorem dX12_isRing_21 : decode cX12_isRing 21 = .ok (.iconst (-1), 1) := by decide +kernel
theorem dX12_isRing_22 : decode cX12_isRing 22 = .ok (.if_icmp .ne 7, 3) := by decide +kernel
theorem dX12_isRing_25 : decode cX12_isRing 25 = .ok (.iconst 0, 1) := by decide +kernel
theorem dX12_isRing_26 : decode cX12_isRing 26 = .ok (.goto 13, 3) := by decide +kernel
theorem dX12_isRing_29 : decode cX12_isRing 29 = .ok (.aload_n 0, 1) := by decide +kernel
theorem dX12_isRing_30 : decode cX12_isRing 30 = .ok (.aload_n 0, 1) := by decide +kernel
theorem dX12_isRing_31 : decode cX12_isRing 31 = .ok (.getfield 44, 3) := by decide +kernel
theorem dX12_isRing_34 : decode cX12_isRing 34 = .ok (.iload_n 3, 1) := by decide +kernel
theorem dX12_isRing_35 : decode cX12_isRing 35 = .ok (.iaload, 1) := by decide +kernel
theorem dX12_isRing_36 : decode cX12_isRing 36 = .ok (.invokevirtual 126, 3) := by decide +kernel
theorem dX12_isRing_39 : decode cX12_isRing 39 = .ok (.iastore, 1) := by decide +kernel
theorem dX12_isRing_40 : decode cX12_isRing 40 = .ok (.iload_n 2, 1) := by decide +kernel
theorem dX12_isRing_41 : decode cX12_isRing 41 = .ok (.aload_n 0, 1) := by decide +kernel
theorem dX12_isRing_42 : decode cX12_isRing 42 = .ok (.getfield 44, 3) := by decide +kernel
theorem dX12_isRing_45 : decode cX12_isRing 45 = .ok (.iload_n 3, 1) := by decide +kernel
theorem dX12_isRing_46 : decode cX12_isRing 46 = .ok (.iaload, 1) := by decide +kernel
theorem dX12_isRing_47 : decode cX12_isRing 47 = .ok (.iconst (-1), 1) := by decide +kernel
theorem dX12_isRing_48 : decode cX12_isRing 48 = .ok (.if_icmp .ne 7, 3) := by decide +kernel
theorem dX12_isRing_51 : decode cX12_isRing 51 = .ok (.iconst 0, 1) := by decide +kernel
theorem dX12_isRing_52 : decode cX12_isRing 52 = .ok (.goto 6, 3) := by decide +kernel
theorem dX12_isRing_55 : decode cX12_isRing 55 = .ok (.iconst 1, 1) := by decide +kernel
theorem dX12_isRing_56 : decode cX12_isRing 56 = .ok (.iload_n 3, 1) := by decide +kernel
theorem dX12_isRing_57 : decode cX12_isRing 57 = .ok (.ishl, 1) := by decide +kernel
theorem dX12_isRing_58 : decode cX12_isRing 58 = .ok (.ior, 1) := by decide +kernel
theorem dX12_isRing_59 : decode cX12_isRing 59 = .ok (.istore_n 2, 1) := by decide +kernel
theorem dX12_isRing_60 : decode cX12_isRing 60 = .ok (.iinc 3 1, 3) := by decide +kernel
theorem dX12_isRing_63 : decode cX12_isRing 63 = .ok (.goto (-59), 3) := by decide +kernel
theorem dX12_isRing_66 : decode cX12_isRing 66 = .ok (.iconst 0, 1) := by decide +kernel
theorem dX12_isRing_67 : decode cX12_isRing 67 = .ok (.istore_n 3, 1) := by decide +kernel
theorem dX12_isRing_68 : decode cX12_isRing 68 = .ok (.iload_n 3, 1) := by decide +kernel
theorem dX12_isRing_69 : decode cX12_isRing 69 = .ok (.bipush 8, 2) := by decide +kernel
theorem dX12_isRing_71 : decode cX12_isRing 71 = .ok (.if_icmp .ge 56, 3) := by decide +kernel
theorem dX12_isRing_74 : decode cX12_isRing 74 = .ok (.iconst 0, 1) := by decide +kernel
theorem dX12_isRing_75 : decode cX12_isRing 75 = .ok (.istore 4, 2) := by decide +kernel
theorem dX12_isRing_77 : decode cX12_isRing 77 = .ok (.iload 4, 2) := by decide +kernel
theorem dX12_isRing_79 : decode cX12_isRing 79 = .ok (.bipush 8, 2) := by decide +kernel
theorem dX12_isRing_81 : decode cX12_isRing 81 = .ok (.if_icmp .ge 40, 3) := by decide +kernel
theorem dX12_isRing_84 : decode cX12_isRing 84 = .ok (.aload_n 0, 1) := by decide +kernel
theorem dX12_isRing_85 : decode cX12_isRing 85 = .ok (.getfield 47, 3) := by decide +kernel
theorem dX12_isRing_88 : decode cX12_isRing 88 = .ok (.iload 4, 2) := by decide +kernel
theorem dX12_isRing_90 : decode cX12_isRing 90 = .ok (.iaload, 1) := by decide +kernel
theorem dX12_isRing_91 : decode cX12_isRing 91 = .ok (.iload_n 3, 1) := by decide +kernel
theorem dX12_isRing_92 : decode cX12_isRing 92 = .ok (.ishr, 1) := by decide +kernel
theorem dX12_isRing_93 : decode cX12_isRing 93 = .ok (.iconst 1, 1) := by decide +kernel
theorem dX12_isRing_94 : decode cX12_isRing 94 = .ok (.iand, 1) := by decide +kernel
theorem dX12_isRing_95 : decode cX12_isRing 95 = .ok (.iconst 1, 1) := by decide +kernel
theorem dX12_isRing_96 : decode cX12_isRing 96 = .ok (.if_icmp .ne 19, 3) := by decide +kernel
theorem dX12_isRing_99 : decode cX12_isRing 99 = .ok (.aload_n 0, 1) := by decide +kernel
theorem dX12_isRing_100 : decode cX12_isRing 100 = .ok (.getfield 47, 3) := by decide +kernel
theorem dX12_isRing_103 : decode cX12_isRing 103 = .ok (.iload 4, 2) := by decide +kernel
theorem dX12_isRing_105 : decode cX12_isRing 105 = .ok (.dup2, 1) := by decide +kernel
theorem dX12_isRing_106 : decode cX12_isRing 106 = .ok (.iaload, 1) := by decide +kernel
theorem dX12_isRing_107 : decode cX12_isRing 107 = .ok (.aload_n 0, 1) := by decide +kernel
theorem dX12_isRing_108 : decode cX12_isRing 108 = .ok (.getfield 47, 3) := by decide +kernel
theorem dX12_isRing_111 : decode cX12_isRing 111 = .ok (.iload_n 3, 1) := by decide +kernel
theorem dX12_isRing_112 : decode cX12_isRing 112 = .ok (.iaload, 1) := by decide +kernel
theorem dX12_isRing_113 : decode cX12_isRing 113 = .ok (.ior, 1) := by decide +kernel
theorem dX12_isRing_114 : decode cX12_isRing 114 = .ok (.iastore, 1) := by decide +kernel
theorem dX12_isRing_115 : decode cX12_isRing 115 = .ok (.iinc 4 1, 3) := by decide +kernel
theorem dX12_isRing_118 : decode cX12_isRing 118 = .ok (.goto (-41), 3) := by decide +kernel
theorem dX12_isRing_121 : decode cX12_isRing 121 = .ok (.iinc 3 1, 3) := by decide +kernel
theorem dX12_isRing_124 : decode cX12_isRing 124 = .ok (.goto (-56), 3) := by decide +kernel
theorem dX12_isRing_127 : decode cX12_isRing 127 = .ok (.aload_n 0, 1) := by decide +kernel
theorem dX12_isRing_128 : decode cX12_isRing 128 = .ok (.iload_n 1, 1) := by decide +kernel
theorem dX12_isRing_129 : decode cX12_isRing 129 = .ok (.invokevirtual 126, 3) := by decide +kernel
theorem dX12_isRing_132 : decode cX12_isRing 132 = .ok (.istore_n 3, 1) := by decide +kernel
theorem dX12_isRing_133 : decode cX12_isRing 133 = .ok (.iload_n 3, 1) := by decide +kernel
theorem dX12_isRing_134 : decode cX12_isRing 134 = .ok (.istore 4, 2) := by decide +kernel
theorem dX12_isRing_136 : decode cX12_isRing 136 = .ok (.iconst 0, 1) := by decide +kernel
theorem dX12_isRing_137 : decode cX12_isRing 137 = .ok (.istore 5, 2) := by decide +kernel
theorem dX12_isRing_139 : decode cX12_isRing 139 = .ok (.iload 5, 2) := by decide +kernel
theorem dX12_isRing_141 : decode cX12_isRing 141 = .ok (.bipush 8, 2) := by decide +kernel
theorem dX12_isRing_143 : decode cX12_isRing 143 = .ok (.if_icmp .ge 30, 3) := by decide +kernel
theorem dX12_isRing_146 : decode cX12_isRing 146 = .ok (.iload 4, 2) := by decide +kernel
theorem dX12_isRing_148 : decode cX12_isRing 148 = .ok (.iload 5, 2) := by decide +kernel
theorem dX12_isRing_150 : decode cX12_isRing 150 = .ok (.ishr, 1) := by decide +kernel
theorem dX12_isRing_151 : decode cX12_isRing 151 = .ok (.iconst 1, 1) := by decide +kernel
theorem dX12_isRing_152 : decode cX12_isRing 152 = .ok (.iand, 1) := by decide +kernel
theorem dX12_isRing_153 : decode cX12_isRing 153 = .ok (.iconst 1, 1) := by decide +kernel
theorem dX12_isRing_154 : decode cX12_isRing 154 = .ok (.if_icmp .ne 13, 3) := by decide +kernel
theorem dX12_isRing_157 : decode cX12_isRing 157 = .ok (.iload_n 3, 1) := by decide +kernel
theorem dX12_isRing_158 : decode cX12_isRing 158 = .ok (.aload_n 0, 1) := by decide +kernel
theorem dX12_isRing_159 : decode cX12_isRing 159 = .ok (.getfield 47, 3) := by decide +kernel
theorem dX12_isRing_162 : decode cX12_isRing 162 = .ok (.iload 5, 2) := by decide +kernel
theorem dX12_isRing_164 : decode cX12_isRing 164 = .ok (.iaload, 1) := by decide +kernel
theorem dX12_isRing_165 : decode cX12_isRing 165 = .ok (.ior, 1) := by decide +kernel
theorem dX12_isRing_166 : decode cX12_isRing 166 = .ok (.istore_n 3, 1) := by decide +kernel
theorem dX12_isRing_167 : decode cX12_isRing 167 = .ok (.iinc 5 1, 3) := by decide +kernel
theorem dX12_isRing_170 : decode cX12_isRing 170 = .ok (.goto (-31), 3) := by decide +kernel
theorem dX12_isRing_173 : decode cX12_isRing 173 = .ok (.iconst 0, 1) := by decide +kernel
theorem dX12_isRing_174 : decode cX12_isRing 174 = .ok (.istore 5, 2) := by decide +kernel
theorem dX12_isRing_176 : decode cX12_isRing 176 = .ok (.iload 5, 2) := by decide +kernel
theorem dX12_isRing_178 : decode cX12_isRing 178 = .ok (.bipush 8, 2) := by decide +kernel
theorem dX12_isRing_180 : decode cX12_isRing 180 = .ok (.if_icmp .ge 37, 3) := by decide +kernel
theorem dX12_isRing_183 : decode cX12_isRing 183 = .ok (.iload_n 3, 1) := by decide +kernel
theorem dX12_isRing_184 : decode cX12_isRing 184 = .ok (.iload 5, 2) := by decide +kernel
theorem dX12_isRing_186 : decode cX12_isRing 186 = .ok (.ishr, 1) := by decide +kernel
theorem dX12_isRing_187 : decode cX12_isRing 187 = .ok (.iload_n 2, 1) := by decide +kernel
theorem dX12_isRing_188 : decode cX12_isRing 188 = .ok (.iload 5, 2) := by decide +kernel
theorem dX12_isRing_190 : decode cX12_isRing 190 = .ok (.ishr, 1) := by decide +kernel
theorem dX12_isRing_191 : decode cX12_isRing 191 = .ok (.iand, 1) := by decide +kernel
theorem dX12_isRing_192 : decode cX12_isRing 192 = .ok (.aload_n 0, 1) := by decide +kernel
theorem dX12_isRing_193 : decode cX12_isRing 193 = .ok (.getfield 47, 3) := by decide +kernel
theorem dX12_isRing_196 : decode cX12_isRing 196 = .ok (.iload 5, 2) := by decide +kernel
theorem dX12_isRing_198 : decode cX12_isRing 198 = .ok (.iaload, 1) := by decide +kernel
theorem dX12_isRing_199 : decode cX12_isRing 199 = .ok (.iload 5, 2) := by decide +kernel
theorem dX12_isRing_201 : decode cX12_isRing 201 = .ok (.ishr, 1) := by decide +kernel
theorem dX12_isRing_202 : decode cX12_isRing 202 = .ok (.iand, 1) := by decide +kernel
theorem dX12_isRing_203 : decode cX12_isRing 203 = .ok (.iconst 1, 1) := by decide +kernel
theorem dX12_isRing_204 : decode cX12_isRing 204 = .ok (.iand, 1) := by decide +kernel
theorem dX12_isRing_205 : decode cX12_isRing 205 = .ok (.iconst 1, 1) := by decide +kernel
theorem dX12_isRing_206 : decode cX12_isRing 206 = .ok (.if_icmp .ne 5, 3) := by decide +kernel
theorem dX12_isRing_209 : decode cX12_isRing 209 = .ok (.iconst 1, 1) := by decide +kernel
theorem dX12_isRing_210 : decode cX12_isRing 210 = .ok (.ireturn, 1) := by decide +kernel
theorem dX12_isRing_211 : decode cX12_isRing 211 = .ok (.iinc 5 1, 3) := by decide +kernel
theorem dX12_isRing_214 : decode cX12_isRing 214 = .ok (.goto (-38), 3) := by decide +kernel
theorem dX12_isRing_217 : decode cX12_isRing 217 = .ok (.iconst 0, 1) := by decide +kernel
theorem dX12_isRing_218 : decode cX12_isRing 218 = .ok (.ireturn, 1) := by decide +kernel
theorem dX12_closedOf_0 : decode cX12_closedOf 0 = .ok (.aload_n 0, 1) := by decide +kernel
theorem dX12_closedOf_1 : decode cX12_closedOf 1 = .ok (.getfield 92, 3) := by decide +kernel
theorem dX12_closedOf_4 : decode cX12_closedOf 4 = .ok (.ifCond .eq 5, 3) := by decide +kernel
theorem dX12_closedOf_7 : decode cX12_closedOf 7 = .ok (.iconst 0, 1) := by decide +kernel
theorem dX12_closedOf_8 : decode cX12_closedOf 8 = .ok (.ireturn, 1) := by decide +kernel
theorem dX12_closedOf_9 : decode cX12_closedOf 9 = .ok (.aload_n 0, 1) := by decide +kernel
theorem dX12_closedOf_10 : decode cX12_closedOf 10 = .ok (.iload_n 1, 1) := by decide +kernel
theorem dX12_closedOf_11 : decode cX12_closedOf 11 = .ok (.invokevirtual 78, 3) := by decide +kernel
theorem dX12_closedOf_14 : decode cX12_closedOf 14 = .ok (.ifCond .eq 49, 3) := by decide +kernel
theorem dX12_closedOf_17 : decode cX12_closedOf 17 = .ok (.aload_n 0, 1) := by decide +kernel
theorem dX12_closedOf_18 : decode cX12_closedOf 18 = .ok (.getfield 44, 3) := by decide +kernel
theorem dX12_closedOf_21 : decode cX12_closedOf 21 = .ok (.aload_n 0, 1) := by decide +kernel
theorem dX12_closedOf_22 : decode cX12_closedOf 22 = .ok (.iload_n 1, 1) := by decide +kernel
theorem dX12_closedOf_23 : decode cX12_closedOf 23 = .ok (.invokevirtual 123, 3) := by decide +kernel
theorem dX12_closedOf_26 : decode cX12_closedOf 26 = .ok (.iaload, 1) := by decide +kernel
theorem dX12_closedOf_27 : decode cX12_closedOf 27 = .ok (.iconst (-1), 1) := by decide +kernel
theorem dX12_closedOf_28 : decode cX12_closedOf 28 = .ok (.if_icmp .ne 19, 3) := by decide +kernel
theorem dX12_closedOf_31 : decode cX12_closedOf 31 = .ok (.aload_n 0, 1) := by decide +kernel
theorem dX12_closedOf_32 : decode cX12_closedOf 32 = .ok (.iload_n 2, 1) := by decide +kernel
theorem dX12_closedOf_33 : decode cX12_closedOf 33 = .ok (.invokevirtual 155, 3) := by decide +kernel
theorem dX12_closedOf_36 : decode cX12_closedOf 36 = .ok (.ifCond .eq 7, 3) := by decide +kernel
theorem dX12_closedOf_39 : decode cX12_closedOf 39 = .ok (.iconst 0, 1) := by decide +kernel
theorem dX12_closedOf_40 : decode cX12_closedOf 40 = .ok (.goto 22, 3) := by decide +kernel
theorem dX12_closedOf_43 : decode cX12_closedOf 43 = .ok (.iload_n 1, 1) := by decide +kernel
theorem dX12_closedOf_44 : decode cX12_closedOf 44 = .ok (.goto 18, 3) := by decide +kernel
theorem dX12_closedOf_47 : decode cX12_closedOf 47 = .ok (.aload_n 0, 1) := by decide +kernel
theorem dX12_closedOf_48 : decode cX12_closedOf 48 = .ok (.aload_n 0, 1) := by decide +kernel
theorem dX12_closedOf_49 : decode cX12_closedOf 49 = .ok (.getfield 44, 3) := by decide +kernel
theorem dX12_closedOf_52 : decode cX12_closedOf 52 = .ok (.aload_n 0, 1) := by decide +kernel
theorem dX12_closedOf_53 : decode cX12_closedOf 53 = .ok (.iload_n 1, 1) := by decide +kernel
theorem dX12_closedOf_54 : decode cX12_closedOf 54 = .ok (.invokevirtual 123, 3) := by decide +kernel
theorem dX12_closedOf_57 : decode cX12_closedOf 57 = .ok (.iaload, 1) := by decide +kernel
theorem dX12_closedOf_58 : decode cX12_closedOf 58 = .ok (.iload_n 2, 1) := by decide +kernel
theorem dX12_closedOf_59 : decode cX12_closedOf 59 = .ok (.invokevirtual 158, 3) := by decide +kernel
theorem dX12_closedOf_62 : decode cX12_closedOf 62 = .ok (.ireturn, 1) := by decide +kernel
theorem dX12_closedOf_63 : decode cX12_closedOf 63 = .ok (.aload_n 0, 1) := by decide +kernel
theorem dX12_closedOf_64 : decode cX12_closedOf 64 = .ok (.iload_n 2, 1) := by decide +kernel
theorem dX12_closedOf_65 : decode cX12_closedOf 65 = .ok (.invokevirtual 155, 3) := by decide +kernel
theorem dX12_closedOf_68 : decode cX12_closedOf 68 = .ok (.ifCond .eq 5, 3) := by decide +kernel
theorem dX12_closedOf_71 : decode cX12_closedOf 71 = .ok (.iconst 0, 1) := by decide +kernel
theorem dX12_closedOf_72 : decode cX12_closedOf 72 = .ok (.ireturn, 1) := by decide +kernel
theorem dX12_closedOf_73 : decode cX12_closedOf 73 = .ok (.aload_n 0, 1) := by decide +kernel
theorem dX12_closedOf_74 : decode cX12_closedOf 74 = .ok (.iload_n 1, 1) := by decide +kernel
theorem dX12_closedOf_75 : decode cX12_closedOf 75 = .ok (.invokevirtual 111, 3) := by decide +kernel
theorem dX12_closedOf_78 : decode cX12_closedOf 78 = .ok (.istore_n 3, 1) := by decide +kernel
theorem dX12_closedOf_79 : decode cX12_closedOf 79 = .ok (.iload_n 3, 1) := by decide +kernel
theorem dX12_closedOf_80 : decode cX12_closedOf 80 = .ok (.ifCond .le 19, 3) := by decide +kernel
theorem dX12_closedOf_83 : decode cX12_closedOf 83 = .ok (.aload_n 0, 1) := by decide +kernel
theorem dX12_closedOf_84 : decode cX12_closedOf 84 = .ok (.aload_n 0, 1) := by decide +kernel
theorem dX12_closedOf_85 : decode cX12_closedOf 85 = .ok (.iload_n 1, 1) := by decide +kernel
theorem dX12_closedOf_86 : decode cX12_closedOf 86 = .ok (.iconst 0, 1) := by decide +kernel
theorem dX12_closedOf_87 : decode cX12_closedOf 87 = .ok (.invokevirtual 88, 3) := by decide +kernel
theorem dX12_closedOf_90 : decode cX12_closedOf 90 = .ok (.iload_n 2, 1) := by decide +kernel
theorem dX12_closedOf_91 : decode cX12_closedOf 91 = .ok (.iconst 1, 1) := by decide +kernel
theorem dX12_closedOf_92 : decode cX12_closedOf 92 = .ok (.iadd, 1) := by decide +kernel
theorem dX12_closedOf_93 : decode cX12_closedOf 93 = .ok (.invokevirtual 158, 3) := by decide +kernel
theorem dX12_closedOf_96 : decode cX12_closedOf 96 = .ok (.goto 4, 3) := by decide +kernel
theorem dX12_closedOf_99 : decode cX12_closedOf 99 = .ok (.iconst 0, 1) := by decide +kernel
theorem dX12_closedOf_100 : decode cX12_closedOf 100 = .ok (.istore 4, 2) := by decide +kernel
theorem dX12_closedOf_102 : decode cX12_closedOf 102 = .ok (.iload_n 3, 1) := by decide +kernel
theorem dX12_closedOf_103 : decode cX12_closedOf 103 = .ok (.iconst 1, 1) := by decide +kernel
theorem dX12_closedOf_104 : decode cX12_closedOf 104 = .ok (.if_icmp .le 19, 3) := by decide +kernel
theorem dX12_closedOf_107 : decode cX12_closedOf 107 = .ok (.aload_n 0, 1) := by decide +kernel
theorem dX12_closedOf_108 : decode cX12_closedOf 108 = .ok (.aload_n 0, 1) := by decide +kernel
theorem dX12_closedOf_109 : decode cX12_closedOf 109 = .ok (.iload_n 1, 1) := by decide +kernel
theorem dX12_closedOf_110 : decode cX12_closedOf 110 = .ok (.iconst 1, 1) := by decide +kernel
theorem dX12_closedOf_111 : decode cX12_closedOf 111 = .ok (.invokevirtual 88, 3) := by decide +kernel
theorem dX12_closedOf_114 : decode cX12_closedOf 114 = .ok (.iload_n 2, 1) := by decide +kernel
theorem dX12_closedOf_115 : decode cX12_closedOf 115 = .ok (.iconst 1, 1) := by decide +kernel
theorem dX12_closedOf_116 : decode cX12_closedOf 116 = .ok (.iadd, 1) := by decide +kernel
theorem dX12_closedOf_117 : decode cX12_closedOf 117 = .ok (.invokevirtual 158, 3) := by decide +kernel
theorem dX12_closedOf_120 : decode cX12_closedOf 120 = .ok (.goto 4, 3) := by decide +kernel
theorem dX12_closedOf_123 : decode cX12_closedOf 123 = .ok (.iconst 0, 1) := by decide +kernel
theorem dX12_closedOf_124 : decode cX12_closedOf 124 = .ok (.istore 5, 2) := by decide +kernel
theorem dX12_closedOf_126 : decode cX12_closedOf 126 = .ok (.iload_n 3, 1) := by decide +kernel
theorem dX12_closedOf_127 : decode cX12_closedOf 127 = .ok (.iconst 2, 1) := by decide +kernel
theorem dX12_closedOf_128 : decode cX12_closedOf 128 = .ok (.if_icmp .le 19, 3) := by decide +kernel
theorem dX12_closedOf_131 : decode cX12_closedOf 131 = .ok (.aload_n 0, 1) := by decide +kernel
theorem dX12_closedOf_132 : decode cX12_closedOf 132 = .ok (.aload_n 0, 1) := by decide +kernel
theorem dX12_closedOf_133 : decode cX12_closedOf 133 = .ok (.iload_n 1, 1) := by decide +kernel
theorem dX12_closedOf_134 : decode cX12_closedOf 134 = .ok (.iconst 2, 1) := by decide +kernel
theorem dX12_closedOf_135 : decode cX12_closedOf 135 = .ok (.invokevirtual 88, 3) := by decide +kernel
theorem dX12_closedOf_138 : decode cX12_closedOf 138 = .ok (.iload_n 2, 1) := by decide +kernel
theorem dX12_closedOf_139 : decode cX12_closedOf 139 = .ok (.iconst 1, 1) := by decide +kernel
theorem dX12_closedOf_140 : decode cX12_closedOf 140 = .ok (.iadd, 1) := by decide +kernel
theorem dX12_closedOf_141 : decode cX12_closedOf 141 = .ok (.invokevirtual 158, 3) := by decide +kernel
theorem dX12_closedOf_144 : decode cX12_closedOf 144 = .ok (.goto 4, 3) := by decide +kernel
theorem dX12_closedOf_147 : decode cX12_closedOf 147 = .ok (.iconst 0, 1) := by decide +kernel
theorem dX12_closedOf_148 : decode cX12_closedOf 148 = .ok (.istore 6, 2) := by decide +kernel
theorem dX12_closedOf_150 : decode cX12_closedOf 150 = .ok (.aload_n 0, 1) := by decide +kernel
theorem dX12_closedOf_151 : decode cX12_closedOf 151 = .ok (.iload_n 1, 1) := by decide +kernel
theorem dX12_closedOf_152 : decode cX12_closedOf 152 = .ok (.iload 4, 2) := by decide +kernel
theorem dX12_closedOf_154 : decode cX12_closedOf 154 = .ok (.iload 5, 2) := by decide +kernel
theorem dX12_closedOf_156 : decode cX12_closedOf 156 = .ok (.iload 6, 2) := by decide +kernel
theorem dX12_closedOf_158 : decode cX12_closedOf 158 = .ok (.invokevirtual 152, 3) := by decide +kernel
theorem dX12_closedOf_161 : decode cX12_closedOf 161 = .ok (.ireturn, 1) := by decide +kernel
theorem dX12_isTooDeep_0 : decode cX12_isTooDeep 0 = .ok (.aload_n 0, 1) := by decide +kernel
theorem dX12_isTooDeep_1 : decode cX12_isTooDeep 1 = .ok (.aload_n 0, 1) := by decide +kernel
theorem dX12_isTooDeep_2 : decode cX12_isTooDeep 2 = .ok (.getfield 92, 3) := by decide +kernel
theorem dX12_isTooDeep_5 : decode cX12_isTooDeep 5 = .ok (.ifCond .ne 9, 3) := by decide +kernel
theorem dX12_isTooDeep_8 : decode cX12_isTooDeep 8 = .ok (.iload_n 1, 1) := by decide +kernel
theorem dX12_isTooDeep_9 : decode cX12_isTooDeep 9 = .ok (.bipush 6, 2) := by decide +kernel
theorem dX12_isTooDeep_11 : decode cX12_isTooDeep 11 = .ok (.if_icmp .le 7, 3) := by decide +kernel
theorem dX12_isTooDeep_14 : decode cX12_isTooDeep 14 = .ok (.iconst 1, 1) := by decide +kernel
theorem dX12_isTooDeep_15 : decode cX12_isTooDeep 15 = .ok (.goto 4, 3) := by decide +kernel
theorem dX12_isTooDeep_18 : decode cX12_isTooDeep 18 = .ok (.iconst 0, 1) := by decide +kernel
theorem dX12_isTooDeep_19 : decode cX12_isTooDeep 19 = .ok (.putfield 92, 3) := by decide +kernel
theorem dX12_isTooDeep_22 : decode cX12_isTooDeep 22 = .ok (.aload_n 0, 1) := by decide +kernel
theorem dX12_isTooDeep_23 : decode cX12_isTooDeep 23 = .ok (.getfield 92, 3) := by decide +kernel
theorem dX12_isTooDeep_26 : decode cX12_isTooDeep 26 = .ok (.ireturn, 1) := by decide +kernel
theorem dX12_top_0 : decode cX12_top 0 = .ok (.iload_n 1, 1) := by decide +kernel
theorem dX12_top_1 : decode cX12_top 1 = .ok (.istore_n 2, 1) := by decide +kernel
theorem dX12_top_2 : decode cX12_top 2 = .ok (.aload_n 0, 1) := by decide +kernel
theorem dX12_top_3 : decode cX12_top 3 = .ok (.getfield 50, 3) := by decide +kernel
theorem dX12_top_6 : decode cX12_top 6 = .ok (.iload_n 2, 1) := by decide +kernel
theorem dX12_top_7 : decode cX12_top 7 = .ok (.iaload, 1) := by decide +kernel
theorem dX12_top_8 : decode cX12_top 8 = .ok (.iload_n 2, 1) := by decide +kernel
theorem dX12_top_9 : decode cX12_top 9 = .ok (.if_icmp .eq 13, 3) := by decide +kernel
theorem dX12_top_12 : decode cX12_top 12 = .ok (.aload_n 0, 1) := by decide +kernel
theorem dX12_top_13 : decode cX12_top 13 = .ok (.getfield 50, 3) := by decide +kernel
theorem dX12_top_16 : decode cX12_top 16 = .ok (.iload_n 2, 1) := by decide +kernel
theorem dX12_top_17 : decode cX12_top 17 = .ok (.iaload, 1) := by decide +kernel
theorem dX12_top_18 : decode cX12_top 18 = .ok (.istore_n 2, 1) := by decide +kernel
theorem dX12_top_19 : decode cX12_top 19 = .ok (.goto (-17), 3) := by decide +kernel
theorem dX12_top_22 : decode cX12_top 22 = .ok (.iload_n 2, 1) := by decide +kernel
theorem dX12_top_23 : decode cX12_top 23 = .ok (.ireturn, 1) := by decide +kernel
theorem dX12_argumentOf_0 : decode cX12_argumentOf 0 = .ok (.iload_n 1, 1) := by decide +kernel
theorem dX12_argumentOf_1 : decode cX12_argumentOf 1 = .ok (.sipush 400, 3) := by decide +kernel
theorem dX12_argumentOf_4 : decode cX12_argumentOf 4 = .ok (.idiv, 1) := by decide +kernel
theorem dX12_argumentOf_5 : decode cX12_argumentOf 5 = .ok (.sipush 400, 3) := by decide +kernel
theorem dX12_argumentOf_8 : decode cX12_argumentOf 8 = .ok (.imul, 1) := by decide +kernel
theorem dX12_argumentOf_9 : decode cX12_argumentOf 9 = .ok (.aload_n 0, 1) := by decide +kernel
theorem dX12_argumentOf_10 : decode cX12_argumentOf 10 = .ok (.iload_n 1, 1) := by decide +kernel
theorem dX12_argumentOf_11 : decode cX12_argumentOf 11 = .ok (.sipush 400, 3) := by decide +kernel
theorem dX12_argumentOf_14 : decode cX12_argumentOf 14 = .ok (.irem, 1) := by decide +kernel
theorem dX12_argumentOf_15 : decode cX12_argumentOf 15 = .ok (.iload_n 2, 1) := by decide +kernel
theorem dX12_argumentOf_16 : decode cX12_argumentOf 16 = .ok (.invokevirtual 88, 3) := by decide +kernel
theorem dX12_argumentOf_19 : decode cX12_argumentOf 19 = .ok (.iadd, 1) := by decide +kernel
theorem dX12_argumentOf_20 : decode cX12_argumentOf 20 = .ok (.ireturn, 1) := by decide +kernel
theorem dX12_beginsClasses_0 : decode cX12_beginsClasses 0 = .ok (.iconst 0, 1) := by decide +kernel
theorem dX12_beginsClasses_1 : decode cX12_beginsClasses 1 = .ok (.istore_n 1, 1) := by decide +kernel
theorem dX12_beginsClasses_2 : decode cX12_beginsClasses 2 = .ok (.iload_n 1, 1) := by decide +kernel
theorem dX12_beginsClasses_3 : decode cX12_beginsClasses 3 = .ok (.sipush 800, 3) := by decide +kernel
theorem dX12_beginsClasses_6 : decode cX12_beginsClasses 6 = .ok (.if_icmp .ge 94, 3) := by decide +kernel
theorem dX12_beginsClasses_9 : decode cX12_beginsClasses 9 = .ok (.iload_n 1, 1) := by decide +kernel
theorem dX12_beginsClasses_10 : decode cX12_beginsClasses 10 = .ok (.sipush 400, 3) := by decide +kernel
theorem dX12_beginsClasses_13 : decode cX12_beginsClasses 13 = .ok (.irem, 1) := by decide +kernel
theorem dX12_beginsClasses_14 : decode cX12_beginsClasses 14 = .ok (.istore_n 2, 1) := by decide +kernel
theorem dX12_beginsClasses_15 : decode cX12_beginsClasses 15 = .ok (.iload_n 2, 1) := by decide +kernel
theorem dX12_beginsClasses_16 : decode cX12_beginsClasses 16 = .ok (.aload_n 0, 1) := by decide +kernel
theorem dX12_beginsClasses_17 : decode cX12_beginsClasses 17 = .ok (.invokevirtual 96, 3) := by decide +kernel
theorem dX12_beginsClasses_20 : decode cX12_beginsClasses 20 = .ok (.if_icmp .ge 7, 3) := by decide +kernel
theorem dX12_beginsClasses_23 : decode cX12_beginsClasses 23 = .ok (.iconst 1, 1) := by decide +kernel
theorem dX12_beginsClasses_24 : decode cX12_beginsClasses 24 = .ok (.goto 4, 3) := by decide +kernel
theorem dX12_beginsClasses_27 : decode cX12_beginsClasses 27 = .ok (.iconst 0, 1) := by decide +kernel
theorem dX12_beginsClasses_28 : decode cX12_beginsClasses 28 = .ok (.istore_n 3, 1) := by decide +kernel
theorem dX12_beginsClasses_29 : decode cX12_beginsClasses 29 = .ok (.aload_n 0, 1) := by decide +kernel
theorem dX12_beginsClasses_30 : decode cX12_beginsClasses 30 = .ok (.getfield 50, 3) := by decide +kernel
theorem dX12_beginsClasses_33 : decode cX12_beginsClasses 33 = .ok (.iload_n 1, 1) := by decide +kernel
theorem dX12_beginsClasses_34 : decode cX12_beginsClasses 34 = .ok (.iload_n 1, 1) := by decide +kernel
theorem dX12_beginsClasses_35 : decode cX12_beginsClasses 35 = .ok (.iastore, 1) := by decide +kernel
theorem dX12_beginsClasses_36 : decode cX12_beginsClasses 36 = .ok (.aload_n 0, 1) := by decide +kernel
theorem dX12_beginsClasses_37 : decode cX12_beginsClasses 37 = .ok (.getfield 53, 3) := by decide +kernel
theorem dX12_beginsClasses_40 : decode cX12_beginsClasses 40 = .ok (.iload_n 1, 1) := by decide +kernel
theorem dX12_beginsClasses_41 : decode cX12_beginsClasses 41 = .ok (.iload_n 3, 1) := by decide +kernel
theorem dX12_beginsClasses_42 : decode cX12_beginsClasses 42 = .ok (.ifCond .eq 15, 3) := by decide +kernel
theorem dX12_beginsClasses_45 : decode cX12_beginsClasses 45 = .ok (.aload_n 0, 1) := by decide +kernel
theorem dX12_beginsClasses_46 : decode cX12_beginsClasses 46 = .ok (.iload_n 2, 1) := by decide +kernel
theorem dX12_beginsClasses_47 : decode cX12_beginsClasses 47 = .ok (.invokevirtual 78, 3) := by decide +kernel
theorem dX12_beginsClasses_50 : decode cX12_beginsClasses 50 = .ok (.ifCond .ne 7, 3) := by decide +kernel
theorem dX12_beginsClasses_53 : decode cX12_beginsClasses 53 = .ok (.iload_n 1, 1) := by decide +kernel
theorem dX12_beginsClasses_54 : decode cX12_beginsClasses 54 = .ok (.goto 4, 3) := by decide +kernel
theorem dX12_beginsClasses_57 : decode cX12_beginsClasses 57 = .ok (.iconst (-1), 1) := by decide +kernel
theorem dX12_beginsClasses_58 : decode cX12_beginsClasses 58 = .ok (.iastore, 1) := by decide +kernel
theorem dX12_beginsClasses_59 : decode cX12_beginsClasses 59 = .ok (.aload_n 0, 1) := by decide +kernel
theorem dX12_beginsClasses_60 : decode cX12_beginsClasses 60 = .ok (.getfield 56, 3) := by decide +kernel
theorem dX12_beginsClasses_63 : decode cX12_beginsClasses 63 = .ok (.iload_n 1, 1) := by decide +kernel
theorem dX12_beginsClasses_64 : decode cX12_beginsClasses 64 = .ok (.iload_n 3, 1) := by decide +kernel
theorem dX12_beginsClasses_65 : decode cX12_beginsClasses 65 = .ok (.ifCond .eq 19, 3) := by decide +kernel
theorem dX12_beginsClasses_68 : decode cX12_beginsClasses 68 = .ok (.aload_n 0, 1) := by decide +kernel
theorem dX12_beginsClasses_69 : decode cX12_beginsClasses 69 = .ok (.iload_n 2, 1) := by decide +kernel
theorem dX12_beginsClasses_70 : decode cX12_beginsClasses 70 = .ok (.invokevirtual 78, 3) := by decide +kernel
theorem dX12_beginsClasses_73 : decode cX12_beginsClasses 73 = .ok (.ifCond .eq 11, 3) := by decide +kernel
theorem dX12_beginsClasses_76 : decode cX12_beginsClasses 76 = .ok (.aload_n 0, 1) := by decide +kernel
theorem dX12_beginsClasses_77 : decode cX12_beginsClasses 77 = .ok (.iload_n 2, 1) := by decide +kernel
theorem dX12_beginsClasses_78 : decode cX12_beginsClasses 78 = .ok (.invokevirtual 123, 3) := by decide +kernel
theorem dX12_beginsClasses_81 : decode cX12_beginsClasses 81 = .ok (.goto 5, 3) := by decide +kernel
theorem dX12_beginsClasses_84 : decode cX12_beginsClasses 84 = .ok (.bipush 8, 2) := by decide +kernel
theorem dX12_beginsClasses_86 : decode cX12_beginsClasses 86 = .ok (.iastore, 1) := by decide +kernel
theorem dX12_beginsClasses_87 : decode cX12_beginsClasses 87 = .ok (.aload_n 0, 1) := by decide +kernel
theorem dX12_beginsClasses_88 : decode cX12_beginsClasses 88 = .ok (.getfield 59, 3) := by decide +kernel
theorem dX12_beginsClasses_91 : decode cX12_beginsClasses 91 = .ok (.iload_n 1, 1) := by decide +kernel
theorem dX12_beginsClasses_92 : decode cX12_beginsClasses 92 = .ok (.iconst 0, 1) := by decide +kernel
theorem dX12_beginsClasses_93 : decode cX12_beginsClasses 93 = .ok (.iastore, 1) := by decide +kernel
theorem dX12_beginsClasses_94 : decode cX12_beginsClasses 94 = .ok (.iinc 1 1, 3) := by decide +kernel
theorem dX12_beginsClasses_97 : decode cX12_beginsClasses 97 = .ok (.goto (-95), 3) := by decide +kernel
theorem dX12_beginsClasses_100 : decode cX12_beginsClasses 100 = .ok (.aload_n 0, 1) := by decide +kernel
theorem dX12_beginsClasses_101 : decode cX12_beginsClasses 101 = .ok (.iconst 0, 1) := by decide +kernel
theorem dX12_beginsClasses_102 : decode cX12_beginsClasses 102 = .ok (.putfield 161, 3) := by decide +kernel
theorem dX12_beginsClasses_105 : decode cX12_beginsClasses 105 = .ok (.return_, 1) := by decide +kernel
theorem dX12_joins_0 : decode cX12_joins 0 = .ok (.aload_n 0, 1) := by decide +kernel
theorem dX12_joins_1 : decode cX12_joins 1 = .ok (.iload_n 1, 1) := by decide +kernel
theorem dX12_joins_2 : decode cX12_joins 2 = .ok (.invokevirtual 164, 3) := by decide +kernel
theorem dX12_joins_5 : decode cX12_joins 5 = .ok (.istore_n 3, 1) := by decide +kernel
theorem dX12_joins_6 : decode cX12_joins 6 = .ok (.aload_n 0, 1) := by decide +kernel
theorem dX12_joins_7 : decode cX12_joins 7 = .ok (.iload_n 2, 1) := by decide +kernel
theorem dX12_joins_8 : decode cX12_joins 8 = .ok (.invokevirtual 164, 3) := by decide +kernel
theorem dX12_joins_11 : decode cX12_joins 11 = .ok (.istore 4, 2) := by decide +kernel
theorem dX12_joins_13 : decode cX12_joins 13 = .ok (.iload_n 3, 1) := by decide +kernel
theorem dX12_joins_14 : decode cX12_joins 14 = .ok (.iload 4, 2) := by decide +kernel
theorem dX12_joins_16 : decode cX12_joins 16 = .ok (.if_icmp .ne 4, 3) := by decide +kernel
theorem dX12_joins_19 : decode cX12_joins 19 = .ok (.return_, 1) := by decide +kernel
theorem dX12_joins_20 : decode cX12_joins 20 = .ok (.aload_n 0, 1) := by decide +kernel
theorem dX12_joins_21 : decode cX12_joins 21 = .ok (.getfield 53, 3) := by decide +kernel
theorem dX12_joins_24 : decode cX12_joins 24 = .ok (.iload_n 3, 1) := by decide +kernel
theorem dX12_joins_25 : decode cX12_joins 25 = .ok (.iaload, 1) := by decide +kernel
theorem dX12_joins_26 : decode cX12_joins 26 = .ok (.istore 5, 2) := by decide +kernel
theorem dX12_joins_28 : decode cX12_joins 28 = .ok (.aload_n 0, 1) := by decide +kernel
theorem dX12_joins_29 : decode cX12_joins 29 = .ok (.getfield 53, 3) := by decide +kernel
theorem dX12_joins_32 : decode cX12_joins 32 = .ok (.iload 4, 2) := by decide +kernel
theorem dX12_joins_34 : decode cX12_joins 34 = .ok (.iaload, 1) := by decide +kernel
theorem dX12_joins_35 : decode cX12_joins 35 = .ok (.istore 6, 2) := by decide +kernel
theorem dX12_joins_37 : decode cX12_joins 37 = .ok (.aload_n 0, 1) := by decide +kernel
theorem dX12_joins_38 : decode cX12_joins 38 = .ok (.getfield 50, 3) := by decide +kernel
theorem dX12_joins_41 : decode cX12_joins 41 = .ok (.iload 4, 2) := by decide +kernel
theorem dX12_joins_43 : decode cX12_joins 43 = .ok (.iload_n 3, 1) := by decide +kernel
theorem dX12_joins_44 : decode cX12_joins 44 = .ok (.iastore, 1) := by decide +kernel
theorem dX12_joins_45 : decode cX12_joins 45 = .ok (.iload 5, 2) := by decide +kernel
theorem dX12_joins_47 : decode cX12_joins 47 = .ok (.iconst (-1), 1) := by decide +kernel
theorem dX12_joins_48 : decode cX12_joins 48 = .ok (.if_icmp .ne 11, 3) := by decide +kernel
theorem dX12_joins_51 : decode cX12_joins 51 = .ok (.aload_n 0, 1) := by decide +kernel
theorem dX12_joins_52 : decode cX12_joins 52 = .ok (.getfield 53, 3) := by decide +kernel
theorem dX12_joins_55 : decode cX12_joins 55 = .ok (.iload_n 3, 1) := by decide +kernel
theorem dX12_joins_56 : decode cX12_joins 56 = .ok (.iload 6, 2) := by decide +kernel
theorem dX12_joins_58 : decode cX12_joins 58 = .ok (.iastore, 1) := by decide +kernel
theorem dX12_joins_59 : decode cX12_joins 59 = .ok (.aload_n 0, 1) := by decide +kernel
theorem dX12_joins_60 : decode cX12_joins 60 = .ok (.getfield 56, 3) := by decide +kernel
theorem dX12_joins_63 : decode cX12_joins 63 = .ok (.iload 4, 2) := by decide +kernel
theorem dX12_joins_65 : decode cX12_joins 65 = .ok (.iaload, 1) := by decide +kernel
theorem dX12_joins_66 : decode cX12_joins 66 = .ok (.aload_n 0, 1) := by decide +kernel
theorem dX12_joins_67 : decode cX12_joins 67 = .ok (.getfield 56, 3) := by decide +kernel
theorem dX12_joins_70 : decode cX12_joins 70 = .ok (.iload_n 3, 1) := by decide +kernel
theorem dX12_joins_71 : decode cX12_joins 71 = .ok (.iaload, 1) := by decide +kernel
theorem dX12_joins_72 : decode cX12_joins 72 = .ok (.if_icmp .ge 16, 3) := by decide +kernel
theorem dX12_joins_75 : decode cX12_joins 75 = .ok (.aload_n 0, 1) := by decide +kernel
theorem dX12_joins_76 : decode cX12_joins 76 = .ok (.getfield 56, 3) := by decide +kernel
theorem dX12_joins_79 : decode cX12_joins 79 = .ok (.iload_n 3, 1) := by decide +kernel
theorem dX12_joins_80 : decode cX12_joins 80 = .ok (.aload_n 0, 1) := by decide +kernel
theorem dX12_joins_81 : decode cX12_joins 81 = .ok (.getfield 56, 3) := by decide +kernel
theorem dX12_joins_84 : decode cX12_joins 84 = .ok (.iload 4, 2) := by decide +kernel
theorem dX12_joins_86 : decode cX12_joins 86 = .ok (.iaload, 1) := by decide +kernel
theorem dX12_joins_87 : decode cX12_joins 87 = .ok (.iastore, 1) := by decide +kernel
theorem dX12_joins_88 : decode cX12_joins 88 = .ok (.iload 5, 2) := by decide +kernel
theorem dX12_joins_90 : decode cX12_joins 90 = .ok (.iconst (-1), 1) := by decide +kernel
theorem dX12_joins_91 : decode cX12_joins 91 = .ok (.if_icmp .eq 9, 3) := by decide +kernel
theorem dX12_joins_94 : decode cX12_joins 94 = .ok (.iload 6, 2) := by decide +kernel
theorem dX12_joins_96 : decode cX12_joins 96 = .ok (.iconst (-1), 1) := by decide +kernel
theorem dX12_joins_97 : decode cX12_joins 97 = .ok (.if_icmp .ne 4, 3) := by decide +kernel
theorem dX12_joins_100 : decode cX12_joins 100 = .ok (.return_, 1) := by decide +kernel
theorem dX12_joins_101 : decode cX12_joins 101 = .ok (.aload_n 0, 1) := by decide +kernel
theorem dX12_joins_102 : decode cX12_joins 102 = .ok (.iload 5, 2) := by decide +kernel
theorem dX12_joins_104 : decode cX12_joins 104 = .ok (.sipush 400, 3) := by decide +kernel
theorem dX12_joins_107 : decode cX12_joins 107 = .ok (.irem, 1) := by decide +kernel
theorem dX12_joins_108 : decode cX12_joins 108 = .ok (.invokevirtual 74, 3) := by decide +kernel
theorem dX12_joins_111 : decode cX12_joins 111 = .ok (.aload_n 0, 1) := by decide +kernel
theorem dX12_joins_112 : decode cX12_joins 112 = .ok (.iload 6, 2) := by decide +kernel
theorem dX12_joins_114 : decode cX12_joins 114 = .ok (.sipush 400, 3) := by decide +kernel
theorem dX12_joins_117 : decode cX12_joins 117 = .ok (.irem, 1) := by decide +kernel
theorem dX12_joins_118 : decode cX12_joins 118 = .ok (.invokevirtual 74, 3) := by decide +kernel
theorem dX12_joins_121 : decode cX12_joins 121 = .ok (.if_icmp .eq 9, 3) := by decide +kernel
theorem dX12_joins_124 : decode cX12_joins 124 = .ok (.aload_n 0, 1) := by decide +kernel
theorem dX12_joins_125 : decode cX12_joins 125 = .ok (.iconst 1, 1) := by decide +kernel
theorem dX12_joins_126 : decode cX12_joins 126 = .ok (.putfield 161, 3) := by decide +kernel
theorem dX12_joins_129 : decode cX12_joins 129 = .ok (.return_, 1) := by decide +kernel
theorem dX12_joins_130 : decode cX12_joins 130 = .ok (.iconst 0, 1) := by decide +kernel
theorem dX12_joins_131 : decode cX12_joins 131 = .ok (.istore 7, 2) := by decide +kernel
theorem dX12_joins_133 : decode cX12_joins 133 = .ok (.iload 7, 2) := by decide +kernel
theorem dX12_joins_135 : decode cX12_joins 135 = .ok (.aload_n 0, 1) := by decide +kernel
theorem dX12_joins_136 : decode cX12_joins 136 = .ok (.iload 5, 2) := by decide +kernel
theorem dX12_joins_138 : decode cX12_joins 138 = .ok (.sipush 400, 3) := by decide +kernel
theorem dX12_joins_141 : decode cX12_joins 141 = .ok (.irem, 1) := by decide +kernel
theorem dX12_joins_142 : decode cX12_joins 142 = .ok (.invokevirtual 111, 3) := by decide +kernel
theorem dX12_joins_145 : decode cX12_joins 145 = .ok (.if_icmp .ge 29, 3) := by decide +kernel
theorem dX12_joins_148 : decode cX12_joins 148 = .ok (.aload_n 0, 1) := by decide +kernel
theorem dX12_joins_149 : decode cX12_joins 149 = .ok (.aload_n 0, 1) := by decide +kernel
theorem dX12_joins_150 : decode cX12_joins 150 = .ok (.iload 5, 2) := by decide +kernel
theorem dX12_joins_152 : decode cX12_joins 152 = .ok (.iload 7, 2) := by decide +kernel
theorem dX12_joins_154 : decode cX12_joins 154 = .ok (.invokevirtual 167, 3) := by decide +kernel
theorem dX12_joins_157 : decode cX12_joins 157 = .ok (.aload_n 0, 1) := by decide +kernel
theorem dX12_joins_158 : decode cX12_joins 158 = .ok (.iload 6, 2) := by decide +kernel
theorem dX12_joins_160 : decode cX12_joins 160 = .ok (.iload 7, 2) := by decide +kernel
theorem dX12_joins_162 : decode cX12_joins 162 = .ok (.invokevirtual 167, 3) := by decide +kernel
theorem dX12_joins_165 : decode cX12_joins 165 = .ok (.invokevirtual 170, 3) := by decide +kernel
theorem dX12_joins_168 : decode cX12_joins 168 = .ok (.iinc 7 1, 3) := by decide +kernel
theorem dX12_joins_171 : decode cX12_joins 171 = .ok (.goto (-38), 3) := by decide +kernel
theorem dX12_joins_174 : decode cX12_joins 174 = .ok (.return_, 1) := by decide +kernel
theorem dX12_turns_0 : decode cX12_turns 0 = .ok (.aload_n 0, 1) := by decide +kernel
theorem dX12_turns_1 : decode cX12_turns 1 = .ok (.iload_n 1, 1) := by decide +kernel
theorem dX12_turns_2 : decode cX12_turns 2 = .ok (.invokevirtual 164, 3) := by decide +kernel
theorem dX12_turns_5 : decode cX12_turns 5 = .ok (.istore_n 2, 1) := by decide +kernel
theorem dX12_turns_6 : decode cX12_turns 6 = .ok (.aload_n 0, 1) := by decide +kernel
theorem dX12_turns_7 : decode cX12_turns 7 = .ok (.getfield 59, 3) := by decide +kernel
theorem dX12_turns_10 : decode cX12_turns 10 = .ok (.iload_n 2, 1) := by decide +kernel
theorem dX12_turns_11 : decode cX12_turns 11 = .ok (.iaload, 1) := by decide +kernel
theorem dX12_turns_12 : decode cX12_turns 12 = .ok (.iconst 2, 1) := by decide +kernel
theorem dX12_turns_13 : decode cX12_turns 13 = .ok (.if_icmp .eq 13, 3) := by decide +kernel
theorem dX12_turns_16 : decode cX12_turns 16 = .ok (.aload_n 0, 1) := by decide +kernel
theorem dX12_turns_17 : decode cX12_turns 17 = .ok (.getfield 53, 3) := by decide +kernel
theorem dX12_turns_20 : decode cX12_turns 20 = .ok (.iload_n 2, 1) := by decide +kernel
theorem dX12_turns_21 : decode cX12_turns 21 = .ok (.iaload, 1) := by decide +kernel
theorem dX12_turns_22 : decode cX12_turns 22 = .ok (.iconst (-1), 1) := by decide +kernel
theorem dX12_turns_23 : decode cX12_turns 23 = .ok (.if_icmp .ne 5, 3) := by decide +kernel
theorem dX12_turns_26 : decode cX12_turns 26 = .ok (.iconst 0, 1) := by decide +kernel
theorem dX12_turns_27 : decode cX12_turns 27 = .ok (.ireturn, 1) := by decide +kernel
theorem dX12_turns_28 : decode cX12_turns 28 = .ok (.aload_n 0, 1) := by decide +kernel
theorem dX12_turns_29 : decode cX12_turns 29 = .ok (.getfield 59, 3) := by decide +kernel
theorem dX12_turns_32 : decode cX12_turns 32 = .ok (.iload_n 2, 1) := by decide +kernel
theorem dX12_turns_33 : decode cX12_turns 33 = .ok (.iaload, 1) := by decide +kernel
theorem dX12_turns_34 : decode cX12_turns 34 = .ok (.iconst 1, 1) := by decide +kernel
theorem dX12_turns_35 : decode cX12_turns 35 = .ok (.if_icmp .ne 5, 3) := by decide +kernel
theorem dX12_turns_38 : decode cX12_turns 38 = .ok (.iconst 1, 1) := by decide +kernel
theorem dX12_turns_39 : decode cX12_turns 39 = .ok (.ireturn, 1) := by decide +kernel
theorem dX12_turns_40 : decode cX12_turns 40 = .ok (.aload_n 0, 1) := by decide +kernel
theorem dX12_turns_41 : decode cX12_turns 41 = .ok (.getfield 59, 3) := by decide +kernel
theorem dX12_turns_44 : decode cX12_turns 44 = .ok (.iload_n 2, 1) := by decide +kernel
theorem dX12_turns_45 : decode cX12_turns 45 = .ok (.iconst 1, 1) := by decide +kernel
theorem dX12_turns_46 : decode cX12_turns 46 = .ok (.iastore, 1) := by decide +kernel
theorem dX12_turns_47 : decode cX12_turns 47 = .ok (.iconst 0, 1) := by decide +kernel
theorem dX12_turns_48 : decode cX12_turns 48 = .ok (.istore_n 3, 1) := by decide +kernel
theorem dX12_turns_49 : decode cX12_turns 49 = .ok (.iload_n 3, 1) := by decide +kernel
theorem dX12_turns_50 : decode cX12_turns 50 = .ok (.aload_n 0, 1) := by decide +kernel
theorem dX12_turns_51 : decode cX12_turns 51 = .ok (.aload_n 0, 1) := by decide +kernel
theorem dX12_turns_52 : decode cX12_turns 52 = .ok (.getfield 53, 3) := by decide +kernel
theorem dX12_turns_55 : decode cX12_turns 55 = .ok (.iload_n 2, 1) := by decide +kernel
theorem dX12_turns_56 : decode cX12_turns 56 = .ok (.iaload, 1) := by decide +kernel
theorem dX12_turns_57 : decode cX12_turns 57 = .ok (.sipush 400, 3) := by decide +kernel
theorem dX12_turns_60 : decode cX12_turns 60 = .ok (.irem, 1) := by decide +kernel
theorem dX12_turns_61 : decode cX12_turns 61 = .ok (.invokevirtual 111, 3) := by decide +kernel
theorem dX12_turns_64 : decode cX12_turns 64 = .ok (.if_icmp .ge 29, 3) := by decide +kernel
theorem dX12_turns_67 : decode cX12_turns 67 = .ok (.aload_n 0, 1) := by decide +kernel
theorem dX12_turns_68 : decode cX12_turns 68 = .ok (.aload_n 0, 1) := by decide +kernel
theorem dX12_turns_69 : decode cX12_turns 69 = .ok (.aload_n 0, 1) := by decide +kernel
theorem dX12_turns_70 : decode cX12_turns 70 = .ok (.getfield 53, 3) := by decide +kernel
theorem dX12_turns_73 : decode cX12_turns 73 = .ok (.iload_n 2, 1) := by decide +kernel
theorem dX12_turns_74 : decode cX12_turns 74 = .ok (.iaload, 1) := by decide +kernel
theorem dX12_turns_75 : decode cX12_turns 75 = .ok (.iload_n 3, 1) := by decide +kernel
theorem dX12_turns_76 : decode cX12_turns 76 = .ok (.invokevirtual 167, 3) := by decide +kernel
theorem dX12_turns_79 : decode cX12_turns 79 = .ok (.invokevirtual 174, 3) := by decide +kernel
theorem dX12_turns_82 : decode cX12_turns 82 = .ok (.ifCond .eq 5, 3) := by decide +kernel
theorem dX12_turns_85 : decode cX12_turns 85 = .ok (.iconst 1, 1) := by decide +kernel
theorem dX12_turns_86 : decode cX12_turns 86 = .ok (.ireturn, 1) := by decide +kernel
theorem dX12_turns_87 : decode cX12_turns 87 = .ok (.iinc 3 1, 3) := by decide +kernel
theorem dX12_turns_90 : decode cX12_turns 90 = .ok (.goto (-41), 3) := by decide +kernel
theorem dX12_turns_93 : decode cX12_turns 93 = .ok (.aload_n 0, 1) := by decide +kernel
theorem dX12_turns_94 : decode cX12_turns 94 = .ok (.getfield 59, 3) := by decide +kernel
theorem dX12_turns_97 : decode cX12_turns 97 = .ok (.iload_n 2, 1) := by decide +kernel
theorem dX12_turns_98 : decode cX12_turns 98 = .ok (.iconst 2, 1) := by decide +kernel
theorem dX12_turns_99 : decode cX12_turns 99 = .ok (.iastore, 1) := by decide +kernel
theorem dX12_turns_100 : decode cX12_turns 100 = .ok (.iconst 0, 1) := by decide +kernel
theorem dX12_turns_101 : decode cX12_turns 101 = .ok (.ireturn, 1) := by decide +kernel
theorem dX12_unifies_0 : decode cX12_unifies 0 = .ok (.aload_n 0, 1) := by decide +kernel
theorem dX12_unifies_1 : decode cX12_unifies 1 = .ok (.invokevirtual 177, 3) := by decide +kernel
theorem dX12_unifies_4 : decode cX12_unifies 4 = .ok (.aload_n 0, 1) := by decide +kernel
theorem dX12_unifies_5 : decode cX12_unifies 5 = .ok (.iload_n 1, 1) := by decide +kernel
theorem dX12_unifies_6 : decode cX12_unifies 6 = .ok (.iload_n 2, 1) := by decide +kernel
theorem dX12_unifies_7 : decode cX12_unifies 7 = .ok (.invokevirtual 170, 3) := by decide +kernel
theorem dX12_unifies_10 : decode cX12_unifies 10 = .ok (.aload_n 0, 1) := by decide +kernel
theorem dX12_unifies_11 : decode cX12_unifies 11 = .ok (.getfield 161, 3) := by decide +kernel
theorem dX12_unifies_14 : decode cX12_unifies 14 = .ok (.ifCond .eq 7, 3) := by decide +kernel
theorem dX12_unifies_17 : decode cX12_unifies 17 = .ok (.iconst 0, 1) := by decide +kernel
theorem dX12_unifies_18 : decode cX12_unifies 18 = .ok (.goto 24, 3) := by decide +kernel
theorem dX12_unifies_21 : decode cX12_unifies 21 = .ok (.aload_n 0, 1) := by decide +kernel
theorem dX12_unifies_22 : decode cX12_unifies 22 = .ok (.iload_n 1, 1) := by decide +kernel
theorem dX12_unifies_23 : decode cX12_unifies 23 = .ok (.invokevirtual 174, 3) := by decide +kernel
theorem dX12_unifies_26 : decode cX12_unifies 26 = .ok (.ifCond .ne 11, 3) := by decide +kernel
theorem dX12_unifies_29 : decode cX12_unifies 29 = .ok (.aload_n 0, 1) := by decide +kernel
theorem dX12_unifies_30 : decode cX12_unifies 30 = .ok (.iload_n 2, 1) := by decide +kernel
theorem dX12_unifies_31 : decode cX12_unifies 31 = .ok (.invokevirtual 174, 3) := by decide +kernel
theorem dX12_unifies_34 : decode cX12_unifies 34 = .ok (.ifCond .eq 7, 3) := by decide +kernel
theorem dX12_unifies_37 : decode cX12_unifies 37 = .ok (.iconst 2, 1) := by decide +kernel
theorem dX12_unifies_38 : decode cX12_unifies 38 = .ok (.goto 4, 3) := by decide +kernel
theorem dX12_unifies_41 : decode cX12_unifies 41 = .ok (.iconst 1, 1) := by decide +kernel
theorem dX12_unifies_42 : decode cX12_unifies 42 = .ok (.ireturn, 1) := by decide +kernel
theorem dX12_solved_0 : decode cX12_solved 0 = .ok (.aload_n 0, 1) := by decide +kernel
theorem dX12_solved_1 : decode cX12_solved 1 = .ok (.iload_n 1, 1) := by decide +kernel
theorem dX12_solved_2 : decode cX12_solved 2 = .ok (.invokevirtual 164, 3) := by decide +kernel
theorem dX12_solved_5 : decode cX12_solved 5 = .ok (.istore_n 3, 1) := by decide +kernel
theorem dX12_solved_6 : decode cX12_solved 6 = .ok (.aload_n 0, 1) := by decide +kernel
theorem dX12_solved_7 : decode cX12_solved 7 = .ok (.iload_n 2, 1) := by decide +kernel
theorem dX12_solved_8 : decode cX12_solved 8 = .ok (.invokevirtual 155, 3) := by decide +kernel
theorem dX12_solved_11 : decode cX12_solved 11 = .ok (.ifCond .eq 5, 3) := by decide +kernel
theorem dX12_solved_14 : decode cX12_solved 14 = .ok (.iconst 0, 1) := by decide +kernel
theorem dX12_solved_15 : decode cX12_solved 15 = .ok (.ireturn, 1) := by decide +kernel
theorem dX12_solved_16 : decode cX12_solved 16 = .ok (.aload_n 0, 1) := by decide +kernel
theorem dX12_solved_17 : decode cX12_solved 17 = .ok (.getfield 53, 3) := by decide +kernel
theorem dX12_solved_20 : decode cX12_solved 20 = .ok (.iload_n 3, 1) := by decide +kernel
theorem dX12_solved_21 : decode cX12_solved 21 = .ok (.iaload, 1) := by decide +kernel
theorem dX12_solved_22 : decode cX12_solved 22 = .ok (.iconst (-1), 1) := by decide +kernel
theorem dX12_solved_23 : decode cX12_solved 23 = .ok (.if_icmp .ne 14, 3) := by decide +kernel
theorem dX12_solved_26 : decode cX12_solved 26 = .ok (.aload_n 0, 1) := by decide +kernel
theorem dX12_solved_27 : decode cX12_solved 27 = .ok (.aload_n 0, 1) := by decide +kernel
theorem dX12_solved_28 : decode cX12_solved 28 = .ok (.getfield 56, 3) := by decide +kernel
theorem dX12_solved_31 : decode cX12_solved 31 = .ok (.iload_n 3, 1) := by decide +kernel
theorem dX12_solved_32 : decode cX12_solved 32 = .ok (.iaload, 1) := by decide +kernel
theorem dX12_solved_33 : decode cX12_solved 33 = .ok (.invokevirtual 180, 3) := by decide +kernel
theorem dX12_solved_36 : decode cX12_solved 36 = .ok (.ireturn, 1) := by decide +kernel
theorem dX12_solved_37 : decode cX12_solved 37 = .ok (.aload_n 0, 1) := by decide +kernel
theorem dX12_solved_38 : decode cX12_solved 38 = .ok (.getfield 53, 3) := by decide +kernel
theorem dX12_solved_41 : decode cX12_solved 41 = .ok (.iload_n 3, 1) := by decide +kernel
theorem dX12_solved_42 : decode cX12_solved 42 = .ok (.iaload, 1) := by decide +kernel
theorem dX12_solved_43 : decode cX12_solved 43 = .ok (.istore 4, 2) := by decide +kernel
theorem dX12_solved_45 : decode cX12_solved 45 = .ok (.aload_n 0, 1) := by decide +kernel
theorem dX12_solved_46 : decode cX12_solved 46 = .ok (.iload 4, 2) := by decide +kernel
theorem dX12_solved_48 : decode cX12_solved 48 = .ok (.invokevirtual 111, 3) := by decide +kernel
theorem dX12_solved_51 : decode cX12_solved 51 = .ok (.istore 5, 2) := by decide +kernel
theorem dX12_solved_53 : decode cX12_solved 53 = .ok (.iload 5, 2) := by decide +kernel
theorem dX12_solved_55 : decode cX12_solved 55 = .ok (.ifCond .le 20, 3) := by decide +kernel
theorem dX12_solved_58 : decode cX12_solved 58 = .ok (.aload_n 0, 1) := by decide +kernel
theorem dX12_solved_59 : decode cX12_solved 59 = .ok (.aload_n 0, 1) := by decide +kernel
theorem dX12_solved_60 : decode cX12_solved 60 = .ok (.iload 4, 2) := by decide +kernel
theorem dX12_solved_62 : decode cX12_solved 62 = .ok (.iconst 0, 1) := by decide +kernel
theorem dX12_solved_63 : decode cX12_solved 63 = .ok (.invokevirtual 88, 3) := by decide +kernel
theorem dX12_solved_66 : decode cX12_solved 66 = .ok (.iload_n 2, 1) := by decide +kernel
theorem dX12_solved_67 : decode cX12_solved 67 = .ok (.iconst 1, 1) := by decide +kernel
theorem dX12_solved_68 : decode cX12_solved 68 = .ok (.iadd, 1) := by decide +kernel
theorem dX12_solved_69 : decode cX12_solved 69 = .ok (.invokevirtual 183, 3) := by decide +kernel
theorem dX12_solved_72 : decode cX12_solved 72 = .ok (.goto 4, 3) := by decide +kernel
theorem dX12_solved_75 : decode cX12_solved 75 = .ok (.iconst 0, 1) := by decide +kernel
theorem dX12_solved_76 : decode cX12_solved 76 = .ok (.istore 6, 2) := by decide +kernel
theorem dX12_solved_78 : decode cX12_solved 78 = .ok (.iload 5, 2) := by decide +kernel
theorem dX12_solved_80 : decode cX12_solved 80 = .ok (.iconst 1, 1) := by decide +kernel
theorem dX12_solved_81 : decode cX12_solved 81 = .ok (.if_icmp .le 20, 3) := by decide +kernel
theorem dX12_solved_84 : decode cX12_solved 84 = .ok (.aload_n 0, 1) := by decide +kernel
theorem dX12_solved_85 : decode cX12_solved 85 = .ok (.aload_n 0, 1) := by decide +kernel
theorem dX12_solved_86 : decode cX12_solved 86 = .ok (.iload 4, 2) := by decide +kernel
theorem dX12_solved_88 : decode cX12_solved 88 = .ok (.iconst 1, 1) := by decide +kernel
theorem dX12_solved_89 : decode cX12_solved 89 = .ok (.invokevirtual 88, 3) := by decide +kernel
theorem dX12_solved_92 : decode cX12_solved 92 = .ok (.iload_n 2, 1) := by decide +kernel
theorem dX12_solved_93 : decode cX12_solved 93 = .ok (.iconst 1, 1) := by decide +kernel
theorem dX12_solved_94 : decode cX12_solved 94 = .ok (.iadd, 1) := by decide +kernel
theorem dX12_solved_95 : decode cX12_solved 95 = .ok (.invokevirtual 183, 3) := by decide +kernel
theorem dX12_solved_98 : decode cX12_solved 98 = .ok (.goto 4, 3) := by decide +kernel
theorem dX12_solved_101 : decode cX12_solved 101 = .ok (.iconst 0, 1) := by decide +kernel
theorem dX12_solved_102 : decode cX12_solved 102 = .ok (.istore 7, 2) := by decide +kernel
theorem dX12_solved_104 : decode cX12_solved 104 = .ok (.iload 5, 2) := by decide +kernel
theorem dX12_solved_106 : decode cX12_solved 106 = .ok (.iconst 2, 1) := by decide +kernel
theorem dX12_solved_107 : decode cX12_solved 107 = .ok (.if_icmp .le 20, 3) := by decide +kernel
theorem dX12_solved_110 : decode cX12_solved 110 = .ok (.aload_n 0, 1) := by decide +kernel
theorem dX12_solved_111 : decode cX12_solved 111 = .ok (.aload_n 0, 1) := by decide +kernel
theorem dX12_solved_112 : decode cX12_solved 112 = .ok (.iload 4, 2) := by decide +kernel
theorem dX12_solved_114 : decode cX12_solved 114 = .ok (.iconst 2, 1) := by decide +kernel
theorem dX12_solved_115 : decode cX12_solved 115 = .ok (.invokevirtual 88, 3) := by decide +kernel
theorem dX12_solved_118 : decode cX12_solved 118 = .ok (.iload_n 2, 1) := by decide +kernel
theorem dX12_solved_119 : decode cX12_solved 119 = .ok (.iconst 1, 1) := by decide +kernel
theorem dX12_solved_120 : decode cX12_solved 120 = .ok (.iadd, 1) := by decide +kernel
theorem dX12_solved_121 : decode cX12_solved 121 = .ok (.invokevirtual 183, 3) := by decide +kernel
theorem dX12_solved_124 : decode cX12_solved 124 = .ok (.goto 4, 3) := by decide +kernel
theorem dX12_solved_127 : decode cX12_solved 127 = .ok (.iconst 0, 1) := by decide +kernel
theorem dX12_solved_128 : decode cX12_solved 128 = .ok (.istore 8, 2) := by decide +kernel
theorem dX12_solved_130 : decode cX12_solved 130 = .ok (.aload_n 0, 1) := by decide +kernel
theorem dX12_solved_131 : decode cX12_solved 131 = .ok (.iload 4, 2) := by decide +kernel
theorem dX12_solved_133 : decode cX12_solved 133 = .ok (.iload 6, 2) := by decide +kernel
theorem dX12_solved_135 : decode cX12_solved 135 = .ok (.iload 7, 2) := by decide +kernel
theorem dX12_solved_137 : decode cX12_solved 137 = .ok (.iload 8, 2) := by decide +kernel
theorem dX12_solved_139 : decode cX12_solved 139 = .ok (.invokevirtual 152, 3) := by decide +kernel
theorem dX12_solved_142 : decode cX12_solved 142 = .ok (.ireturn, 1) := by decide +kernel
theorem dX12_thereOf_0 : decode cX12_thereOf 0 = .ok (.iconst 0, 1) := by decide +kernel
theorem dX12_thereOf_1 : decode cX12_thereOf 1 = .ok (.istore_n 2, 1) := by decide +kernel
theorem dX12_thereOf_2 : decode cX12_thereOf 2 = .ok (.iload_n 2, 1) := by decide +kernel
theorem dX12_thereOf_3 : decode cX12_thereOf 3 = .ok (.aload_n 0, 1) := by decide +kernel
theorem dX12_thereOf_4 : decode cX12_thereOf 4 = .ok (.invokevirtual 96, 3) := by decide +kernel
theorem dX12_thereOf_7 : decode cX12_thereOf 7 = .ok (.if_icmp .ge 22, 3) := by decide +kernel
theorem dX12_thereOf_10 : decode cX12_thereOf 10 = .ok (.aload_n 0, 1) := by decide +kernel
theorem dX12_thereOf_11 : decode cX12_thereOf 11 = .ok (.iload_n 2, 1) := by decide +kernel
theorem dX12_thereOf_12 : decode cX12_thereOf 12 = .ok (.invokevirtual 74, 3) := by decide +kernel
theorem dX12_thereOf_15 : decode cX12_thereOf 15 = .ok (.iconst (-1), 1) := by decide +kernel
theorem dX12_thereOf_16 : decode cX12_thereOf 16 = .ok (.iload_n 1, 1) := by decide +kernel
theorem dX12_thereOf_17 : decode cX12_thereOf 17 = .ok (.isub, 1) := by decide +kernel
theorem dX12_thereOf_18 : decode cX12_thereOf 18 = .ok (.if_icmp .ne 5, 3) := by decide +kernel
theorem dX12_thereOf_21 : decode cX12_thereOf 21 = .ok (.iload_n 2, 1) := by decide +kernel
theorem dX12_thereOf_22 : decode cX12_thereOf 22 = .ok (.ireturn, 1) := by decide +kernel
theorem dX12_thereOf_23 : decode cX12_thereOf 23 = .ok (.iinc 2 1, 3) := by decide +kernel
theorem dX12_thereOf_26 : decode cX12_thereOf 26 = .ok (.goto (-24), 3) := by decide +kernel
theorem dX12_thereOf_29 : decode cX12_thereOf 29 = .ok (.iconst (-1), 1) := by decide +kernel
theorem dX12_thereOf_30 : decode cX12_thereOf 30 = .ok (.ireturn, 1) := by decide +kernel
theorem dX12_bindsSolved_0 : decode cX12_bindsSolved 0 = .ok (.aload_n 0, 1) := by decide +kernel
theorem dX12_bindsSolved_1 : decode cX12_bindsSolved 1 = .ok (.invokevirtual 96, 3) := by decide +kernel
theorem dX12_bindsSolved_4 : decode cX12_bindsSolved 4 = .ok (.istore_n 2, 1) := by decide +kernel
theorem dX12_bindsSolved_5 : decode cX12_bindsSolved 5 = .ok (.iconst 0, 1) := by decide +kernel
theorem dX12_bindsSolved_6 : decode cX12_bindsSolved 6 = .ok (.istore_n 3, 1) := by decide +kernel
theorem dX12_bindsSolved_7 : decode cX12_bindsSolved 7 = .ok (.iload_n 3, 1) := by decide +kernel
theorem dX12_bindsSolved_8 : decode cX12_bindsSolved 8 = .ok (.bipush 8, 2) := by decide +kernel
theorem dX12_bindsSolved_10 : decode cX12_bindsSolved 10 = .ok (.if_icmp .ge 100, 3) := by decide +kernel
theorem dX12_bindsSolved_13 : decode cX12_bindsSolved 13 = .ok (.aload_n 0, 1) := by decide +kernel
theorem dX12_bindsSolved_14 : decode cX12_bindsSolved 14 = .ok (.getfield 9, 3) := by decide +kernel
theorem dX12_bindsSolved_17 : decode cX12_bindsSolved 17 = .ok (.iconst 1, 1) := by decide +kernel
theorem dX12_bindsSolved_18 : decode cX12_bindsSolved 18 = .ok (.iload_n 3, 1) := by decide +kernel
theorem dX12_bindsSolved_19 : decode cX12_bindsSolved 19 = .ok (.iadd, 1) := by decide +kernel
theorem dX12_bindsSolved_20 : decode cX12_bindsSolved 20 = .ok (.iconst 0, 1) := by decide +kernel
theorem dX12_bindsSolved_21 : decode cX12_bindsSolved 21 = .ok (.iastore, 1) := by decide +kernel
theorem dX12_bindsSolved_22 : decode cX12_bindsSolved 22 = .ok (.iload_n 1, 1) := by decide +kernel
theorem dX12_bindsSolved_23 : decode cX12_bindsSolved 23 = .ok (.iload_n 3, 1) := by decide +kernel
theorem dX12_bindsSolved_24 : decode cX12_bindsSolved 24 = .ok (.ishr, 1) := by decide +kernel
theorem dX12_bindsSolved_25 : decode cX12_bindsSolved 25 = .ok (.iconst 1, 1) := by decide +kernel
theorem dX12_bindsSolved_26 : decode cX12_bindsSolved 26 = .ok (.iand, 1) := by decide +kernel
theorem dX12_bindsSolved_27 : decode cX12_bindsSolved 27 = .ok (.iconst 1, 1) := by decide +kernel
theorem dX12_bindsSolved_28 : decode cX12_bindsSolved 28 = .ok (.if_icmp .ne 11, 3) := by decide +kernel
theorem dX12_bindsSolved_31 : decode cX12_bindsSolved 31 = .ok (.aload_n 0, 1) := by decide +kernel
theorem dX12_bindsSolved_32 : decode cX12_bindsSolved 32 = .ok (.iload_n 3, 1) := by decide +kernel
theorem dX12_bindsSolved_33 : decode cX12_bindsSolved 33 = .ok (.invokevirtual 186, 3) := by decide +kernel
theorem dX12_bindsSolved_36 : decode cX12_bindsSolved 36 = .ok (.goto 4, 3) := by decide +kernel
theorem dX12_bindsSolved_39 : decode cX12_bindsSolved 39 = .ok (.iconst (-1), 1) := by decide +kernel
theorem dX12_bindsSolved_40 : decode cX12_bindsSolved 40 = .ok (.istore 4, 2) := by decide +kernel
theorem dX12_bindsSolved_42 : decode cX12_bindsSolved 42 = .ok (.iload 4, 2) := by decide +kernel
theorem dX12_bindsSolved_44 : decode cX12_bindsSolved 44 = .ok (.iconst (-1), 1) := by decide +kernel
theorem dX12_bindsSolved_45 : decode cX12_bindsSolved 45 = .ok (.if_icmp .eq 59, 3) := by decide +kernel
theorem dX12_bindsSolved_48 : decode cX12_bindsSolved 48 = .ok (.iload 4, 2) := by decide +kernel
theorem dX12_bindsSolved_50 : decode cX12_bindsSolved 50 = .ok (.iload_n 2, 1) := by decide +kernel
theorem dX12_bindsSolved_51 : decode cX12_bindsSolved 51 = .ok (.if_icmp .lt 6, 3) := by decide +kernel
theorem dX12_bindsSolved_54 : decode cX12_bindsSolved 54 = .ok (.goto 50, 3) := by decide +kernel
theorem dX12_bindsSolved_57 : decode cX12_bindsSolved 57 = .ok (.aload_n 0, 1) := by decide +kernel
theorem dX12_bindsSolved_58 : decode cX12_bindsSolved 58 = .ok (.iload 4, 2) := by decide +kernel
theorem dX12_bindsSolved_60 : decode cX12_bindsSolved 60 = .ok (.invokevirtual 164, 3) := by decide +kernel
theorem dX12_bindsSolved_63 : decode cX12_bindsSolved 63 = .ok (.istore 5, 2) := by decide +kernel
theorem dX12_bindsSolved_65 : decode cX12_bindsSolved 65 = .ok (.aload_n 0, 1) := by decide +kernel
theorem dX12_bindsSolved_66 : decode cX12_bindsSolved 66 = .ok (.getfield 53, 3) := by decide +kernel
theorem dX12_bindsSolved_69 : decode cX12_bindsSolved 69 = .ok (.iload 5, 2) := by decide +kernel
theorem dX12_bindsSolved_71 : decode cX12_bindsSolved 71 = .ok (.iaload, 1) := by decide +kernel
theorem dX12_bindsSolved_72 : decode cX12_bindsSolved 72 = .ok (.iconst (-1), 1) := by decide +kernel
theorem dX12_bindsSolved_73 : decode cX12_bindsSolved 73 = .ok (.if_icmp .ne 14, 3) := by decide +kernel
theorem dX12_bindsSolved_76 : decode cX12_bindsSolved 76 = .ok (.aload_n 0, 1) := by decide +kernel
theorem dX12_bindsSolved_77 : decode cX12_bindsSolved 77 = .ok (.getfield 56, 3) := by decide +kernel
theorem dX12_bindsSolved_80 : decode cX12_bindsSolved 80 = .ok (.iload 5, 2) := by decide +kernel
theorem dX12_bindsSolved_82 : decode cX12_bindsSolved 82 = .ok (.iaload, 1) := by decide +kernel
theorem dX12_bindsSolved_83 : decode cX12_bindsSolved 83 = .ok (.iload_n 3, 1) := by decide +kernel
theorem dX12_bindsSolved_84 : decode cX12_bindsSolved 84 = .ok (.if_icmp .eq 20, 3) := by decide +kernel
theorem dX12_bindsSolved_87 : decode cX12_bindsSolved 87 = .ok (.aload_n 0, 1) := by decide +kernel
theorem dX12_bindsSolved_88 : decode cX12_bindsSolved 88 = .ok (.getfield 9, 3) := by decide +kernel
theorem dX12_bindsSolved_91 : decode cX12_bindsSolved 91 = .ok (.iconst 1, 1) := by decide +kernel
theorem dX12_bindsSolved_92 : decode cX12_bindsSolved 92 = .ok (.iload_n 3, 1) := by decide +kernel
theorem dX12_bindsSolved_93 : decode cX12_bindsSolved 93 = .ok (.iadd, 1) := by decide +kernel
theorem dX12_bindsSolved_94 : decode cX12_bindsSolved 94 = .ok (.iconst 1, 1) := by decide +kernel
theorem dX12_bindsSolved_95 : decode cX12_bindsSolved 95 = .ok (.aload_n 0, 1) := by decide +kernel
theorem dX12_bindsSolved_96 : decode cX12_bindsSolved 96 = .ok (.iload 4, 2) := by decide +kernel
theorem dX12_bindsSolved_98 : decode cX12_bindsSolved 98 = .ok (.iconst 1, 1) := by decide +kernel
theorem dX12_bindsSolved_99 : decode cX12_bindsSolved 99 = .ok (.invokevirtual 183, 3) := by decide +kernel
theorem dX12_bindsSolved_102 : decode cX12_bindsSolved 102 = .ok (.iadd, 1) := by decide +kernel
theorem dX12_bindsSolved_103 : decode cX12_bindsSolved 103 = .ok (.iastore, 1) := by decide +kernel
theorem dX12_bindsSolved_104 : decode cX12_bindsSolved 104 = .ok (.iinc 3 1, 3) := by decide +kernel
theorem dX12_bindsSolved_107 : decode cX12_bindsSolved 107 = .ok (.goto (-100), 3) := by decide +kernel
theorem dX12_bindsSolved_110 : decode cX12_bindsSolved 110 = .ok (.return_, 1) := by decide +kernel
theorem dX12_canBeAlike_0 : decode cX12_canBeAlike 0 = .ok (.aload_n 0, 1) := by decide +kernel
theorem dX12_canBeAlike_1 : decode cX12_canBeAlike 1 = .ok (.iload_n 1, 1) := by decide +kernel
theorem dX12_canBeAlike_2 : decode cX12_canBeAlike 2 = .ok (.sipush 400, 3) := by decide +kernel
theorem dX12_canBeAlike_5 : decode cX12_canBeAlike 5 = .ok (.iload_n 2, 1) := by decide +kernel
theorem dX12_canBeAlike_6 : decode cX12_canBeAlike 6 = .ok (.iadd, 1) := by decide +kernel
theorem dX12_canBeAlike_7 : decode cX12_canBeAlike 7 = .ok (.invokevirtual 189, 3) := by decide +kernel
theorem dX12_canBeAlike_10 : decode cX12_canBeAlike 10 = .ok (.iconst 1, 1) := by decide +kernel
theorem dX12_canBeAlike_11 : decode cX12_canBeAlike 11 = .ok (.if_icmp .ne 7, 3) := by decide +kernel
theorem dX12_canBeAlike_14 : decode cX12_canBeAlike 14 = .ok (.iconst 1, 1) := by decide +kernel
theorem dX12_canBeAlike_15 : decode cX12_canBeAlike 15 = .ok (.goto 4, 3) := by decide +kernel
theorem dX12_canBeAlike_18 : decode cX12_canBeAlike 18 = .ok (.iconst 0, 1) := by decide +kernel
theorem dX12_canBeAlike_19 : decode cX12_canBeAlike 19 = .ok (.ireturn, 1) := by decide +kernel
theorem dX12_coupleOf_0 : decode cX12_coupleOf 0 = .ok (.iconst 0, 1) := by decide +kernel
theorem dX12_coupleOf_1 : decode cX12_coupleOf 1 = .ok (.istore_n 3, 1) := by decide +kernel
theorem dX12_coupleOf_2 : decode cX12_coupleOf 2 = .ok (.iload_n 3, 1) := by decide +kernel
theorem dX12_coupleOf_3 : decode cX12_coupleOf 3 = .ok (.aload_n 0, 1) := by decide +kernel
theorem dX12_coupleOf_4 : decode cX12_coupleOf 4 = .ok (.getfield 192, 3) := by decide +kernel
theorem dX12_coupleOf_7 : decode cX12_coupleOf 7 = .ok (.if_icmp .ge 37, 3) := by decide +kernel
theorem dX12_coupleOf_10 : decode cX12_coupleOf 10 = .ok (.aload_n 0, 1) := by decide +kernel
theorem dX12_coupleOf_11 : decode cX12_coupleOf 11 = .ok (.getfield 65, 3) := by decide +kernel
theorem dX12_coupleOf_14 : decode cX12_coupleOf 14 = .ok (.iconst 2, 1) := by decide +kernel
theorem dX12_coupleOf_15 : decode cX12_coupleOf 15 = .ok (.iload_n 3, 1) := by decide +kernel
theorem dX12_coupleOf_16 : decode cX12_coupleOf 16 = .ok (.imul, 1) := by decide +kernel
theorem dX12_coupleOf_17 : decode cX12_coupleOf 17 = .ok (.iaload, 1) := by decide +kernel
theorem dX12_coupleOf_18 : decode cX12_coupleOf 18 = .ok (.iload_n 1, 1) := by decide +kernel
theorem dX12_coupleOf_19 : decode cX12_coupleOf 19 = .ok (.if_icmp .ne 19, 3) := by decide +kernel
theorem dX12_coupleOf_22 : decode cX12_coupleOf 22 = .ok (.aload_n 0, 1) := by decide +kernel
theorem dX12_coupleOf_23 : decode cX12_coupleOf 23 = .ok (.getfield 65, 3) := by decide +kernel
theorem dX12_coupleOf_26 : decode cX12_coupleOf 26 = .ok (.iconst 2, 1) := by decide +kernel
theorem dX12_coupleOf_27 : decode cX12_coupleOf 27 = .ok (.iload_n 3, 1) := by decide +kernel
theorem dX12_coupleOf_28 : decode cX12_coupleOf 28 = .ok (.imul, 1) := by decide +kernel
theorem dX12_coupleOf_29 : decode cX12_coupleOf 29 = .ok (.iconst 1, 1) := by decide +kernel
theorem dX12_coupleOf_30 : decode cX12_coupleOf 30 = .ok (.iadd, 1) := by decide +kernel
theorem dX12_coupleOf_31 : decode cX12_coupleOf 31 = .ok (.iaload, 1) := by decide +kernel
theorem dX12_coupleOf_32 : decode cX12_coupleOf 32 = .ok (.iload_n 2, 1) := by decide +kernel
theorem dX12_coupleOf_33 : decode cX12_coupleOf 33 = .ok (.if_icmp .ne 5, 3) := by decide +kernel
theorem dX12_coupleOf_36 : decode cX12_coupleOf 36 = .ok (.iload_n 3, 1) := by decide +kernel
theorem dX12_coupleOf_37 : decode cX12_coupleOf 37 = .ok (.ireturn, 1) := by decide +kernel
theorem dX12_coupleOf_38 : decode cX12_coupleOf 38 = .ok (.iinc 3 1, 3) := by decide +kernel
theorem dX12_coupleOf_41 : decode cX12_coupleOf 41 = .ok (.goto (-39), 3) := by decide +kernel
theorem dX12_coupleOf_44 : decode cX12_coupleOf 44 = .ok (.aload_n 0, 1) := by decide +kernel
theorem dX12_coupleOf_45 : decode cX12_coupleOf 45 = .ok (.aload_n 0, 1) := by decide +kernel
theorem dX12_coupleOf_46 : decode cX12_coupleOf 46 = .ok (.getfield 195, 3) := by decide +kernel
theorem dX12_coupleOf_49 : decode cX12_coupleOf 49 = .ok (.ifCond .ne 12, 3) := by decide +kernel
theorem dX12_coupleOf_52 : decode cX12_coupleOf 52 = .ok (.aload_n 0, 1) := by decide +kernel
theorem dX12_coupleOf_53 : decode cX12_coupleOf 53 = .ok (.getfield 192, 3) := by decide +kernel
theorem dX12_coupleOf_56 : decode cX12_coupleOf 56 = .ok (.bipush 8, 2) := by decide +kernel
theorem dX12_coupleOf_58 : decode cX12_coupleOf 58 = .ok (.if_icmp .ne 7, 3) := by decide +kernel
theorem dX12_coupleOf_61 : decode cX12_coupleOf 61 = .ok (.iconst 1, 1) := by decide +kernel
theorem dX12_coupleOf_62 : decode cX12_coupleOf 62 = .ok (.goto 4, 3) := by decide +kernel
theorem dX12_coupleOf_65 : decode cX12_coupleOf 65 = .ok (.iconst 0, 1) := by decide +kernel
theorem dX12_coupleOf_66 : decode cX12_coupleOf 66 = .ok (.putfield 195, 3) := by decide +kernel
theorem dX12_coupleOf_69 : decode cX12_coupleOf 69 = .ok (.aload_n 0, 1) := by decide +kernel
theorem dX12_coupleOf_70 : decode cX12_coupleOf 70 = .ok (.getfield 195, 3) := by decide +kernel
theorem dX12_coupleOf_73 : decode cX12_coupleOf 73 = .ok (.ifCond .eq 5, 3) := by decide +kernel
theorem dX12_coupleOf_76 : decode cX12_coupleOf 76 = .ok (.iconst 0, 1) := by decide +kernel
theorem dX12_coupleOf_77 : decode cX12_coupleOf 77 = .ok (.ireturn, 1) := by decide +kernel
theorem dX12_coupleOf_78 : decode cX12_coupleOf 78 = .ok (.aload_n 0, 1) := by decide +kernel
theorem dX12_coupleOf_79 : decode cX12_coupleOf 79 = .ok (.getfield 65, 3) := by decide +kernel
theorem dX12_coupleOf_82 : decode cX12_coupleOf 82 = .ok (.iconst 2, 1) := by decide +kernel
theorem dX12_coupleOf_83 : decode cX12_coupleOf 83 = .ok (.aload_n 0, 1) := by decide +kernel
theorem dX12_coupleOf_84 : decode cX12_coupleOf 84 = .ok (.getfield 192, 3) := by decide +kernel
theorem dX12_coupleOf_87 : decode cX12_coupleOf 87 = .ok (.imul, 1) := by decide +kernel
theorem dX12_coupleOf_88 : decode cX12_coupleOf 88 = .ok (.iload_n 1, 1) := by decide +kernel
theorem dX12_coupleOf_89 : decode cX12_coupleOf 89 = .ok (.iastore, 1) := by decide +kernel
theorem dX12_coupleOf_90 : decode cX12_coupleOf 90 = .ok (.aload_n 0, 1) := by decide +kernel
theorem dX12_coupleOf_91 : decode cX12_coupleOf 91 = .ok (.getfield 65, 3) := by decide +kernel
theorem dX12_coupleOf_94 : decode cX12_coupleOf 94 = .ok (.iconst 2, 1) := by decide +kernel
theorem dX12_coupleOf_95 : decode cX12_coupleOf 95 = .ok (.aload_n 0, 1) := by decide +kernel
theorem dX12_coupleOf_96 : decode cX12_coupleOf 96 = .ok (.getfield 192, 3) := by decide +kernel
theorem dX12_coupleOf_99 : decode cX12_coupleOf 99 = .ok (.imul, 1) := by decide +kernel
theorem dX12_coupleOf_100 : decode cX12_coupleOf 100 = .ok (.iconst 1, 1) := by decide +kernel
theorem dX12_coupleOf_101 : decode cX12_coupleOf 101 = .ok (.iadd, 1) := by decide +kernel
theorem dX12_coupleOf_102 : decode cX12_coupleOf 102 = .ok (.iload_n 2, 1) := by decide +kernel
theorem dX12_coupleOf_103 : decode cX12_coupleOf 103 = .ok (.iastore, 1) := by decide +kernel
theorem dX12_coupleOf_104 : decode cX12_coupleOf 104 = .ok (.aload_n 0, 1) := by decide +kernel
theorem dX12_coupleOf_105 : decode cX12_coupleOf 105 = .ok (.dup, 1) := by decide +kernel
theorem dX12_coupleOf_106 : decode cX12_coupleOf 106 = .ok (.getfield 192, 3) := by decide +kernel
theorem dX12_coupleOf_109 : decode cX12_coupleOf 109 = .ok (.iconst 1, 1) := by decide +kernel
theorem dX12_coupleOf_110 : decode cX12_coupleOf 110 = .ok (.iadd, 1) := by decide +kernel
theorem dX12_coupleOf_111 : decode cX12_coupleOf 111 = .ok (.putfield 192, 3) := by decide +kernel
theorem dX12_coupleOf_114 : decode cX12_coupleOf 114 = .ok (.aload_n 0, 1) := by decide +kernel
theorem dX12_coupleOf_115 : decode cX12_coupleOf 115 = .ok (.getfield 192, 3) := by decide +kernel
theorem dX12_coupleOf_118 : decode cX12_coupleOf 118 = .ok (.iconst 1, 1) := by decide +kernel
theorem dX12_coupleOf_119 : decode cX12_coupleOf 119 = .ok (.isub, 1) := by decide +kernel
theorem dX12_coupleOf_120 : decode cX12_coupleOf 120 = .ok (.ireturn, 1) := by decide +kernel
theorem dX12_commonOf_0 : decode cX12_commonOf 0 = .ok (.aload_n 0, 1) := by decide +kernel
theorem dX12_commonOf_1 : decode cX12_commonOf 1 = .ok (.getfield 92, 3) := by decide +kernel
theorem dX12_commonOf_4 : decode cX12_commonOf 4 = .ok (.ifCond .ne 10, 3) := by decide +kernel
theorem dX12_commonOf_7 : decode cX12_commonOf 7 = .ok (.aload_n 0, 1) := by decide +kernel
theorem dX12_commonOf_8 : decode cX12_commonOf 8 = .ok (.getfield 195, 3) := by decide +kernel
