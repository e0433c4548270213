section
theorem dX12_matches_82 : decode cX12_matches 82 = .ok (.iload_n 3, 1) := by decide +kernel
theorem dX12_matches_83 : decode cX12_matches 83 = .ok (.invokevirtual 88, 3) := by decide +kernel
theorem dX12_matches_86 : decode cX12_matches 86 = .ok (.invokevirtual 145, 3) := by decide +kernel
theorem dX12_matches_89 : decode cX12_matches 89 = .ok (.ifCond .ne 5, 3) := by decide +kernel
theorem dX12_matches_92 : decode cX12_matches 92 = .ok (.iconst 0, 1) := by decide +kernel
theorem dX12_matches_93 : decode cX12_matches 93 = .ok (.ireturn, 1) := by decide +kernel
theorem dX12_matches_94 : decode cX12_matches 94 = .ok (.iinc 3 1, 3) := by decide +kernel
theorem dX12_matches_97 : decode cX12_matches 97 = .ok (.goto (-33), 3) := by decide +kernel
theorem dX12_matches_100 : decode cX12_matches 100 = .ok (.iconst 1, 1) := by decide +kernel
theorem dX12_matches_101 : decode cX12_matches 101 = .ok (.ireturn, 1) := by decide +kernel
theorem dX12_doesMatch_0 : decode cX12_doesMatch 0 = .ok (.iconst 0, 1) := by decide +kernel
theorem dX12_doesMatch_1 : decode cX12_doesMatch 1 = .ok (.istore_n 3, 1) := by decide +kernel
theorem dX12_doesMatch_2 : decode cX12_doesMatch 2 = .ok (.iload_n 3, 1) := by decide +kernel
theorem dX12_doesMatch_3 : decode cX12_doesMatch 3 = .ok (.bipush 8, 2) := by decide +kernel
theorem dX12_doesMatch_5 : decode cX12_doesMatch 5 = .ok (.if_icmp .ge 16, 3) := by decide +kernel
theorem dX12_doesMatch_8 : decode cX12_doesMatch 8 = .ok (.aload_n 0, 1) := by decide +kernel
theorem dX12_doesMatch_9 : decode cX12_doesMatch 9 = .ok (.getfield 41, 3) := by decide +kernel
theorem dX12_doesMatch_12 : decode cX12_doesMatch 12 = .ok (.iload_n 3, 1) := by decide +kernel
theorem dX12_doesMatch_13 : decode cX12_doesMatch 13 = .ok (.iconst (-1), 1) := by decide +kernel
theorem dX12_doesMatch_14 : decode cX12_doesMatch 14 = .ok (.iastore, 1) := by decide +kernel
theorem dX12_doesMatch_15 : decode cX12_doesMatch 15 = .ok (.iinc 3 1, 3) := by decide +kernel
theorem dX12_doesMatch_18 : decode cX12_doesMatch 18 = .ok (.goto (-16), 3) := by decide +kernel
theorem dX12_doesMatch_21 : decode cX12_doesMatch 21 = .ok (.aload_n 0, 1) := by decide +kernel
theorem dX12_doesMatch_22 : decode cX12_doesMatch 22 = .ok (.iload_n 1, 1) := by decide +kernel
theorem dX12_doesMatch_23 : decode cX12_doesMatch 23 = .ok (.iload_n 2, 1) := by decide +kernel
theorem dX12_doesMatch_24 : decode cX12_doesMatch 24 = .ok (.invokevirtual 145, 3) := by decide +kernel
theorem dX12_doesMatch_27 : decode cX12_doesMatch 27 = .ok (.ireturn, 1) := by decide +kernel
theorem dX12_remade_0 : decode cX12_remade 0 = .ok (.aload_n 0, 1) := by decide +kernel
theorem dX12_remade_1 : decode cX12_remade 1 = .ok (.aload_n 0, 1) := by decide +kernel
theorem dX12_remade_2 : decode cX12_remade 2 = .ok (.iload_n 1, 1) := by decide +kernel
theorem dX12_remade_3 : decode cX12_remade 3 = .ok (.invokevirtual 74, 3) := by decide +kernel
theorem dX12_remade_6 : decode cX12_remade 6 = .ok (.iload_n 2, 1) := by decide +kernel
theorem dX12_remade_7 : decode cX12_remade 7 = .ok (.iload_n 3, 1) := by decide +kernel
theorem dX12_remade_8 : decode cX12_remade 8 = .ok (.iload 4, 2) := by decide +kernel
theorem dX12_remade_10 : decode cX12_remade 10 = .ok (.invokevirtual 107, 3) := by decide +kernel
theorem dX12_remade_13 : decode cX12_remade 13 = .ok (.ireturn, 1) := by decide +kernel
theorem dX12_appliedBy_0 : decode cX12_appliedBy 0 = .ok (.aload_n 0, 1) := by decide +kernel
theorem dX12_appliedBy_1 : decode cX12_appliedBy 1 = .ok (.getfield 92, 3) := by decide +kernel
theorem dX12_appliedBy_4 : decode cX12_appliedBy 4 = .ok (.ifCond .eq 5, 3) := by decide +kernel
theorem dX12_appliedBy_7 : decode cX12_appliedBy 7 = .ok (.iconst 0, 1) := by decide +kernel
theorem dX12_appliedBy_8 : decode cX12_appliedBy 8 = .ok (.ireturn, 1) := by decide +kernel
theorem dX12_appliedBy_9 : decode cX12_appliedBy 9 = .ok (.aload_n 0, 1) := by decide +kernel
theorem dX12_appliedBy_10 : decode cX12_appliedBy 10 = .ok (.iload_n 1, 1) := by decide +kernel
theorem dX12_appliedBy_11 : decode cX12_appliedBy 11 = .ok (.invokevirtual 78, 3) := by decide +kernel
theorem dX12_appliedBy_14 : decode cX12_appliedBy 14 = .ok (.ifCond .eq 26, 3) := by decide +kernel
theorem dX12_appliedBy_17 : decode cX12_appliedBy 17 = .ok (.aload_n 2, 1) := by decide +kernel
theorem dX12_appliedBy_18 : decode cX12_appliedBy 18 = .ok (.aload_n 0, 1) := by decide +kernel
theorem dX12_appliedBy_19 : decode cX12_appliedBy 19 = .ok (.iload_n 1, 1) := by decide +kernel
theorem dX12_appliedBy_20 : decode cX12_appliedBy 20 = .ok (.invokevirtual 123, 3) := by decide +kernel
theorem dX12_appliedBy_23 : decode cX12_appliedBy 23 = .ok (.iaload, 1) := by decide +kernel
theorem dX12_appliedBy_24 : decode cX12_appliedBy 24 = .ok (.iconst (-1), 1) := by decide +kernel
theorem dX12_appliedBy_25 : decode cX12_appliedBy 25 = .ok (.if_icmp .ne 7, 3) := by decide +kernel
theorem dX12_appliedBy_28 : decode cX12_appliedBy 28 = .ok (.iload_n 1, 1) := by decide +kernel
theorem dX12_appliedBy_29 : decode cX12_appliedBy 29 = .ok (.goto 10, 3) := by decide +kernel
theorem dX12_appliedBy_32 : decode cX12_appliedBy 32 = .ok (.aload_n 2, 1) := by decide +kernel
theorem dX12_appliedBy_33 : decode cX12_appliedBy 33 = .ok (.aload_n 0, 1) := by decide +kernel
theorem dX12_appliedBy_34 : decode cX12_appliedBy 34 = .ok (.iload_n 1, 1) := by decide +kernel
theorem dX12_appliedBy_35 : decode cX12_appliedBy 35 = .ok (.invokevirtual 123, 3) := by decide +kernel
theorem dX12_appliedBy_38 : decode cX12_appliedBy 38 = .ok (.iaload, 1) := by decide +kernel
theorem dX12_appliedBy_39 : decode cX12_appliedBy 39 = .ok (.ireturn, 1) := by decide +kernel
theorem dX12_appliedBy_40 : decode cX12_appliedBy 40 = .ok (.aload_n 0, 1) := by decide +kernel
theorem dX12_appliedBy_41 : decode cX12_appliedBy 41 = .ok (.iload_n 1, 1) := by decide +kernel
theorem dX12_appliedBy_42 : decode cX12_appliedBy 42 = .ok (.invokevirtual 111, 3) := by decide +kernel
theorem dX12_appliedBy_45 : decode cX12_appliedBy 45 = .ok (.istore_n 3, 1) := by decide +kernel
theorem dX12_appliedBy_46 : decode cX12_appliedBy 46 = .ok (.iload_n 3, 1) := by decide +kernel
theorem dX12_appliedBy_47 : decode cX12_appliedBy 47 = .ok (.ifCond .le 17, 3) := by decide +kernel
theorem dX12_appliedBy_50 : decode cX12_appliedBy 50 = .ok (.aload_n 0, 1) := by decide +kernel
theorem dX12_appliedBy_51 : decode cX12_appliedBy 51 = .ok (.aload_n 0, 1) := by decide +kernel
theorem dX12_appliedBy_52 : decode cX12_appliedBy 52 = .ok (.iload_n 1, 1) := by decide +kernel
theorem dX12_appliedBy_53 : decode cX12_appliedBy 53 = .ok (.iconst 0, 1) := by decide +kernel
theorem dX12_appliedBy_54 : decode cX12_appliedBy 54 = .ok (.invokevirtual 88, 3) := by decide +kernel
theorem dX12_appliedBy_57 : decode cX12_appliedBy 57 = .ok (.aload_n 2, 1) := by decide +kernel
theorem dX12_appliedBy_58 : decode cX12_appliedBy 58 = .ok (.invokevirtual 148, 3) := by decide +kernel
theorem dX12_appliedBy_61 : decode cX12_appliedBy 61 = .ok (.goto 4, 3) := by decide +kernel
theorem dX12_appliedBy_64 : decode cX12_appliedBy 64 = .ok (.iconst 0, 1) := by decide +kernel
theorem dX12_appliedBy_65 : decode cX12_appliedBy 65 = .ok (.istore 4, 2) := by decide +kernel
theorem dX12_appliedBy_67 : decode cX12_appliedBy 67 = .ok (.iload_n 3, 1) := by decide +kernel
theorem dX12_appliedBy_68 : decode cX12_appliedBy 68 = .ok (.iconst 1, 1) := by decide +kernel
theorem dX12_appliedBy_69 : decode cX12_appliedBy 69 = .ok (.if_icmp .le 17, 3) := by decide +kernel
theorem dX12_appliedBy_72 : decode cX12_appliedBy 72 = .ok (.aload_n 0, 1) := by decide +kernel
theorem dX12_appliedBy_73 : decode cX12_appliedBy 73 = .ok (.aload_n 0, 1) := by decide +kernel
theorem dX12_appliedBy_74 : decode cX12_appliedBy 74 = .ok (.iload_n 1, 1) := by decide +kernel
theorem dX12_appliedBy_75 : decode cX12_appliedBy 75 = .ok (.iconst 1, 1) := by decide +kernel
theorem dX12_appliedBy_76 : decode cX12_appliedBy 76 = .ok (.invokevirtual 88, 3) := by decide +kernel
theorem dX12_appliedBy_79 : decode cX12_appliedBy 79 = .ok (.aload_n 2, 1) := by decide +kernel
theorem dX12_appliedBy_80 : decode cX12_appliedBy 80 = .ok (.invokevirtual 148, 3) := by decide +kernel
theorem dX12_appliedBy_83 : decode cX12_appliedBy 83 = .ok (.goto 4, 3) := by decide +kernel
theorem dX12_appliedBy_86 : decode cX12_appliedBy 86 = .ok (.iconst 0, 1) := by decide +kernel
theorem dX12_appliedBy_87 : decode cX12_appliedBy 87 = .ok (.istore 5, 2) := by decide +kernel
theorem dX12_appliedBy_89 : decode cX12_appliedBy 89 = .ok (.iload_n 3, 1) := by decide +kernel
theorem dX12_appliedBy_90 : decode cX12_appliedBy 90 = .ok (.iconst 2, 1) := by decide +kernel
theorem dX12_appliedBy_91 : decode cX12_appliedBy 91 = .ok (.if_icmp .le 17, 3) := by decide +kernel
theorem dX12_appliedBy_94 : decode cX12_appliedBy 94 = .ok (.aload_n 0, 1) := by decide +kernel
theorem dX12_appliedBy_95 : decode cX12_appliedBy 95 = .ok (.aload_n 0, 1) := by decide +kernel
theorem dX12_appliedBy_96 : decode cX12_appliedBy 96 = .ok (.iload_n 1, 1) := by decide +kernel
theorem dX12_appliedBy_97 : decode cX12_appliedBy 97 = .ok (.iconst 2, 1) := by decide +kernel
theorem dX12_appliedBy_98 : decode cX12_appliedBy 98 = .ok (.invokevirtual 88, 3) := by decide +kernel
theorem dX12_appliedBy_101 : decode cX12_appliedBy 101 = .ok (.aload_n 2, 1) := by decide +kernel
theorem dX12_appliedBy_102 : decode cX12_appliedBy 102 = .ok (.invokevirtual 148, 3) := by decide +kernel
theorem dX12_appliedBy_105 : decode cX12_appliedBy 105 = .ok (.goto 4, 3) := by decide +kernel
theorem dX12_appliedBy_108 : decode cX12_appliedBy 108 = .ok (.iconst 0, 1) := by decide +kernel
theorem dX12_appliedBy_109 : decode cX12_appliedBy 109 = .ok (.istore 6, 2) := by decide +kernel
theorem dX12_appliedBy_111 : decode cX12_appliedBy 111 = .ok (.aload_n 0, 1) := by decide +kernel
theorem dX12_appliedBy_112 : decode cX12_appliedBy 112 = .ok (.iload_n 1, 1) := by decide +kernel
theorem dX12_appliedBy_113 : decode cX12_appliedBy 113 = .ok (.iload 4, 2) := by decide +kernel
theorem dX12_appliedBy_115 : decode cX12_appliedBy 115 = .ok (.iload 5, 2) := by decide +kernel
theorem dX12_appliedBy_117 : decode cX12_appliedBy 117 = .ok (.iload 6, 2) := by decide +kernel
theorem dX12_appliedBy_119 : decode cX12_appliedBy 119 = .ok (.invokevirtual 152, 3) := by decide +kernel
theorem dX12_appliedBy_122 : decode cX12_appliedBy 122 = .ok (.ireturn, 1) := by decide +kernel
theorem dX12_laysBound_0 : decode cX12_laysBound 0 = .ok (.iconst 0, 1) := by decide +kernel
theorem dX12_laysBound_1 : decode cX12_laysBound 1 = .ok (.istore_n 1, 1) := by decide +kernel
theorem dX12_laysBound_2 : decode cX12_laysBound 2 = .ok (.iload_n 1, 1) := by decide +kernel
theorem dX12_laysBound_3 : decode cX12_laysBound 3 = .ok (.bipush 8, 2) := by decide +kernel
theorem dX12_laysBound_5 : decode cX12_laysBound 5 = .ok (.if_icmp .ge 25, 3) := by decide +kernel
theorem dX12_laysBound_8 : decode cX12_laysBound 8 = .ok (.aload_n 0, 1) := by decide +kernel
theorem dX12_laysBound_9 : decode cX12_laysBound 9 = .ok (.getfield 44, 3) := by decide +kernel
theorem dX12_laysBound_12 : decode cX12_laysBound 12 = .ok (.iload_n 1, 1) := by decide +kernel
theorem dX12_laysBound_13 : decode cX12_laysBound 13 = .ok (.aload_n 0, 1) := by decide +kernel
theorem dX12_laysBound_14 : decode cX12_laysBound 14 = .ok (.getfield 9, 3) := by decide +kernel
theorem dX12_laysBound_17 : decode cX12_laysBound 17 = .ok (.iconst 1, 1) := by decide +kernel
theorem dX12_laysBound_18 : decode cX12_laysBound 18 = .ok (.iload_n 1, 1) := by decide +kernel
theorem dX12_laysBound_19 : decode cX12_laysBound 19 = .ok (.iadd, 1) := by decide +kernel
theorem dX12_laysBound_20 : decode cX12_laysBound 20 = .ok (.iaload, 1) := by decide +kernel
theorem dX12_laysBound_21 : decode cX12_laysBound 21 = .ok (.iconst 1, 1) := by decide +kernel
theorem dX12_laysBound_22 : decode cX12_laysBound 22 = .ok (.isub, 1) := by decide +kernel
theorem dX12_laysBound_23 : decode cX12_laysBound 23 = .ok (.iastore, 1) := by decide +kernel
theorem dX12_laysBound_24 : decode cX12_laysBound 24 = .ok (.iinc 1 1, 3) := by decide +kernel
theorem dX12_laysBound_27 : decode cX12_laysBound 27 = .ok (.goto (-25), 3) := by decide +kernel
theorem dX12_laysBound_30 : decode cX12_laysBound 30 = .ok (.return_, 1) := by decide +kernel
theorem dX12_isRing_0 : decode cX12_isRing 0 = .ok (.iconst 0, 1) := by decide +kernel
theorem dX12_isRing_1 : decode cX12_isRing 1 = .ok (.istore_n 2, 1) := by decide +kernel
theorem dX12_isRing_2 : decode cX12_isRing 2 = .ok (.iconst 0, 1) := by decide +kernel
theorem dX12_isRing_3 : decode cX12_isRing 3 = .ok (.istore_n 3, 1) := by decide +kernel
theorem dX12_isRing_4 : decode cX12_isRing 4 = .ok (.iload_n 3, 1) := by decide +kernel
theorem dX12_isRing_5 : decode cX12_isRing 5 = .ok (.bipush 8, 2) := by decide +kernel
theorem dX12_isRing_7 : decode cX12_isRing 7 = .ok (.if_icmp .ge 59, 3) := by decide +kernel
theorem dX12_isRing_10 : decode cX12_isRing 10 = .ok (.aload_n 0, 1) := by decide +kernel
theorem dX12_isRing_11 : decode cX12_isRing 11 = .ok (.getfield 47, 3) := by decide +kernel
theorem dX12_isRing_14 : decode cX12_isRing 14 = .ok (.iload_n 3, 1) := by decide +kernel
theorem dX12_isRing_15 : decode cX12_isRing 15 = .ok (.aload_n 0, 1) := by decide +kernel
theorem dX12_isRing_16 : decode cX12_isRing 16 = .ok (.getfield 44, 3) := by decide +kernel
theorem dX12_isRing_19 : decode cX12_isRing 19 = .ok (.iload_n 3, 1) := by decide +kernel
theorem dX12_isRing_20 : decode cX12_isRing 20 = .ok (.iaload, 1) := by decide +kernel
theorem dX12_isRing_21 : decode cX12_isRing 21 = .ok (.iconst (-1), 1) := by decide +kernel
theorem dX12_isRing_22 : decode cX12_isRing 22 = .ok (.if_icmp .ne 7, 3) := by decide +kernel
theorem dX12_isRing_25 : decode cX12_isRing 25 = .ok (.iconst 0, 1) := by decide +kernel
theorem dX12_isRing_26 : decode cX12_isRing 26 = .ok (.goto 13, 3) := by decide +kernel
theorem dX12_isRing_29 : decode cX12_isRing 29 = .ok (.aload_n 0, 1) := by decide +kernel
theorem dX12_isRing_30 : decode cX12_isRing 30 = .ok (.aload_n 0, 1) := by decide +kernel
theorem dX12_isRing_31 : decode cX12_isRing 31 = .ok (.getfield 44, 3) := by decide +kernel
theorem dX12_isRing_34 : decode cX12_isRing 34 = .ok (.iload_n 3, 1) := by decide +kernel
theorem dX12_isRing_35 : decode cX12_isRing 35 = .ok (.iaload, 1) := by decide +kernel
theorem dX12_isRing_36 : decode cX12_isRing 36 = .ok (.invokevirtual 126, 3) := by decide +kernel
theorem dX12_isRing_39 : decode cX12_isRing 39 = .ok (.iastore, 1) := by decide +kernel
theorem dX12_isRing_40 : decode cX12_isRing 40 = .ok (.iload_n 2, 1) := by decide +kernel
theorem dX12_isRing_41 : decode cX12_isRing 41 = .ok (.aload_n 0, 1) := by decide +kernel
theorem dX12_isRing_42 : decode cX12_isRing 42 = .ok (.getfield 44, 3) := by decide +kernel
theorem dX12_isRing_45 : decode cX12_isRing 45 = .ok (.iload_n 3, 1) := by decide +kernel
theorem dX12_isRing_46 : decode cX12_isRing 46 = .ok (.iaload, 1) := by decide +kernel
theorem dX12_isRing_47 : decode cX12_isRing 47 = .ok (.iconst (-1), 1) := by decide +kernel
theorem dX12_isRing_48 : decode cX12_isRing 48 = .ok (.if_icmp .ne 7, 3) := by decide +kernel
theorem dX12_isRing_51 : decode cX12_isRing 51 = .ok (.iconst 0, 1) := by decide +kernel
theorem dX12_isRing_52 : decode cX12_isRing 52 = .ok (.goto 6, 3) := by decide +kernel
theorem dX12_isRing_55 : decode cX12_isRing 55 = .ok (.iconst 1, 1) := by decide +kernel
theorem dX12_isRing_56 : decode cX12_isRing 56 = .ok (.iload_n 3, 1) := by decide +kernel
theorem dX12_isRing_57 : decode cX12_isRing 57 = .ok (.ishl, 1) := by decide +kernel
theorem dX12_isRing_58 : decode cX12_isRing 58 = .ok (.ior, 1) := by decide +kernel
theorem dX12_isRing_59 : decode cX12_isRing 59 = .ok (.istore_n 2, 1) := by decide +kernel
theorem dX12_isRing_60 : decode cX12_isRing 60 = .ok (.iinc 3 1, 3) := by decide +kernel
theorem dX12_isRing_63 : decode cX12_isRing 63 = .ok (.goto (-59), 3) := by decide +kernel
theorem dX12_isRing_66 : decode cX12_isRing 66 = .ok (.iconst 0, 1) := by decide +kernel
theorem dX12_isRing_67 : decode cX12_isRing 67 = .ok (.istore_n 3, 1) := by decide +kernel
theorem dX12_isRing_68 : decode cX12_isRing 68 = .ok (.iload_n 3, 1) := by decide +kernel
theorem dX12_isRing_69 : decode cX12_isRing 69 = .ok (.bipush 8, 2) := by decide +kernel
theorem dX12_isRing_71 : decode cX12_isRing 71 = .ok (.if_icmp .ge 56, 3) := by decide +kernel
theorem dX12_isRing_74 : decode cX12_isRing 74 = .ok (.iconst 0, 1) := by decide +kernel
theorem dX12_isRing_75 : decode cX12_isRing 75 = .ok (.istore 4, 2) := by decide +kernel
theorem dX12_isRing_77 : decode cX12_isRing 77 = .ok (.iload 4, 2) := by decide +kernel
theorem dX12_isRing_79 : decode cX12_isRing 79 = .ok (.bipush 8, 2) := by decide +kernel
theorem dX12_isRing_81 : decode cX12_isRing 81 = .ok (.if_icmp .ge 40, 3) := by decide +kernel
theorem dX12_isRing_84 : decode cX12_isRing 84 = .ok (.aload_n 0, 1) := by decide +kernel
theorem dX12_isRing_85 : decode cX12_isRing 85 = .ok (.getfield 47, 3) := by decide +kernel
theorem dX12_isRing_88 : decode cX12_isRing 88 = .ok (.iload 4, 2) := by decide +kernel
theorem dX12_isRing_90 : decode cX12_isRing 90 = .ok (.iaload, 1) := by decide +kernel
theorem dX12_isRing_91 : decode cX12_isRing 91 = .ok (.iload_n 3, 1) := by decide +kernel
theorem dX12_isRing_92 : decode cX12_isRing 92 = .ok (.ishr, 1) := by decide +kernel
theorem dX12_isRing_93 : decode cX12_isRing 93 = .ok (.iconst 1, 1) := by decide +kernel
theorem dX12_isRing_94 : decode cX12_isRing 94 = .ok (.iand, 1) := by decide +kernel
theorem dX12_isRing_95 : decode cX12_isRing 95 = .ok (.iconst 1, 1) := by decide +kernel
theorem dX12_isRing_96 : decode cX12_isRing 96 = .ok (.if_icmp .ne 19, 3) := by decide +kernel
theorem dX12_isRing_99 : decode cX12_isRing 99 = .ok (.aload_n 0, 1) := by decide +kernel
theorem dX12_isRing_100 : decode cX12_isRing 100 = .ok (.getfield 47, 3) := by decide +kernel
theorem dX12_isRing_103 : decode cX12_isRing 103 = .ok (.iload 4, 2) := by decide +kernel
theorem dX12_isRing_105 : decode cX12_isRing 105 = .ok (.dup2, 1) := by decide +kernel
theorem dX12_isRing_106 : decode cX12_isRing 106 = .ok (.iaload, 1) := by decide +kernel
theorem dX12_isRing_107 : decode cX12_isRing 107 = .ok (.aload_n 0, 1) := by decide +kernel
theorem dX12_isRing_108 : decode cX12_isRing 108 = .ok (.getfield 47, 3) := by decide +kernel
theorem dX12_isRing_111 : decode cX12_isRing 111 = .ok (.iload_n 3, 1) := by decide +kernel
theorem dX12_isRing_112 : decode cX12_isRing 112 = .ok (.iaload, 1) := by decide +kernel
theorem dX12_isRing_113 : decode cX12_isRing 113 = .ok (.ior, 1) := by decide +kernel
theorem dX12_isRing_114 : decode cX12_isRing 114 = .ok (.iastore, 1) := by decide +kernel
theorem dX12_isRing_115 : decode cX12_isRing 115 = .ok (.iinc 4 1, 3) := by decide +kernel
theorem dX12_isRing_118 : decode cX12_isRing 118 = .ok (.goto (-41), 3) := by decide +kernel
theorem dX12_isRing_121 : decode cX12_isRing 121 = .ok (.iinc 3 1, 3) := by decide +kernel
theorem dX12_isRing_124 : decode cX12_isRing 124 = .ok (.goto (-56), 3) := by decide +kernel
theorem dX12_isRing_127 : decode cX12_isRing 127 = .ok (.aload_n 0, 1) := by decide +kernel
theorem dX12_isRing_128 : decode cX12_isRing 128 = .ok (.iload_n 1, 1) := by decide +kernel
theorem dX12_isRing_129 : decode cX12_isRing 129 = .ok (.invokevirtual 126, 3) := by decide +kernel
theorem dX12_isRing_132 : decode cX12_isRing 132 = .ok (.istore_n 3, 1) := by decide +kernel
theorem dX12_isRing_133 : decode cX12_isRing 133 = .ok (.iload_n 3, 1) := by decide +kernel
theorem dX12_isRing_134 : decode cX12_isRing 134 = .ok (.istore 4, 2) := by decide +kernel
theorem dX12_isRing_136 : decode cX12_isRing 136 = .ok (.iconst 0, 1) := by decide +kernel
theorem dX12_isRing_137 : decode cX12_isRing 137 = .ok (.istore 5, 2) := by decide +kernel
theorem dX12_isRing_139 : decode cX12_isRing 139 = .ok (.iload 5, 2) := by decide +kernel
theorem dX12_isRing_141 : decode cX12_isRing 141 = .ok (.bipush 8, 2) := by decide +kernel
theorem dX12_isRing_143 : decode cX12_isRing 143 = .ok (.if_icmp .ge 30, 3) := by decide +kernel
theorem dX12_isRing_146 : decode cX12_isRing 146 = .ok (.iload 4, 2) := by decide +kernel
theorem dX12_isRing_148 : decode cX12_isRing 148 = .ok (.iload 5, 2) := by decide +kernel
theorem dX12_isRing_150 : decode cX12_isRing 150 = .ok (.ishr, 1) := by decide +kernel
theorem dX12_isRing_151 : decode cX12_isRing 151 = .ok (.iconst 1, 1) := by decide +kernel
theorem dX12_isRing_152 : decode cX12_isRing 152 = .ok (.iand, 1) := by decide +kernel
theorem dX12_isRing_153 : decode cX12_isRing 153 = .ok (.iconst 1, 1) := by decide +kernel
theorem dX12_isRing_154 : decode cX12_isRing 154 = .ok (.if_icmp .ne 13, 3) := by decide +kernel
theorem dX12_isRing_157 : decode cX12_isRing 157 = .ok (.iload_n 3, 1) := by decide +kernel
theorem dX12_isRing_158 : decode cX12_isRing 158 = .ok (.aload_n 0, 1) := by decide +kernel
theorem dX12_isRing_159 : decode cX12_isRing 159 = .ok (.getfield 47, 3) := by decide +kernel
theorem dX12_isRing_162 : decode cX12_isRing 162 = .ok (.iload 5, 2) := by decide +kernel
theorem dX12_isRing_164 : decode cX12_isRing 164 = .ok (.iaload, 1) := by decide +kernel
theorem dX12_isRing_165 : decode cX12_isRing 165 = .ok (.ior, 1) := by decide +kernel
theorem dX12_isRing_166 : decode cX12_isRing 166 = .ok (.istore_n 3, 1) := by decide +kernel
theorem dX12_isRing_167 : decode cX12_isRing 167 = .ok (.iinc 5 1, 3) := by decide +kernel
theorem dX12_isRing_170 : decode cX12_isRing 170 = .ok (.goto (-31), 3) := by decide +kernel
theorem dX12_isRing_173 : decode cX12_isRing 173 = .ok (.iconst 0, 1) := by decide +kernel
theorem dX12_isRing_174 : decode cX12_isRing 174 = .ok (.istore 5, 2) := by decide +kernel
theorem dX12_isRing_176 : decode cX12_isRing 176 = .ok (.iload 5, 2) := by decide +kernel
theorem dX12_isRing_178 : decode cX12_isRing 178 = .ok (.bipush 8, 2) := by decide +kernel
theorem dX12_isRing_180 : decode cX12_isRing 180 = .ok (.if_icmp .ge 37, 3) := by decide +kernel
theorem dX12_isRing_183 : decode cX12_isRing 183 = .ok (.iload_n 3, 1) := by decide +kernel
theorem dX12_isRing_184 : decode cX12_isRing 184 = .ok (.iload 5, 2) := by decide +kernel
theorem dX12_isRing_186 : decode cX12_isRing 186 = .ok (.ishr, 1) := by decide +kernel
theorem dX12_isRing_187 : decode cX12_isRing 187 = .ok (.iload_n 2, 1) := by decide +kernel
theorem dX12_isRing_188 : decode cX12_isRing 188 = .ok (.iload 5, 2) := by decide +kernel
theorem dX12_isRing_190 : decode cX12_isRing 190 = .ok (.ishr, 1) := by decide +kernel
theorem dX12_isRing_191 : decode cX12_isRing 191 = .ok (.iand, 1) := by decide +kernel
theorem dX12_isRing_192 : decode cX12_isRing 192 = .ok (.aload_n 0, 1) := by decide +kernel
theorem dX12_isRing_193 : decode cX12_isRing 193 = .ok (.getfield 47, 3) := by decide +kernel
theorem dX12_isRing_196 : decode cX12_isRing 196 = .ok (.iload 5, 2) := by decide +kernel
theorem dX12_isRing_198 : decode cX12_isRing 198 = .ok (.iaload, 1) := by decide +kernel
theorem dX12_isRing_199 : decode cX12_isRing 199 = .ok (.iload 5, 2) := by decide +kernel
theorem dX12_isRing_201 : decode cX12_isRing 201 = .ok (.ishr, 1) := by decide +kernel
theorem dX12_isRing_202 : decode cX12_isRing 202 = .ok (.iand, 1) := by decide +kernel
theorem dX12_isRing_203 : decode cX12_isRing 203 = .ok (.iconst 1, 1) := by decide +kernel
theorem dX12_isRing_204 : decode cX12_isRing 204 = .ok (.iand, 1) := by decide +kernel
theorem dX12_isRing_205 : decode cX12_isRing 205 = .ok (.iconst 1, 1) := by decide +kernel
theorem dX12_isRing_206 : decode cX12_isRing 206 = .ok (.if_icmp .ne 5, 3) := by decide +kernel
theorem dX12_isRing_209 : decode cX12_isRing 209 = .ok (.iconst 1, 1) := by decide +kernel
theorem dX12_isRing_210 : decode cX12_isRing 210 = .ok (.ireturn, 1) := by decide +kernel
theorem dX12_isRing_211 : decode cX12_isRing 211 = .ok (.iinc 5 1, 3) := by decide +kernel
theorem dX12_isRing_214 : decode cX12_isRing 214 = .ok (.goto (-38), 3) := by decide +kernel
theorem dX12_isRing_217 : decode cX12_isRing 217 = .ok (.iconst 0, 1) := by decide +kernel
theorem dX12_isRing_218 : decode cX12_isRing 218 = .ok (.ireturn, 1) := by decide +kernel
theorem dX12_closedOf_0 : decode cX12_closedOf 0 = .ok (.aload_n 0, 1) := by decide +kernel
theorem dX12_closedOf_1 : decode cX12_closedOf 1 = .ok (.getfield 92, 3) := by decide +kernel
theorem dX12_closedOf_4 : decode cX12_closedOf 4 = .ok (.ifCond .eq 5, 3) := by decide +kernel
theorem dX12_closedOf_7 : decode cX12_closedOf 7 = .ok (.iconst 0, 1) := by decide +kernel
theorem dX12_closedOf_8 : decode cX12_closedOf 8 = .ok (.ireturn, 1) := by decide +kernel
theorem dX12_closedOf_9 : decode cX12_closedOf 9 = .ok (.aload_n 0, 1) := by decide +kernel
theorem dX12_closedOf_10 : decode cX12_closedOf 10 = .ok (.iload_n 1, 1) := by decide +kernel
theorem dX12_closedOf_11 : decode cX12_closedOf 11 = .ok (.invokevirtual 78, 3) := by decide +kernel
theorem dX12_closedOf_14 : decode cX12_closedOf 14 = .ok (.ifCond .eq 49, 3) := by decide +kernel
theorem dX12_closedOf_17 : decode cX12_closedOf 17 = .ok (.aload_n 0, 1) := by decide +kernel
theorem dX12_closedOf_18 : decode cX12_closedOf 18 = .ok (.getfield 44, 3) := by decide +kernel
theorem dX12_closedOf_21 : decode cX12_closedOf 21 = .ok (.aload_n 0, 1) := by decide +kernel
theorem dX12_closedOf_22 : decode cX12_closedOf 22 = .ok (.iload_n 1, 1) := by decide +kernel
theorem dX12_closedOf_23 : decode cX12_closedOf 23 = .ok (.invokevirtual 123, 3) := by decide +kernel
theorem dX12_closedOf_26 : decode cX12_closedOf 26 = .ok (.iaload, 1) := by decide +kernel
theorem dX12_closedOf_27 : decode cX12_closedOf 27 = .ok (.iconst (-1), 1) := by decide +kernel
theorem dX12_closedOf_28 : decode cX12_closedOf 28 = .ok (.if_icmp .ne 19, 3) := by decide +kernel
theorem dX12_closedOf_31 : decode cX12_closedOf 31 = .ok (.aload_n 0, 1) := by decide +kernel
theorem dX12_closedOf_32 : decode cX12_closedOf 32 = .ok (.iload_n 2, 1) := by decide +kernel
theorem dX12_closedOf_33 : decode cX12_closedOf 33 = .ok (.invokevirtual 155, 3) := by decide +kernel
theorem dX12_closedOf_36 : decode cX12_closedOf 36 = .ok (.ifCond .eq 7, 3) := by decide +kernel
theorem dX12_closedOf_39 : decode cX12_closedOf 39 = .ok (.iconst 0, 1) := by decide +kernel
theorem dX12_closedOf_40 : decode cX12_closedOf 40 = .ok (.goto 22, 3) := by decide +kernel
theorem dX12_closedOf_43 : decode cX12_closedOf 43 = .ok (.iload_n 1, 1) := by decide +kernel
theorem dX12_closedOf_44 : decode cX12_closedOf 44 = .ok (.goto 18, 3) := by decide +kernel
theorem dX12_closedOf_47 : decode cX12_closedOf 47 = .ok (.aload_n 0, 1) := by decide +kernel
theorem dX12_closedOf_48 : decode cX12_closedOf 48 = .ok (.aload_n 0, 1) := by decide +kernel
theorem dX12_closedOf_49 : decode cX12_closedOf 49 = .ok (.getfield 44, 3) := by decide +kernel
theorem dX12_closedOf_52 : decode cX12_closedOf 52 = .ok (.aload_n 0, 1) := by decide +kernel
theorem dX12_closedOf_53 : decode cX12_closedOf 53 = .ok (.iload_n 1, 1) := by decide +kernel
theorem dX12_closedOf_54 : decode cX12_closedOf 54 = .ok (.invokevirtual 123, 3) := by decide +kernel
theorem dX12_closedOf_57 : decode cX12_closedOf 57 = .ok (.iaload, 1) := by decide +kernel
theorem dX12_closedOf_58 : decode cX12_closedOf 58 = .ok (.iload_n 2, 1) := by decide +kernel
theorem dX12_closedOf_59 : decode cX12_closedOf 59 = .ok (.invokevirtual 158, 3) := by decide +kernel
theorem dX12_closedOf_62 : decode cX12_closedOf 62 = .ok (.ireturn, 1) := by decide +kernel
theorem dX12_closedOf_63 : decode cX12_closedOf 63 = .ok (.aload_n 0, 1) := by decide +kernel
theorem dX12_closedOf_64 : decode cX12_closedOf 64 = .ok (.iload_n 2, 1) := by decide +kernel
theorem dX12_closedOf_65 : decode cX12_closedOf 65 = .ok (.invokevirtual 155, 3) := by decide +kernel
theorem dX12_closedOf_68 : decode cX12_closedOf 68 = .ok (.ifCond .eq 5, 3) := by decide +kernel
theorem dX12_closedOf_71 : decode cX12_closedOf 71 = .ok (.iconst 0, 1) := by decide +kernel
theorem dX12_closedOf_72 : decode cX12_closedOf 72 = .ok (.ireturn, 1) := by decide +kernel
theorem dX12_closedOf_73 : decode cX12_closedOf 73 = .ok (.aload_n 0, 1) := by decide +kernel
theorem dX12_closedOf_74 : decode cX12_closedOf 74 = .ok (.iload_n 1, 1) := by decide +kernel
theorem dX12_closedOf_75 : decode cX12_closedOf 75 = .ok (.invokevirtual 111, 3) := by decide +kernel
theorem dX12_closedOf_78 : decode cX12_closedOf 78 = .ok (.istore_n 3, 1) := by decide +kernel
theorem dX12_closedOf_79 : decode cX12_closedOf 79 = .ok (.iload_n 3, 1) := by decide +kernel
theorem dX12_closedOf_80 : decode cX12_closedOf 80 = .ok (.ifCond .le 19, 3) := by decide +kernel
theorem dX12_closedOf_83 : decode cX12_closedOf 83 = .ok (.aload_n 0, 1) := by decide +kernel
theorem dX12_closedOf_84 : decode cX12_closedOf 84 = .ok (.aload_n 0, 1) := by decide +kernel
theorem dX12_closedOf_85 : decode cX12_closedOf 85 = .ok (.iload_n 1, 1) := by decide +kernel
theorem dX12_closedOf_86 : decode cX12_closedOf 86 = .ok (.iconst 0, 1) := by decide +kernel
theorem dX12_closedOf_87 : decode cX12_closedOf 87 = .ok (.invokevirtual 88, 3) := by decide +kernel
theorem dX12_closedOf_90 : decode cX12_closedOf 90 = .ok (.iload_n 2, 1) := by decide +kernel
theorem dX12_closedOf_91 : decode cX12_closedOf 91 = .ok (.iconst 1, 1) := by decide +kernel
theorem dX12_closedOf_92 : decode cX12_closedOf 92 = .ok (.iadd, 1) := by decide +kernel
theorem dX12_closedOf_93 : decode cX12_closedOf 93 = .ok (.invokevirtual 158, 3) := by decide +kernel
theorem dX12_closedOf_96 : decode cX12_closedOf 96 = .ok (.goto 4, 3) := by decide +kernel
theorem dX12_closedOf_99 : decode cX12_closedOf 99 = .ok (.iconst 0, 1) := by decide +kernel
theorem dX12_closedOf_100 : decode cX12_closedOf 100 = .ok (.istore 4, 2) := by decide +kernel
theorem dX12_closedOf_102 : decode cX12_closedOf 102 = .ok (.iload_n 3, 1) := by decide +kernel
theorem dX12_closedOf_103 : decode cX12_closedOf 103 = .ok (.iconst 1, 1) := by decide +kernel
theorem dX12_closedOf_104 : decode cX12_closedOf 104 = .ok (.if_icmp .le 19, 3) := by decide +kernel
theorem dX12_closedOf_107 : decode cX12_closedOf 107 = .ok (.aload_n 0, 1) := by decide +kernel
theorem dX12_closedOf_108 : decode cX12_closedOf 108 = .ok (.aload_n 0, 1) := by decide +kernel
theorem dX12_closedOf_109 : decode cX12_closedOf 109 = .ok (.iload_n 1, 1) := by decide +kernel
theorem dX12_closedOf_110 : decode cX12_closedOf 110 = .ok (.iconst 1, 1) := by decide +kernel
theorem dX12_closedOf_111 : decode cX12_closedOf 111 = .ok (.invokevirtual 88, 3) := by decide +kernel
theorem dX12_closedOf_114 : decode cX12_closedOf 114 = .ok (.iload_n 2, 1) := by decide +kernel
theorem dX12_closedOf_115 : decode cX12_closedOf 115 = .ok (.iconst 1, 1) := by decide +kernel
theorem dX12_closedOf_116 : decode cX12_closedOf 116 = .ok (.iadd, 1) := by decide +kernel
theorem dX12_closedOf_117 : decode cX12_closedOf 117 = .ok (.invokevirtual 158, 3) := by decide +kernel
theorem dX12_closedOf_120 : decode cX12_closedOf 120 = .ok (.goto 4, 3) := by decide +kernel
theorem dX12_closedOf_123 : decode cX12_closedOf 123 = .ok (.iconst 0, 1) := by decide +kernel
theorem dX12_closedOf_124 : decode cX12_closedOf 124 = .ok (.istore 5, 2) := by decide +kernel
theorem dX12_closedOf_126 : decode cX12_closedOf 126 = .ok (.iload_n 3, 1) := by decide +kernel
theorem dX12_closedOf_127 : decode cX12_closedOf 127 = .ok (.iconst 2, 1) := by decide +kernel
theorem dX12_closedOf_128 : decode cX12_closedOf 128 = .ok (.if_icmp .le 19, 3) := by decide +kernel
theorem dX12_closedOf_131 : decode cX12_closedOf 131 = .ok (.aload_n 0, 1) := by decide +kernel
theorem dX12_closedOf_132 : decode cX12_closedOf 132 = .ok (.aload_n 0, 1) := by decide +kernel
theorem dX12_closedOf_133 : decode cX12_closedOf 133 = .ok (.iload_n 1, 1) := by decide +kernel
theorem dX12_closedOf_134 : decode cX12_closedOf 134 = .ok (.iconst 2, 1) := by decide +kernel
theorem dX12_closedOf_135 : decode cX12_closedOf 135 = .ok (.invokevirtual 88, 3) := by decide +kernel
theorem dX12_closedOf_138 : decode cX12_closedOf 138 = .ok (.iload_n 2, 1) := by decide +kernel
theorem dX12_closedOf_139 : decode cX12_closedOf 139 = .ok (.iconst 1, 1) := by decide +kernel
theorem dX12_closedOf_140 : decode cX12_closedOf 140 = .ok (.iadd, 1) := by decide +kernel
theorem dX12_closedOf_141 : decode cX12_closedOf 141 = .ok (.invokevirtual 158, 3) := by decide +kernel
theorem dX12_closedOf_144 : decode cX12_closedOf 144 = .ok (.goto 4, 3) := by decide +kernel
theorem dX12_closedOf_147 : decode cX12_closedOf 147 = .ok (.iconst 0, 1) := by decide +kernel
theorem dX12_closedOf_148 : decode cX12_closedOf 148 = .ok (.istore 6, 2) := by decide +kernel
theorem dX12_closedOf_150 : decode cX12_closedOf 150 = .ok (.aload_n 0, 1) := by decide +kernel
theorem dX12_closedOf_151 : decode cX12_closedOf 151 = .ok (.iload_n 1, 1) := by decide +kernel
theorem dX12_closedOf_152 : decode cX12_closedOf 152 = .ok (.iload 4, 2) := by decide +kernel
theorem dX12_closedOf_154 : decode cX12_closedOf 154 = .ok (.iload 5, 2) := by decide +kernel
theorem dX12_closedOf_156 : decode cX12_closedOf 156 = .ok (.iload 6, 2) := by decide +kernel
theorem dX12_closedOf_158 : decode cX12_closedOf 158 = .ok (.invokevirtual 152, 3) := by decide +kernel
theorem dX12_closedOf_161 : decode cX12_closedOf 161 = .ok (.ireturn, 1) := by decide +kernel
theorem dX12_isTooDeep_0 : decode cX12_isTooDeep 0 = .ok (.aload_n 0, 1) := by decide +kernel
theorem dX12_isTooDeep_1 : decode cX12_isTooDeep 1 = .ok (.aload_n 0, 1) := by decide +kernel
theorem dX12_isTooDeep_2 : decode cX12_isTooDeep 2 = .ok (.getfield 92, 3) := by decide +kernel
theorem dX12_isTooDeep_5 : decode cX12_isTooDeep 5 = .ok (.ifCond .ne 9, 3) := by decide +kernel
theorem dX12_isTooDeep_8 : decode cX12_isTooDeep 8 = .ok (.iload_n 1, 1) := by decide +kernel
theorem dX12_isTooDeep_9 : decode cX12_isTooDeep 9 = .ok (.bipush 6, 2) := by decide +kernel
theorem dX12_isTooDeep_11 : decode cX12_isTooDeep 11 = .ok (.if_icmp .le 7, 3) := by decide +kernel
theorem dX12_isTooDeep_14 : decode cX12_isTooDeep 14 = .ok (.iconst 1, 1) := by decide +kernel
theorem dX12_isTooDeep_15 : decode cX12_isTooDeep 15 = .ok (.goto 4, 3) := by decide +kernel
theorem dX12_isTooDeep_18 : decode cX12_isTooDeep 18 = .ok (.iconst 0, 1) := by decide +kernel
theorem dX12_isTooDeep_19 : decode cX12_isTooDeep 19 = .ok (.putfield 92, 3) := by decide +kernel
theorem dX12_isTooDeep_22 : decode cX12_isTooDeep 22 = .ok (.aload_n 0, 1) := by decide +kernel
theorem dX12_isTooDeep_23 : decode cX12_isTooDeep 23 = .ok (.getfield 92, 3) := by decide +kernel
theorem dX12_isTooDeep_26 : decode cX12_isTooDeep 26 = .ok (.ireturn, 1) := by decide +kernel
theorem dX12_top_0 : decode cX12_top 0 = .ok (.iload_n 1, 1) := by decide +kernel
theorem dX12_top_1 : decode cX12_top 1 = .ok (.istore_n 2, 1) := by decide +kernel
theorem dX12_top_2 : decode cX12_top 2 = .ok (.aload_n 0, 1) := by decide +kernel
theorem dX12_top_3 : decode cX12_top 3 = .ok (.getfield 50, 3) := by decide +kernel
theorem dX12_top_6 : decode cX12_top 6 = .ok (.iload_n 2, 1) := by decide +kernel
theorem dX12_top_7 : decode cX12_top 7 = .ok (.iaload, 1) := by decide +kernel
theorem dX12_top_8 : decode cX12_top 8 = .ok (.iload_n 2, 1) := by decide +kernel
theorem dX12_top_9 : decode cX12_top 9 = .ok (.if_icmp .eq 13, 3) := by decide +kernel
theorem dX12_top_12 : decode cX12_top 12 = .ok (.aload_n 0, 1) := by decide +kernel
theorem dX12_top_13 : decode cX12_top 13 = .ok (.getfield 50, 3) := by decide +kernel
theorem dX12_top_16 : decode cX12_top 16 = .ok (.iload_n 2, 1) := by decide +kernel
theorem dX12_top_17 : decode cX12_top 17 = .ok (.iaload, 1) := by decide +kernel
theorem dX12_top_18 : decode cX12_top 18 = .ok (.istore_n 2, 1) := by decide +kernel
theorem dX12_top_19 : decode cX12_top 19 = .ok (.goto (-17), 3) := by decide +kernel
theorem dX12_top_22 : decode cX12_top 22 = .ok (.iload_n 2, 1) := by decide +kernel
theorem dX12_top_23 : decode cX12_top 23 = .ok (.ireturn, 1) := by decide +kernel
theorem dX12_argumentOf_0 : decode cX12_argumentOf 0 = .ok (.iload_n 1, 1) := by decide +kernel
theorem dX12_argumentOf_1 : decode cX12_argumentOf 1 = .ok (.sipush 400, 3) := by decide +kernel
theorem dX12_argumentOf_4 : decode cX12_argumentOf 4 = .ok (.idiv, 1) := by decide +kernel
theorem dX12_argumentOf_5 : decode cX12_argumentOf 5 = .ok (.sipush 400, 3) := by decide +kernel
theorem dX12_argumentOf_8 : decode cX12_argumentOf 8 = .ok (.imul, 1) := by decide +kernel
theorem dX12_argumentOf_9 : decode cX12_argumentOf 9 = .ok (.aload_n 0, 1) := by decide +kernel
theorem dX12_argumentOf_10 : decode cX12_argumentOf 10 = .ok (.iload_n 1, 1) := by decide +kernel
theorem dX12_argumentOf_11 : decode cX12_argumentOf 11 = .ok (.sipush 400, 3) := by decide +kernel
theorem dX12_argumentOf_14 : decode cX12_argumentOf 14 = .ok (.irem, 1) := by decide +kernel
theorem dX12_argumentOf_15 : decode cX12_argumentOf 15 = .ok (.iload_n 2, 1) := by decide +kernel
theorem dX12_argumentOf_16 : decode cX12_argumentOf 16 = .ok (.invokevirtual 88, 3) := by decide +kernel
theorem dX12_argumentOf_19 : decode cX12_argumentOf 19 = .ok (.iadd, 1) := by decide +kernel
theorem dX12_argumentOf_20 : decode cX12_argumentOf 20 = .ok (.ireturn, 1) := by decide +kernel
theorem dX12_beginsClasses_0 : decode cX12_beginsClasses 0 = .ok (.iconst 0, 1) := by decide +kernel
theorem dX12_beginsClasses_1 : decode cX12_beginsClasses 1 = .ok (.istore_n 1, 1) := by decide +kernel
theorem dX12_beginsClasses_2 : decode cX12_beginsClasses 2 = .ok (.iload_n 1, 1) := by decide +kernel
theorem dX12_beginsClasses_3 : decode cX12_beginsClasses 3 = .ok (.sipush 800, 3) := by decide +kernel
theorem dX12_beginsClasses_6 : decode cX12_beginsClasses 6 = .ok (.if_icmp .ge 94, 3) := by decide +kernel
theorem dX12_beginsClasses_9 : decode cX12_beginsClasses 9 = .ok (.iload_n 1, 1) := by decide +kernel
theorem dX12_beginsClasses_10 : decode cX12_beginsClasses 10 = .ok (.sipush 400, 3) := by decide +kernel
theorem dX12_beginsClasses_13 : decode cX12_beginsClasses 13 = .ok (.irem, 1) := by decide +kernel
theorem dX12_beginsClasses_14 : decode cX12_beginsClasses 14 = .ok (.istore_n 2, 1) := by decide +kernel
theorem dX12_beginsClasses_15 : decode cX12_beginsClasses 15 = .ok (.iload_n 2, 1) := by decide +kernel
theorem dX12_beginsClasses_16 : decode cX12_beginsClasses 16 = .ok (.aload_n 0, 1) := by decide +kernel
theorem dX12_beginsClasses_17 : decode cX12_beginsClasses 17 = .ok (.invokevirtual 96, 3) := by decide +kernel
theorem dX12_beginsClasses_20 : decode cX12_beginsClasses 20 = .ok (.if_icmp .ge 7, 3) := by decide +kernel
theorem dX12_beginsClasses_23 : decode cX12_beginsClasses 23 = .ok (.iconst 1, 1) := by decide +kernel
theorem dX12_beginsClasses_24 : decode cX12_beginsClasses 24 = .ok (.goto 4, 3) := by decide +kernel
theorem dX12_beginsClasses_27 : decode cX12_beginsClasses 27 = .ok (.iconst 0, 1) := by decide +kernel
theorem dX12_beginsClasses_28 : decode cX12_beginsClasses 28 = .ok (.istore_n 3, 1) := by decide +kernel
theorem dX12_beginsClasses_29 : decode cX12_beginsClasses 29 = .ok (.aload_n 0, 1) := by decide +kernel
theorem dX12_beginsClasses_30 : decode cX12_beginsClasses 30 = .ok (.getfield 50, 3) := by decide +kernel
theorem dX12_beginsClasses_33 : decode cX12_beginsClasses 33 = .ok (.iload_n 1, 1) := by decide +kernel
theorem dX12_beginsClasses_34 : decode cX12_beginsClasses 34 = .ok (.iload_n 1, 1) := by decide +kernel
theorem dX12_beginsClasses_35 : decode cX12_beginsClasses 35 = .ok (.iastore, 1) := by decide +kernel
theorem dX12_beginsClasses_36 : decode cX12_beginsClasses 36 = .ok (.aload_n 0, 1) := by decide +kernel
theorem dX12_beginsClasses_37 : decode cX12_beginsClasses 37 = .ok (.getfield 53, 3) := by decide +kernel
theorem dX12_beginsClasses_40 : decode cX12_beginsClasses 40 = .ok (.iload_n 1, 1) := by decide +kernel
theorem dX12_beginsClasses_41 : decode cX12_beginsClasses 41 = .ok (.iload_n 3, 1) := by decide +kernel
theorem dX12_beginsClasses_42 : decode cX12_beginsClasses 42 = .ok (.ifCond .eq 15, 3) := by decide +kernel
theorem dX12_beginsClasses_45 : decode cX12_beginsClasses 45 = .ok (.aload_n 0, 1) := by decide +kernel
theorem dX12_beginsClasses_46 : decode cX12_beginsClasses 46 = .ok (.iload_n 2, 1) := by decide +kernel
theorem dX12_beginsClasses_47 : decode cX12_beginsClasses 47 = .ok (.invokevirtual 78, 3) := by decide +kernel
theorem dX12_beginsClasses_50 : decode cX12_beginsClasses 50 = .ok (.ifCond .ne 7, 3) := by decide +kernel
theorem dX12_beginsClasses_53 : decode cX12_beginsClasses 53 = .ok (.iload_n 1, 1) := by decide +kernel
theorem dX12_beginsClasses_54 : decode cX12_beginsClasses 54 = .ok (.goto 4, 3) := by decide +kernel
theorem dX12_beginsClasses_57 : decode cX12_beginsClasses 57 = .ok (.iconst (-1), 1) := by decide +kernel
theorem dX12_beginsClasses_58 : decode cX12_beginsClasses 58 = .ok (.iastore, 1) := by decide +kernel
theorem dX12_beginsClasses_59 : decode cX12_beginsClasses 59 = .ok (.aload_n 0, 1) := by decide +kernel
theorem dX12_beginsClasses_60 : decode cX12_beginsClasses 60 = .ok (.getfield 56, 3) := by decide +kernel
theorem dX12_beginsClasses_63 : decode cX12_beginsClasses 63 = .ok (.iload_n 1, 1) := by decide +kernel
theorem dX12_beginsClasses_64 : decode cX12_beginsClasses 64 = .ok (.iload_n 3, 1) := by decide +kernel
theorem dX12_beginsClasses_65 : decode cX12_beginsClasses 65 = .ok (.ifCond .eq 19, 3) := by decide +kernel
theorem dX12_beginsClasses_68 : decode cX12_beginsClasses 68 = .ok (.aload_n 0, 1) := by decide +kernel
theorem dX12_beginsClasses_69 : decode cX12_beginsClasses 69 = .ok (.iload_n 2, 1) := by decide +kernel
theorem dX12_beginsClasses_70 : decode cX12_beginsClasses 70 = .ok (.invokevirtual 78, 3) := by decide +kernel
theorem dX12_beginsClasses_73 : decode cX12_beginsClasses 73 = .ok (.ifCond .eq 11, 3) := by decide +kernel
theorem dX12_beginsClasses_76 : decode cX12_beginsClasses 76 = .ok (.aload_n 0, 1) := by decide +kernel
theorem dX12_beginsClasses_77 : decode cX12_beginsClasses 77 = .ok (.iload_n 2, 1) := by decide +kernel
theorem dX12_beginsClasses_78 : decode cX12_beginsClasses 78 = .ok (.invokevirtual 123, 3) := by decide +kernel
theorem dX12_beginsClasses_81 : decode cX12_beginsClasses 81 = .ok (.goto 5, 3) := by decide +kernel
theorem dX12_beginsClasses_84 : decode cX12_beginsClasses 84 = .ok (.bipush 8, 2) := by decide +kernel
theorem dX12_beginsClasses_86 : decode cX12_beginsClasses 86 = .ok (.iastore, 1) := by decide +kernel
theorem dX12_beginsClasses_87 : decode cX12_beginsClasses 87 = .ok (.aload_n 0, 1) := by decide +kernel
theorem dX12_beginsClasses_88 : decode cX12_beginsClasses 88 = .ok (.getfield 59, 3) := by decide +kernel
theorem dX12_beginsClasses_91 : decode cX12_beginsClasses 91 = .ok (.iload_n 1, 1) := by decide +kernel
theorem dX12_beginsClasses_92 : decode cX12_beginsClasses 92 = .ok (.iconst 0, 1) := by decide +kernel
theorem dX12_beginsClasses_93 : decode cX12_beginsClasses 93 = .ok (.iastore, 1) := by decide +kernel
theorem dX12_beginsClasses_94 : decode cX12_beginsClasses 94 = .ok (.iinc 1 1, 3) := by decide +kernel
theorem dX12_beginsClasses_97 : decode cX12_beginsClasses 97 = .ok (.goto (-95), 3) := by decide +kernel
theorem dX12_beginsClasses_100 : decode cX12_beginsClasses 100 = .ok (.aload_n 0, 1) := by decide +kernel
theorem dX12_beginsClasses_101 : decode cX12_beginsClasses 101 = .ok (.iconst 0, 1) := by decide +kernel
theorem dX12_beginsClasses_102 : decode cX12_beginsClasses 102 = .ok (.putfield 161, 3) := by decide +kernel
theorem dX12_beginsClasses_105 : decode cX12_beginsClasses 105 = .ok (.return_, 1) := by decide +kernel
theorem dX12_joins_0 : decode cX12_joins 0 = .ok (.aload_n 0, 1) := by decide +kernel
theorem dX12_joins_1 : decode cX12_joins 1 = .ok (.iload_n 1, 1) := by decide +kernel
theorem dX12_joins_2 : decode cX12_joins 2 = .ok (.invokevirtual 164, 3) := by decide +kernel
theorem dX12_joins_5 : decode cX12_joins 5 = .ok (.istore_n 3, 1) := by decide +kernel
theorem dX12_joins_6 : decode cX12_joins 6 = .ok (.aload_n 0, 1) := by decide +kernel
theorem dX12_joins_7 : decode cX12_joins 7 = .ok (.iload_n 2, 1) := by decide +kernel
theorem dX12_joins_8 : decode cX12_joins 8 = .ok (.invokevirtual 164, 3) := by decide +kernel
theorem dX12_joins_11 : decode cX12_joins 11 = .ok (.istore 4, 2) := by decide +kernel
theorem dX12_joins_13 : decode cX12_joins 13 = .ok (.iload_n 3, 1) := by decide +kernel
theorem dX12_joins_14 : decode cX12_joins 14 = .ok (.iload 4, 2) := by decide +kernel
theorem dX12_joins_16 : decode cX12_joins 16 = .ok (.if_icmp .ne 4, 3) := by decide +kernel
theorem dX12_joins_19 : decode cX12_joins 19 = .ok (.return_, 1) := by decide +kernel
theorem dX12_joins_20 : decode cX12_joins 20 = .ok (.aload_n 0, 1) := by decide +kernel
theorem dX12_joins_21 : decode cX12_joins 21 = .ok (.getfield 53, 3) := by decide +kernel
theorem dX12_joins_24 : decode cX12_joins 24 = .ok (.iload_n 3, 1) := by decide +kernel
theorem dX12_joins_25 : decode cX12_joins 25 = .ok (.iaload, 1) := by decide +kernel
theorem dX12_joins_26 : decode cX12_joins 26 = .ok (.istore 5, 2) := by decide +kernel
theorem dX12_joins_28 : decode cX12_joins 28 = .ok (.aload_n 0, 1) := by decide +kernel
theorem dX12_joins_29 : decode cX12_joins 29 = .ok (.getfield 53, 3) := by decide +kernel
theorem dX12_joins_32 : decode cX12_joins 32 = .ok (.iload 4, 2) := by decide +kernel
theorem dX12_joins_34 : decode cX12_joins 34 = .ok (.iaload, 1) := by decide +kernel
theorem dX12_joins_35 : decode cX12_joins 35 = .ok (.istore 6, 2) := by decide +kernel
theorem dX12_joins_37 : decode cX12_joins 37 = .ok (.aload_n 0, 1) := by decide +kernel
theorem dX12_joins_38 : decode cX12_joins 38 = .ok (.getfield 50, 3) := by decide +kernel
theorem dX12_joins_41 : decode cX12_joins 41 = .ok (.iload 4, 2) := by decide +kernel
theorem dX12_joins_43 : decode cX12_joins 43 = .ok (.iload_n 3, 1) := by decide +kernel
theorem dX12_joins_44 : decode cX12_joins 44 = .ok (.iastore, 1) := by decide +kernel
theorem dX12_joins_45 : decode cX12_joins 45 = .ok (.iload 5, 2) := by decide +kernel
theorem dX12_joins_47 : decode cX12_joins 47 = .ok (.iconst (-1), 1) := by decide +kernel
theorem dX12_joins_48 : decode cX12_joins 48 = .ok (.if_icmp .ne 11, 3) := by decide +kernel
theorem dX12_joins_51 : decode cX12_joins 51 = .ok (.aload_n 0, 1) := by decide +kernel
theorem dX12_joins_52 : decode cX12_joins 52 = .ok (.getfield 53, 3) := by decide +kernel
theorem dX12_joins_55 : decode cX12_joins 55 = .ok (.iload_n 3, 1) := by decide +kernel
theorem dX12_joins_56 : decode cX12_joins 56 = .ok (.iload 6, 2) := by decide +kernel
theorem dX12_joins_58 : decode cX12_joins 58 = .ok (.iastore, 1) := by decide +kernel
theorem dX12_joins_59 : decode cX12_joins 59 = .ok (.aload_n 0, 1) := by decide +kernel
theorem dX12_joins_60 : decode cX12_joins 60 = .ok (.getfield 56, 3) := by decide +kernel
theorem dX12_joins_63 : decode cX12_joins 63 = .ok (.iload 4, 2) := by decide +kernel
theorem dX12_joins_65 : decode cX12_joins 65 = .ok (.iaload, 1) := by decide +kernel
theorem dX12_joins_66 : decode cX12_joins 66 = .ok (.aload_n 0, 1) := by decide +kernel
theorem dX12_joins_67 : decode cX12_joins 67 = .ok (.getfield 56, 3) := by decide +kernel
theorem dX12_joins_70 : decode cX12_joins 70 = .ok (.iload_n 3, 1) := by decide +kernel
theorem dX12_joins_71 : decode cX12_joins 71 = .ok (.iaload, 1) := by decide +kernel
theorem dX12_joins_72 : decode cX12_joins 72 = .ok (.if_icmp .ge 16, 3) := by decide +kernel
theorem dX12_joins_75 : decode cX12_joins 75 = .ok (.aload_n 0, 1) := by decide +kernel
theorem dX12_joins_76 : decode cX12_joins 76 = .ok (.getfield 56, 3) := by decide +kernel
theorem dX12_joins_79 : decode cX12_joins 79 = .ok (.iload_n 3, 1) := by decide +kernel
theorem dX12_joins_80 : decode cX12_joins 80 = .ok (.aload_n 0, 1) := by decide +kernel
theorem dX12_joins_81 : decode cX12_joins 81 = .ok (.getfield 56, 3) := by decide +kernel
theorem dX12_joins_84 : decode cX12_joins 84 = .ok (.iload 4, 2) := by decide +kernel
theorem dX12_joins_86 : decode cX12_joins 86 = .ok (.iaload, 1) := by decide +kernel
theorem dX12_joins_87 : decode cX12_joins 87 = .ok (.iastore, 1) := by decide +kernel
theorem dX12_joins_88 : decode cX12_joins 88 = .ok (.iload 5, 2) := by decide +kernel
theorem dX12_joins_90 : decode cX12_joins 90 = .ok (.iconst (-1), 1) := by decide +kernel
theorem dX12_joins_91 : decode cX12_joins 91 = .ok (.if_icmp .eq 9, 3) := by decide +kernel
theorem dX12_joins_94 : decode cX12_joins 94 = .ok (.iload 6, 2) := by decide +kernel
theorem dX12_joins_96 : decode cX12_joins 96 = .ok (.iconst (-1), 1) := by decide +kernel
theorem dX12_joins_97 : decode cX12_joins 97 = .ok (.if_icmp .ne 4, 3) := by decide +kernel
theorem dX12_joins_100 : decode cX12_joins 100 = .ok (.return_, 1) := by decide +kernel
theorem dX12_joins_101 : decode cX12_joins 101 = .ok (.aload_n 0, 1) := by decide +kernel
theorem dX12_joins_102 : decode cX12_joins 102 = .ok (.iload 5, 2) := by decide +kernel
theorem dX12_joins_104 : decode cX12_joins 104 = .ok (.sipush 400, 3) := by decide +kernel
theorem dX12_joins_107 : decode cX12_joins 107 = .ok (.irem, 1) := by decide +kernel
theorem dX12_joins_108 : decode cX12_joins 108 = .ok (.invokevirtual 74, 3) := by decide +kernel
theorem dX12_joins_111 : decode cX12_joins 111 = .ok (.aload_n 0, 1) := by decide +kernel
theorem dX12_joins_112 : decode cX12_joins 112 = .ok (.iload 6, 2) := by decide +kernel
theorem dX12_joins_114 : decode cX12_joins 114 = .ok (.sipush 400, 3) := by decide +kernel
theorem dX12_joins_117 : decode cX12_joins 117 = .ok (.irem, 1) := by decide +kernel
theorem dX12_joins_118 : decode cX12_joins 118 = .ok (.invokevirtual 74, 3) := by decide +kernel
theorem dX12_joins_121 : decode cX12_joins 121 = .ok (.if_icmp .eq 9, 3) := by decide +kernel
theorem dX12_joins_124 : decode cX12_joins 124 = .ok (.aload_n 0, 1) := by decide +kernel
theorem dX12_joins_125 : decode cX12_joins 125 = .ok (.iconst 1, 1) := by decide +kernel
theorem dX12_joins_126 : decode cX12_joins 126 = .ok (.putfield 161, 3) := by decide +kernel
theorem dX12_joins_129 : decode cX12_joins 129 = .ok (.return_, 1) := by decide +kernel
theorem dX12_joins_130 : decode cX12_joins 130 = .ok (.iconst 0, 1) := by decide +kernel
theorem dX12_joins_131 : decode cX12_joins 131 = .ok (.istore 7, 2) := by decide +kernel
theorem dX12_joins_133 : decode cX12_joins 133 = .ok (.iload 7, 2) := by decide +kernel
theorem dX12_joins_135 : decode cX12_joins 135 = .ok (.aload_n 0, 1) := by decide +kernel
theorem dX12_joins_136 : decode cX12_joins 136 = .ok (.iload 5, 2) := by decide +kernel
theorem dX12_joins_138 : decode cX12_joins 138 = .ok (.sipush 400, 3) := by decide +kernel
theorem dX12_joins_141 : decode cX12_joins 141 = .ok (.irem, 1) := by decide +kernel
theorem dX12_joins_142 : decode cX12_joins 142 = .ok (.invokevirtual 111, 3) := by decide +kernel
theorem dX12_joins_145 : decode cX12_joins 145 = .ok (.if_icmp .ge 29, 3) := by decide +kernel
theorem dX12_joins_148 : decode cX12_joins 148 = .ok (.aload_n 0, 1) := by decide +kernel
theorem dX12_joins_149 : decode cX12_joins 149 = .ok (.aload_n 0, 1) := by decide +kernel
theorem dX12_joins_150 : decode cX12_joins 150 = .ok (.iload 5, 2) := by decide +kernel
theorem dX12_joins_152 : decode cX12_joins 152 = .ok (.iload 7, 2) := by decide +kernel
theorem dX12_joins_154 : decode cX12_joins 154 = .ok (.invokevirtual 167, 3) := by decide +kernel
theorem dX12_joins_157 : decode cX12_joins 157 = .ok (.aload_n 0, 1) := by decide +kernel
theorem dX12_joins_158 : decode cX12_joins 158 = .ok (.iload 6, 2) := by decide +kernel
theorem dX12_joins_160 : decode cX12_joins 160 = .ok (.iload 7, 2) := by decide +kernel
theorem dX12_joins_162 : decode cX12_joins 162 = .ok (.invokevirtual 167, 3) := by decide +kernel
theorem dX12_joins_165 : decode cX12_joins 165 = .ok (.invokevirtual 170, 3) := by decide +kernel
theorem dX12_joins_168 : decode cX12_joins 168 = .ok (.iinc 7 1, 3) := by decide +kernel
theorem dX12_joins_171 : decode cX12_joins 171 = .ok (.goto (-38), 3) := by decide +kernel
theorem dX12_joins_174 : decode cX12_joins 174 = .ok (.return_, 1) := by decide +kernel
theorem dX12_turns_0 : decode cX12_turns 0 = .ok (.aload_n 0, 1) := by decide +kernel
theorem dX12_turns_1 : decode cX12_turns 1 = .ok (.iload_n 1, 1) := by decide +kernel
theorem dX12_turns_2 : decode cX12_turns 2 = .ok (.invokevirtual 164, 3) := by decide +kernel
theorem dX12_turns_5 : decode cX12_turns 5 = .ok (.istore_n 2, 1) := by decide +kernel
theorem dX12_turns_6 : decode cX12_turns 6 = .ok (.aload_n 0, 1) := by decide +kernel
theorem dX12_turns_7 : decode cX12_turns 7 = .ok (.getfield 59, 3) := by decide +kernel
theorem dX12_turns_10 : decode cX12_turns 10 = .ok (.iload_n 2, 1) := by decide +kernel
theorem dX12_turns_11 : decode cX12_turns 11 = .ok (.iaload, 1) := by decide +kernel
theorem dX12_turns_12 : decode cX12_turns 12 = .ok (.iconst 2, 1) := by decide +kernel
theorem dX12_turns_13 : decode cX12_turns 13 = .ok (.if_icmp .eq 13, 3) := by decide +kernel
theorem dX12_turns_16 : decode cX12_turns 16 = .ok (.aload_n 0, 1) := by decide +kernel
theorem dX12_turns_17 : decode cX12_turns 17 = .ok (.getfield 53, 3) := by decide +kernel
theorem dX12_turns_20 : decode cX12_turns 20 = .ok (.iload_n 2, 1) := by decide +kernel
theorem dX12_turns_21 : decode cX12_turns 21 = .ok (.iaload, 1) := by decide +kernel
theorem dX12_turns_22 : decode cX12_turns 22 = .ok (.iconst (-1), 1) := by decide +kernel
theorem dX12_turns_23 : decode cX12_turns 23 = .ok (.if_icmp .ne 5, 3) := by decide +kernel
theorem dX12_turns_26 : decode cX12_turns 26 = .ok (.iconst 0, 1) := by decide +kernel
theorem dX12_turns_27 : decode cX12_turns 27 = .ok (.ireturn, 1) := by decide +kernel
theorem dX12_turns_28 : decode cX12_turns 28 = .ok (.aload_n 0, 1) := by decide +kernel
theorem dX12_turns_29 : decode cX12_turns 29 = .ok (.getfield 59, 3) := by decide +kernel
theorem dX12_turns_32 : decode cX12_turns 32 = .ok (.iload_n 2, 1) := by decide +kernel
theorem dX12_turns_33 : decode cX12_turns 33 = .ok (.iaload, 1) := by decide +kernel
theorem dX12_turns_34 : decode cX12_turns 34 = .ok (.iconst 1, 1) := by decide +kernel
theorem dX12_turns_35 : decode cX12_turns 35 = .ok (.if_icmp .ne 5, 3) := by decide +kernel
theorem dX12_turns_38 : decode cX12_turns 38 = .ok (.iconst 1, 1) := by decide +kernel
theorem dX12_turns_39 : decode cX12_turns 39 = .ok (.ireturn, 1) := by decide +kernel
theorem dX12_turns_40 : decode cX12_turns 40 = .ok (.aload_n 0, 1) := by decide +kernel
theorem dX12_turns_41 : decode cX12_turns 41 = .ok (.getfield 59, 3) := by decide +kernel
theorem dX12_turns_44 : decode cX12_turns 44 = .ok (.iload_n 2, 1) := by decide +kernel
theorem dX12_turns_45 : decode cX12_turns 45 = .ok (.iconst 1, 1) := by decide +kernel
theorem dX12_turns_46 : decode cX12_turns 46 = .ok (.iastore, 1) := by decide +kernel
theorem dX12_turns_47 : decode cX12_turns 47 = .ok (.iconst 0, 1) := by decide +kernel
theorem dX12_turns_48 : decode cX12_turns 48 = .ok (.istore_n 3, 1) := by decide +kernel
theorem dX12_turns_49 : decode cX12_turns 49 = .ok (.iload_n 3, 1) := by decide +kernel
theorem dX12_turns_50 : decode cX12_turns 50 = .ok (.aload_n 0, 1) := by decide +kernel
theorem dX12_turns_51 : decode cX12_turns 51 = .ok (.aload_n 0, 1) := by decide +kernel
theorem dX12_turns_52 : decode cX12_turns 52 = .ok (.getfield 53, 3) := by decide +kernel
theorem dX12_turns_55 : decode cX12_turns 55 = .ok (.iload_n 2, 1) := by decide +kernel
theorem dX12_turns_56 : decode cX12_turns 56 = .ok (.iaload, 1) := by decide +kernel
theorem dX12_turns_57 : decode cX12_turns 57 = .ok (.sipush 400, 3) := by decide +kernel
theorem dX12_turns_60 : decode cX12_turns 60 = .ok (.irem, 1) := by decide +kernel
theorem dX12_turns_61 : decode cX12_turns 61 = .ok (.invokevirtual 111, 3) := by decide +kernel
theorem dX12_turns_64 : decode cX12_turns 64 = .ok (.if_icmp .ge 29, 3) := by decide +kernel
theorem dX12_turns_67 : decode cX12_turns 67 = .ok (.aload_n 0, 1) := by decide +kernel
theorem dX12_turns_68 : decode cX12_turns 68 = .ok (.aload_n 0, 1) := by decide +kernel
theorem dX12_turns_69 : decode cX12_turns 69 = .ok (.aload_n 0, 1) := by decide +kernel
theorem dX12_turns_70 : decode cX12_turns 70 = .ok (.getfield 53, 3) := by decide +kernel
theorem dX12_turns_73 : decode cX12_turns 73 = .ok (.iload_n 2, 1) := by decide +kernel
theorem dX12_turns_74 : decode cX12_turns 74 = .ok (.iaload, 1) := by decide +kernel
theorem dX12_turns_75 : decode cX12_turns 75 = .ok (.iload_n 3, 1) := by decide +kernel
theorem dX12_turns_76 : decode cX12_turns 76 = .ok (.invokevirtual 167, 3) := by decide +kernel
theorem dX12_turns_79 : decode cX12_turns 79 = .ok (.invokevirtual 174, 3) := by decide +kernel
theorem dX12_turns_82 : decode cX12_turns 82 = .ok (.ifCond .eq 5, 3) := by decide +kernel
theorem dX12_turns_85 : decode cX12_turns 85 = .ok (.iconst 1, 1) := by decide +kernel
theorem dX12_turns_86 : decode cX12_turns 86 = .ok (.ireturn, 1) := by decide +kernel
theorem dX12_turns_87 : decode cX12_turns 87 = .ok (.iinc 3 1, 3) := by decide +kernel
theorem dX12_turns_90 : decode cX12_turns 90 = .ok (.goto (-41), 3) := by decide +kernel
theorem dX12_turns_93 : decode cX12_turns 93 = .ok (.aload_n 0, 1) := by decide +kernel
theorem dX12_turns_94 : decode cX12_turns 94 = .ok (.getfield 59, 3) := by decide +kernel
theorem dX12_turns_97 : decode cX12_turns 97 = .ok (.iload_n 2, 1) := by decide +kernel
theorem dX12_turns_98 : decode cX12_turns 98 = .ok (.iconst 2, 1) := by decide +kernel
theorem dX12_turns_99 : decode cX12_turns 99 = .ok (.iastore, 1) := by decide +kernel
theorem dX12_turns_100 : decode cX12_turns 100 = .ok (.iconst 0, 1) := by decide +kernel
theorem dX12_turns_101 : decode cX12_turns 101 = .ok (.ireturn, 1) := by decide +kernel
theorem dX12_unifies_0 : decode cX12_unifies 0 = .ok (.aload_n 0, 1) := by decide +kernel
theorem dX12_unifies_1 : decode cX12_unifies 1 = .ok (.invokevirtual 177, 3) := by decide +kernel
theorem dX12_unifies_4 : decode cX12_unifies 4 = .ok (.aload_n 0, 1) := by decide +kernel
theorem dX12_unifies_5 : decode cX12_unifies 5 = .ok (.iload_n 1, 1) := by decide +kernel
theorem dX12_unifies_6 : decode cX12_unifies 6 = .ok (.iload_n 2, 1) := by decide +kernel
theorem dX12_unifies_7 : decode cX12_unifies 7 = .ok (.invokevirtual 170, 3) := by decide +kernel
theorem dX12_unifies_10 : decode cX12_unifies 10 = .ok (.aload_n 0, 1) := by decide +kernel
theorem dX12_unifies_11 : decode cX12_unifies 11 = .ok (.getfield 161, 3) := by decide +kernel
theorem dX12_unifies_14 : decode cX12_unifies 14 = .ok (.ifCond .eq 7, 3) := by decide +kernel
theorem dX12_unifies_17 : decode cX12_unifies 17 = .ok (.iconst 0, 1) := by decide +kernel
theorem dX12_unifies_18 : decode cX12_unifies 18 = .ok (.goto 24, 3) := by decide +kernel
theorem dX12_unifies_21 : decode cX12_unifies 21 = .ok (.aload_n 0, 1) := by decide +kernel
theorem dX12_unifies_22 : decode cX12_unifies 22 = .ok (.iload_n 1, 1) := by decide +kernel
theorem dX12_unifies_23 : decode cX12_unifies 23 = .ok (.invokevirtual 174, 3) := by decide +kernel
theorem dX12_unifies_26 : decode cX12_unifies 26 = .ok (.ifCond .ne 11, 3) := by decide +kernel
theorem dX12_unifies_29 : decode cX12_unifies 29 = .ok (.aload_n 0, 1) := by decide +kernel
theorem dX12_unifies_30 : decode cX12_unifies 30 = .ok (.iload_n 2, 1) := by decide +kernel
theorem dX12_unifies_31 : decode cX12_unifies 31 = .ok (.invokevirtual 174, 3) := by decide +kernel
theorem dX12_unifies_34 : decode cX12_unifies 34 = .ok (.ifCond .eq 7, 3) := by decide +kernel
theorem dX12_unifies_37 : decode cX12_unifies 37 = .ok (.iconst 2, 1) := by decide +kernel
theorem dX12_unifies_38 : decode cX12_unifies 38 = .ok (.goto 4, 3) := by decide +kernel
theorem dX12_unifies_41 : decode cX12_unifies 41 = .ok (.iconst 1, 1) := by decide +kernel
theorem dX12_unifies_42 : decode cX12_unifies 42 = .ok (.ireturn, 1) := by decide +kernel
theorem dX12_solved_0 : decode cX12_solved 0 = .ok (.aload_n 0, 1) := by decide +kernel
theorem dX12_solved_1 : decode cX12_solved 1 = .ok (.iload_n 1, 1) := by decide +kernel
theorem dX12_solved_2 : decode cX12_solved 2 = .ok (.invokevirtual 164, 3) := by decide +kernel
theorem dX12_solved_5 : decode cX12_solved 5 = .ok (.istore_n 3, 1) := by decide +kernel
theorem dX12_solved_6 : decode cX12_solved 6 = .ok (.aload_n 0, 1) := by decide +kernel
theorem dX12_solved_7 : decode cX12_solved 7 = .ok (.iload_n 2, 1) := by decide +kernel
theorem dX12_solved_8 : decode cX12_solved 8 = .ok (.invokevirtual 155, 3) := by decide +kernel
theorem dX12_solved_11 : decode cX12_solved 11 = .ok (.ifCond .eq 5, 3) := by decide +kernel
theorem dX12_solved_14 : decode cX12_solved 14 = .ok (.iconst 0, 1) := by decide +kernel
theorem dX12_solved_15 : decode cX12_solved 15 = .ok (.ireturn, 1) := by decide +kernel
theorem dX12_solved_16 : decode cX12_solved 16 = .ok (.aload_n 0, 1) := by decide +kernel
theorem dX12_solved_17 : decode cX12_solved 17 = .ok (.getfield 53, 3) := by decide +kernel
theorem dX12_solved_20 : decode cX12_solved 20 = .ok (.iload_n 3, 1) := by decide +kernel
theorem dX12_solved_21 : decode cX12_solved 21 = .ok (.iaload, 1) := by decide +kernel
theorem dX12_solved_22 : decode cX12_solved 22 = .ok (.iconst (-1), 1) := by decide +kernel
theorem dX12_solved_23 : decode cX12_solved 23 = .ok (.if_icmp .ne 14, 3) := by decide +kernel
theorem dX12_solved_26 : decode cX12_solved 26 = .ok (.aload_n 0, 1) := by decide +kernel
theorem dX12_solved_27 : decode cX12_solved 27 = .ok (.aload_n 0, 1) := by decide +kernel
theorem dX12_solved_28 : decode cX12_solved 28 = .ok (.getfield 56, 3) := by decide +kernel
theorem dX12_solved_31 : decode cX12_solved 31 = .ok (.iload_n 3, 1) := by decide +kernel
theorem dX12_solved_32 : decode cX12_solved 32 = .ok (.iaload, 1) := by decide +kernel
theorem dX12_solved_33 : decode cX12_solved 33 = .ok (.invokevirtual 180, 3) := by decide +kernel
theorem dX12_solved_36 : decode cX12_solved 36 = .ok (.ireturn, 1) := by decide +kernel
theorem dX12_solved_37 : decode cX12_solved 37 = .ok (.aload_n 0, 1) := by decide +kernel
theorem dX12_solved_38 : decode cX12_solved 38 = .ok (.getfield 53, 3) := by decide +kernel
theorem dX12_solved_41 : decode cX12_solved 41 = .ok (.iload_n 3, 1) := by decide +kernel
theorem dX12_solved_42 : decode cX12_solved 42 = .ok (.iaload, 1) := by decide +kernel
theorem dX12_solved_43 : decode cX12_solved 43 = .ok (.istore 4, 2) := by decide +kernel
theorem dX12_solved_45 : decode cX12_solved 45 = .ok (.aload_n 0, 1) := by decide +kernel
theorem dX12_solved_46 : decode cX12_solved 46 = .ok (.iload 4, 2) := by decide +kernel
theorem dX12_solved_48 : decode cX12_solved 48 = .ok (.invokevirtual 111, 3) := by decide +kernel
theorem dX12_solved_51 : decode cX12_solved 51 = .ok (.istore 5, 2) := by decide +kernel
theorem dX12_solved_53 : decode cX12_solved 53 = .ok (.iload 5, 2) := by decide +kernel
theorem dX12_solved_55 : decode cX12_solved 55 = .ok (.ifCond .le 20, 3) := by decide +kernel
theorem dX12_solved_58 : decode cX12_solved 58 = .ok (.aload_n 0, 1) := by decide +kernel
theorem dX12_solved_59 : decode cX12_solved 59 = .ok (.aload_n 0, 1) := by decide +kernel
theorem dX12_solved_60 : decode cX12_solved 60 = .ok (.iload 4, 2) := by decide +kernel
theorem dX12_solved_62 : decode cX12_solved 62 = .ok (.iconst 0, 1) := by decide +kernel
theorem dX12_solved_63 : decode cX12_solved 63 = .ok (.invokevirtual 88, 3) := by decide +kernel
theorem dX12_solved_66 : decode cX12_solved 66 = .ok (.iload_n 2, 1) := by decide +kernel
theorem dX12_solved_67 : decode cX12_solved 67 = .ok (.iconst 1, 1) := by decide +kernel
theorem dX12_solved_68 : decode cX12_solved 68 = .ok (.iadd, 1) := by decide +kernel
theorem dX12_solved_69 : decode cX12_solved 69 = .ok (.invokevirtual 183, 3) := by decide +kernel
theorem dX12_solved_72 : decode cX12_solved 72 = .ok (.goto 4, 3) := by decide +kernel
theorem dX12_solved_75 : decode cX12_solved 75 = .ok (.iconst 0, 1) := by decide +kernel
theorem dX12_solved_76 : decode cX12_solved 76 = .ok (.istore 6, 2) := by decide +kernel
theorem dX12_solved_78 : decode cX12_solved 78 = .ok (.iload 5, 2) := by decide +kernel
theorem dX12_solved_80 : decode cX12_solved 80 = .ok (.iconst 1, 1) := by decide +kernel
theorem dX12_solved_81 : decode cX12_solved 81 = .ok (.if_icmp .le 20, 3) := by decide +kernel
theorem dX12_solved_84 : decode cX12_solved 84 = .ok (.aload_n 0, 1) := by decide +kernel
theorem dX12_solved_85 : decode cX12_solved 85 = .ok (.aload_n 0, 1) := by decide +kernel
theorem dX12_solved_86 : decode cX12_solved 86 = .ok (.iload 4, 2) := by decide +kernel
theorem dX12_solved_88 : decode cX12_solved 88 = .ok (.iconst 1, 1) := by decide +kernel
theorem dX12_solved_89 : decode cX12_solved 89 = .ok (.invokevirtual 88, 3) := by decide +kernel
theorem dX12_solved_92 : decode cX12_solved 92 = .ok (.iload_n 2, 1) := by decide +kernel
theorem dX12_solved_93 : decode cX12_solved 93 = .ok (.iconst 1, 1) := by decide +kernel
theorem dX12_solved_94 : decode cX12_solved 94 = .ok (.iadd, 1) := by decide +kernel
theorem dX12_solved_95 : decode cX12_solved 95 = .ok (.invokevirtual 183, 3) := by decide +kernel
theorem dX12_solved_98 : decode cX12_solved 98 = .ok (.goto 4, 3) := by decide +kernel
theorem dX12_solved_101 : decode cX12_solved 101 = .ok (.iconst 0, 1) := by decide +kernel
theorem dX12_solved_102 : decode cX12_solved 102 = .ok (.istore 7, 2) := by decide +kernel
theorem dX12_solved_104 : decode cX12_solved 104 = .ok (.iload 5, 2) := by decide +kernel
theorem dX12_solved_106 : decode cX12_solved 106 = .ok (.iconst 2, 1) := by decide +kernel
theorem dX12_solved_107 : decode cX12_solved 107 = .ok (.if_icmp .le 20, 3) := by decide +kernel
theorem dX12_solved_110 : decode cX12_solved 110 = .ok (.aload_n 0, 1) := by decide +kernel
theorem dX12_solved_111 : decode cX12_solved 111 = .ok (.aload_n 0, 1) := by decide +kernel
theorem dX12_solved_112 : decode cX12_solved 112 = .ok (.iload 4, 2) := by decide +kernel
theorem dX12_solved_114 : decode cX12_solved 114 = .ok (.iconst 2, 1) := by decide +kernel
theorem dX12_solved_115 : decode cX12_solved 115 = .ok (.invokevirtual 88, 3) := by decide +kernel
theorem dX12_solved_118 : decode cX12_solved 118 = .ok (.iload_n 2, 1) := by decide +kernel
theorem dX12_solved_119 : decode cX12_solved 119 = .ok (.iconst 1, 1) := by decide +kernel
theorem dX12_solved_120 : decode cX12_solved 120 = .ok (.iadd, 1) := by decide +kernel
theorem dX12_solved_121 : decode cX12_solved 121 = .ok (.invokevirtual 183, 3) := by decide +kernel
theorem dX12_solved_124 : decode cX12_solved 124 = .ok (.goto 4, 3) := by decide +kernel
theorem dX12_solved_127 : decode cX12_solved 127 = .ok (.iconst 0, 1) := by decide +kernel
theorem dX12_solved_128 : decode cX12_solved 128 = .ok (.istore 8, 2) := by decide +kernel
theorem dX12_solved_130 : decode cX12_solved 130 = .ok (.aload_n 0, 1) := by decide +kernel
theorem dX12_solved_131 : decode cX12_solved 131 = .ok (.iload 4, 2) := by decide +kernel
theorem dX12_solved_133 : decode cX12_solved 133 = .ok (.iload 6, 2) := by decide +kernel
theorem dX12_solved_135 : decode cX12_solved 135 = .ok (.iload 7, 2) := by decide +kernel
theorem dX12_solved_137 : decode cX12_solved 137 = .ok (.iload 8, 2) := by decide +kernel
theorem dX12_solved_139 : decode cX12_solved 139 = .ok (.invokevirtual 152, 3) := by decide +kernel
theorem dX12_solved_142 : decode cX12_solved 142 = .ok (.ireturn, 1) := by decide +kernel
theorem dX12_thereOf_0 : decode cX12_thereOf 0 = .ok (.iconst 0, 1) := by decide +kernel
theorem dX12_thereOf_1 : decode cX12_thereOf 1 = .ok (.istore_n 2, 1) := by decide +kernel
theorem dX12_thereOf_2 : decode cX12_thereOf 2 = .ok (.iload_n 2, 1) := by decide +kernel
theorem dX12_thereOf_3 : decode cX12_thereOf 3 = .ok (.aload_n 0, 1) := by decide +kernel
theorem dX12_thereOf_4 : decode cX12_thereOf 4 = .ok (.invokevirtual 96, 3) := by decide +kernel
theorem dX12_thereOf_7 : decode cX12_thereOf 7 = .ok (.if_icmp .ge 22, 3) := by decide +kernel
theorem dX12_thereOf_10 : decode cX12_thereOf 10 = .ok (.aload_n 0, 1) := by decide +kernel
theorem dX12_thereOf_11 : decode cX12_thereOf 11 = .ok (.iload_n 2, 1) := by decide +kernel
theorem dX12_thereOf_12 : decode cX12_thereOf 12 = .ok (.invokevirtual 74, 3) := by decide +kernel
theorem dX12_thereOf_15 : decode cX12_thereOf 15 = .ok (.iconst (-1), 1) := by decide +kernel
theorem dX12_thereOf_16 : decode cX12_thereOf 16 = .ok (.iload_n 1, 1) := by decide +kernel
theorem dX12_thereOf_17 : decode cX12_thereOf 17 = .ok (.isub, 1) := by decide +kernel
theorem dX12_thereOf_18 : decode cX12_thereOf 18 = .ok (.if_icmp .ne 5, 3) := by decide +kernel
theorem dX12_thereOf_21 : decode cX12_thereOf 21 = .ok (.iload_n 2, 1) := by decide +kernel
theorem dX12_thereOf_22 : decode cX12_thereOf 22 = .ok (.ireturn, 1) := by decide +kernel
theorem dX12_thereOf_23 : decode cX12_thereOf 23 = .ok (.iinc 2 1, 3) := by decide +kernel
theorem dX12_thereOf_26 : decode cX12_thereOf 26 = .ok (.goto (-24), 3) := by decide +kernel
theorem dX12_thereOf_29 : decode cX12_thereOf 29 = .ok (.iconst (-1), 1) := by decide +kernel
theorem dX12_thereOf_30 : decode cX12_thereOf 30 = .ok (.ireturn, 1) := by decide +kernel
theorem dX12_bindsSolved_0 : decode cX12_bindsSolved 0 = .ok (.aload_n 0, 1) := by decide +kernel
theorem dX12_bindsSolved_1 : decode cX12_bindsSolved 1 = .ok (.invokevirtual 96, 3) := by decide +kernel
theorem dX12_bindsSolved_4 : decode cX12_bindsSolved 4 = .ok (.istore_n 2, 1) := by decide +kernel
theorem dX12_bindsSolved_5 : decode cX12_bindsSolved 5 = .ok (.iconst 0, 1) := by decide +kernel
theorem dX12_bindsSolved_6 : decode cX12_bindsSolved 6 = .ok (.istore_n 3, 1) := by decide +kernel
theorem dX12_bindsSolved_7 : decode cX12_bindsSolved 7 = .ok (.iload_n 3, 1) := by decide +kernel
theorem dX12_bindsSolved_8 : decode cX12_bindsSolved 8 = .ok (.bipush 8, 2) := by decide +kernel
theorem dX12_bindsSolved_10 : decode cX12_bindsSolved 10 = .ok (.if_icmp .ge 100, 3) := by decide +kernel
theorem dX12_bindsSolved_13 : decode cX12_bindsSolved 13 = .ok (.aload_n 0, 1) := by decide +kernel
theorem dX12_bindsSolved_14 : decode cX12_bindsSolved 14 = .ok (.getfield 9, 3) := by decide +kernel
theorem dX12_bindsSolved_17 : decode cX12_bindsSolved 17 = .ok (.iconst 1, 1) := by decide +kernel
theorem dX12_bindsSolved_18 : decode cX12_bindsSolved 18 = .ok (.iload_n 3, 1) := by decide +kernel
theorem dX12_bindsSolved_19 : decode cX12_bindsSolved 19 = .ok (.iadd, 1) := by decide +kernel
theorem dX12_bindsSolved_20 : decode cX12_bindsSolved 20 = .ok (.iconst 0, 1) := by decide +kernel
theorem dX12_bindsSolved_21 : decode cX12_bindsSolved 21 = .ok (.iastore, 1) := by decide +kernel
theorem dX12_bindsSolved_22 : decode cX12_bindsSolved 22 = .ok (.iload_n 1, 1) := by decide +kernel
theorem dX12_bindsSolved_23 : decode cX12_bindsSolved 23 = .ok (.iload_n 3, 1) := by decide +kernel
theorem dX12_bindsSolved_24 : decode cX12_bindsSolved 24 = .ok (.ishr, 1) := by decide +kernel
theorem dX12_bindsSolved_25 : decode cX12_bindsSolved 25 = .ok (.iconst 1, 1) := by decide +kernel
theorem dX12_bindsSolved_26 : decode cX12_bindsSolved 26 = .ok (.iand, 1) := by decide +kernel
theorem dX12_bindsSolved_27 : decode cX12_bindsSolved 27 = .ok (.iconst 1, 1) := by decide +kernel
theorem dX12_bindsSolved_28 : decode cX12_bindsSolved 28 = .ok (.if_icmp .ne 11, 3) := by decide +kernel
theorem dX12_bindsSolved_31 : decode cX12_bindsSolved 31 = .ok (.aload_n 0, 1) := by decide +kernel
theorem dX12_bindsSolved_32 : decode cX12_bindsSolved 32 = .ok (.iload_n 3, 1) := by decide +kernel
theorem dX12_bindsSolved_33 : decode cX12_bindsSolved 33 = .ok (.invokevirtual 186, 3) := by decide +kernel
theorem dX12_bindsSolved_36 : decode cX12_bindsSolved 36 = .ok (.goto 4, 3) := by decide +kernel
theorem dX12_bindsSolved_39 : decode cX12_bindsSolved 39 = .ok (.iconst (-1), 1) := by decide +kernel
theorem dX12_bindsSolved_40 : decode cX12_bindsSolved 40 = .ok (.istore 4, 2) := by decide +kernel
theorem dX12_bindsSolved_42 : decode cX12_bindsSolved 42 = .ok (.iload 4, 2) := by decide +kernel
theorem dX12_bindsSolved_44 : decode cX12_bindsSolved 44 = .ok (.iconst (-1), 1) := by decide +kernel
theorem dX12_bindsSolved_45 : decode cX12_bindsSolved 45 = .ok (.if_icmp .eq 59, 3) := by decide +kernel
theorem dX12_bindsSolved_48 : decode cX12_bindsSolved 48 = .ok (.iload 4, 2) := by decide +kernel
theorem dX12_bindsSolved_50 : decode cX12_bindsSolved 50 = .ok (.iload_n 2, 1) := by decide +kernel
theorem dX12_bindsSolved_51 : decode cX12_bindsSolved 51 = .ok (.if_icmp .lt 6, 3) := by decide +kernel
theorem dX12_bindsSolved_54 : decode cX12_bindsSolved 54 = .ok (.goto 50, 3) := by decide +kernel
theorem dX12_bindsSolved_57 : decode cX12_bindsSolved 57 = .ok (.aload_n 0, 1) := by decide +kernel
theorem dX12_bindsSolved_58 : decode cX12_bindsSolved 58 = .ok (.iload 4, 2) := by decide +kernel
theorem dX12_bindsSolved_60 : decode cX12_bindsSolved 60 = .ok (.invokevirtual 164, 3) := by decide +kernel
theorem dX12_bindsSolved_63 : decode cX12_bindsSolved 63 = .ok (.istore 5, 2) := by decide +kernel
theorem dX12_bindsSolved_65 : decode cX12_bindsSolved 65 = .ok (.aload_n 0, 1) := by decide +kernel
theorem dX12_bindsSolved_66 : decode cX12_bindsSolved 66 = .ok (.getfield 53, 3) := by decide +kernel
theorem dX12_bindsSolved_69 : decode cX12_bindsSolved 69 = .ok (.iload 5, 2) := by decide +kernel
theorem dX12_bindsSolved_71 : decode cX12_bindsSolved 71 = .ok (.iaload, 1) := by decide +kernel
theorem dX12_bindsSolved_72 : decode cX12_bindsSolved 72 = .ok (.iconst (-1), 1) := by decide +kernel
theorem dX12_bindsSolved_73 : decode cX12_bindsSolved 73 = .ok (.if_icmp .ne 14, 3) := by decide +kernel
theorem dX12_bindsSolved_76 : decode cX12_bindsSolved 76 = .ok (.aload_n 0, 1) := by decide +kernel
theorem dX12_bindsSolved_77 : decode cX12_bindsSolved 77 = .ok (.getfield 56, 3) := by decide +kernel
theorem dX12_bindsSolved_80 : decode cX12_bindsSolved 80 = .ok (.iload 5, 2) := by decide +kernel
theorem dX12_bindsSolved_82 : decode cX12_bindsSolved 82 = .ok (.iaload, 1) := by decide +kernel
theorem dX12_bindsSolved_83 : decode cX12_bindsSolved 83 = .ok (.iload_n 3, 1) := by decide +kernel
theorem dX12_bindsSolved_84 : decode cX12_bindsSolved 84 = .ok (.if_icmp .eq 20, 3) := by decide +kernel
theorem dX12_bindsSolved_87 : decode cX12_bindsSolved 87 = .ok (.aload_n 0, 1) := by decide +kernel
theorem dX12_bindsSolved_88 : decode cX12_bindsSolved 88 = .ok (.getfield 9, 3) := by decide +kernel
theorem dX12_bindsSolved_91 : decode cX12_bindsSolved 91 = .ok (.iconst 1, 1) := by decide +kernel
theorem dX12_bindsSolved_92 : decode cX12_bindsSolved 92 = .ok (.iload_n 3, 1) := by decide +kernel
theorem dX12_bindsSolved_93 : decode cX12_bindsSolved 93 = .ok (.iadd, 1) := by decide +kernel
theorem dX12_bindsSolved_94 : decode cX12_bindsSolved 94 = .ok (.iconst 1, 1) := by decide +kernel
theorem dX12_bindsSolved_95 : decode cX12_bindsSolved 95 = .ok (.aload_n 0, 1) := by decide +kernel
theorem dX12_bindsSolved_96 : decode cX12_bindsSolved 96 = .ok (.iload 4, 2) := by decide +kernel
theorem dX12_bindsSolved_98 : decode cX12_bindsSolved 98 = .ok (.iconst 1, 1) := by decide +kernel
theorem dX12_bindsSolved_99 : decode cX12_bindsSolved 99 = .ok (.invokevirtual 183, 3) := by decide +kernel
theorem dX12_bindsSolved_102 : decode cX12_bindsSolved 102 = .ok (.iadd, 1) := by decide +kernel
theorem dX12_bindsSolved_103 : decode cX12_bindsSolved 103 = .ok (.iastore, 1) := by decide +kernel
theorem dX12_bindsSolved_104 : decode cX12_bindsSolved 104 = .ok (.iinc 3 1, 3) := by decide +kernel
theorem dX12_bindsSolved_107 : decode cX12_bindsSolved 107 = .ok (.goto (-100), 3) := by decide +kernel
theorem dX12_bindsSolved_110 : decode cX12_bindsSolved 110 = .ok (.return_, 1) := by decide +kernel
theorem dX12_canBeAlike_0 : decode cX12_canBeAlike 0 = .ok (.aload_n 0, 1) := by decide +kernel
theorem dX12_canBeAlike_1 : decode cX12_canBeAlike 1 = .ok (.iload_n 1, 1) := by decide +kernel
theorem dX12_canBeAlike_2 : decode cX12_canBeAlike 2 = .ok (.sipush 400, 3) := by decide +kernel
theorem dX12_canBeAlike_5 : decode cX12_canBeAlike 5 = .ok (.iload_n 2, 1) := by decide +kernel
theorem dX12_canBeAlike_6 : decode cX12_canBeAlike 6 = .ok (.iadd, 1) := by decide +kernel
theorem dX12_canBeAlike_7 : decode cX12_canBeAlike 7 = .ok (.invokevirtual 189, 3) := by decide +kernel
theorem dX12_canBeAlike_10 : decode cX12_canBeAlike 10 = .ok (.iconst 1, 1) := by decide +kernel
theorem dX12_canBeAlike_11 : decode cX12_canBeAlike 11 = .ok (.if_icmp .ne 7, 3) := by decide +kernel
theorem dX12_canBeAlike_14 : decode cX12_canBeAlike 14 = .ok (.iconst 1, 1) := by decide +kernel
theorem dX12_canBeAlike_15 : decode cX12_canBeAlike 15 = .ok (.goto 4, 3) := by decide +kernel
theorem dX12_canBeAlike_18 : decode cX12_canBeAlike 18 = .ok (.iconst 0, 1) := by decide +kernel
theorem dX12_canBeAlike_19 : decode cX12_canBeAlike 19 = .ok (.ireturn, 1) := by decide +kernel
theorem dX12_coupleOf_0 : decode cX12_coupleOf 0 = .ok (.iconst 0, 1) := by decide +kernel
theorem dX12_coupleOf_1 : decode cX12_coupleOf 1 = .ok (.istore_n 3, 1) := by decide +kernel
theorem dX12_coupleOf_2 : decode cX12_coupleOf 2 = .ok (.iload_n 3, 1) := by decide +kernel
theorem dX12_coupleOf_3 : decode cX12_coupleOf 3 = .ok (.aload_n 0, 1) := by decide +kernel
theorem dX12_coupleOf_4 : decode cX12_coupleOf 4 = .ok (.getfield 192, 3) := by decide +kernel
theorem dX12_coupleOf_7 : decode cX12_coupleOf 7 = .ok (.if_icmp .ge 37, 3) := by decide +kernel
theorem dX12_coupleOf_10 : decode cX12_coupleOf 10 = .ok (.aload_n 0, 1) := by decide +kernel
theorem dX12_coupleOf_11 : decode cX12_coupleOf 11 = .ok (.getfield 65, 3) := by decide +kernel
theorem dX12_coupleOf_14 : decode cX12_coupleOf 14 = .ok (.iconst 2, 1) := by decide +kernel
theorem dX12_coupleOf_15 : decode cX12_coupleOf 15 = .ok (.iload_n 3, 1) := by decide +kernel
theorem dX12_coupleOf_16 : decode cX12_coupleOf 16 = .ok (.imul, 1) := by decide +kernel
theorem dX12_coupleOf_17 : decode cX12_coupleOf 17 = .ok (.iaload, 1) := by decide +kernel
theorem dX12_coupleOf_18 : decode cX12_coupleOf 18 = .ok (.iload_n 1, 1) := by decide +kernel
theorem dX12_coupleOf_19 : decode cX12_coupleOf 19 = .ok (.if_icmp .ne 19, 3) := by decide +kernel
theorem dX12_coupleOf_22 : decode cX12_coupleOf 22 = .ok (.aload_n 0, 1) := by decide +kernel
theorem dX12_coupleOf_23 : decode cX12_coupleOf 23 = .ok (.getfield 65, 3) := by decide +kernel
theorem dX12_coupleOf_26 : decode cX12_coupleOf 26 = .ok (.iconst 2, 1) := by decide +kernel
theorem dX12_coupleOf_27 : decode cX12_coupleOf 27 = .ok (.iload_n 3, 1) := by decide +kernel
theorem dX12_coupleOf_28 : decode cX12_coupleOf 28 = .ok (.imul, 1) := by decide +kernel
theorem dX12_coupleOf_29 : decode cX12_coupleOf 29 = .ok (.iconst 1, 1) := by decide +kernel
theorem dX12_coupleOf_30 : decode cX12_coupleOf 30 = .ok (.iadd, 1) := by decide +kernel
theorem dX12_coupleOf_31 : decode cX12_coupleOf 31 = .ok (.iaload, 1) := by decide +kernel
theorem dX12_coupleOf_32 : decode cX12_coupleOf 32 = .ok (.iload_n 2, 1) := by decide +kernel
theorem dX12_coupleOf_33 : decode cX12_coupleOf 33 = .ok (.if_icmp .ne 5, 3) := by decide +kernel
theorem dX12_coupleOf_36 : decode cX12_coupleOf 36 = .ok (.iload_n 3, 1) := by decide +kernel
theorem dX12_coupleOf_37 : decode cX12_coupleOf 37 = .ok (.ireturn, 1) := by decide +kernel
theorem dX12_coupleOf_38 : decode cX12_coupleOf 38 = .ok (.iinc 3 1, 3) := by decide +kernel
theorem dX12_coupleOf_41 : decode cX12_coupleOf 41 = .ok (.goto (-39), 3) := by decide +kernel
theorem dX12_coupleOf_44 : decode cX12_coupleOf 44 = .ok (.aload_n 0, 1) := by decide +kernel
theorem dX12_coupleOf_45 : decode cX12_coupleOf 45 = .ok (.aload_n 0, 1) := by decide +kernel
theorem dX12_coupleOf_46 : decode cX12_coupleOf 46 = .ok (.getfield 195, 3) := by decide +kernel
theorem dX12_coupleOf_49 : decode cX12_coupleOf 49 = .ok (.ifCond .ne 12, 3) := by decide +kernel
theorem dX12_coupleOf_52 : decode cX12_coupleOf 52 = .ok (.aload_n 0, 1) := by decide +kernel
theorem dX12_coupleOf_53 : decode cX12_coupleOf 53 = .ok (.getfield 192, 3) := by decide +kernel
theorem dX12_coupleOf_56 : decode cX12_coupleOf 56 = .ok (.bipush 8, 2) := by decide +kernel
theorem dX12_coupleOf_58 : decode cX12_coupleOf 58 = .ok (.if_icmp .ne 7, 3) := by decide +kernel
theorem dX12_coupleOf_61 : decode cX12_coupleOf 61 = .ok (.iconst 1, 1) := by decide +kernel
theorem dX12_coupleOf_62 : decode cX12_coupleOf 62 = .ok (.goto 4, 3) := by decide +kernel
theorem dX12_coupleOf_65 : decode cX12_coupleOf 65 = .ok (.iconst 0, 1) := by decide +kernel
theorem dX12_coupleOf_66 : decode cX12_coupleOf 66 = .ok (.putfield 195, 3) := by decide +kernel
theorem dX12_coupleOf_69 : decode cX12_coupleOf 69 = .ok (.aload_n 0, 1) := by decide +kernel
theorem dX12_coupleOf_70 : decode cX12_coupleOf 70 = .ok (.getfield 195, 3) := by decide +kernel
theorem dX12_coupleOf_73 : decode cX12_coupleOf 73 = .ok (.ifCond .eq 5, 3) := by decide +kernel
theorem dX12_coupleOf_76 : decode cX12_coupleOf 76 = .ok (.iconst 0, 1) := by decide +kernel
theorem dX12_coupleOf_77 : decode cX12_coupleOf 77 = .ok (.ireturn, 1) := by decide +kernel
theorem dX12_coupleOf_78 : decode cX12_coupleOf 78 = .ok (.aload_n 0, 1) := by decide +kernel
theorem dX12_coupleOf_79 : decode cX12_coupleOf 79 = .ok (.getfield 65, 3) := by decide +kernel
theorem dX12_coupleOf_82 : decode cX12_coupleOf 82 = .ok (.iconst 2, 1) := by decide +kernel
theorem dX12_coupleOf_83 : decode cX12_coupleOf 83 = .ok (.aload_n 0, 1) := by decide +kernel
theorem dX12_coupleOf_84 : decode cX12_coupleOf 84 = .ok (.getfield 192, 3) := by decide +kernel
theorem dX12_coupleOf_87 : decode cX12_coupleOf 87 = .ok (.imul, 1) := by decide +kernel
theorem dX12_coupleOf_88 : decode cX12_coupleOf 88 = .ok (.iload_n 1, 1) := by decide +kernel
theorem dX12_coupleOf_89 : decode cX12_coupleOf 89 = .ok (.iastore, 1) := by decide +kernel
theorem dX12_coupleOf_90 : decode cX12_coupleOf 90 = .ok (.aload_n 0, 1) := by decide +kernel
theorem dX12_coupleOf_91 : decode cX12_coupleOf 91 = .ok (.getfield 65, 3) := by decide +kernel
theorem dX12_coupleOf_94 : decode cX12_coupleOf 94 = .ok (.iconst 2, 1) := by decide +kernel
theorem dX12_coupleOf_95 : decode cX12_coupleOf 95 = .ok (.aload_n 0, 1) := by decide +kernel
theorem dX12_coupleOf_96 : decode cX12_coupleOf 96 = .ok (.getfield 192, 3) := by decide +kernel
theorem dX12_coupleOf_99 : decode cX12_coupleOf 99 = .ok (.imul, 1) := by decide +kernel
theorem dX12_coupleOf_100 : decode cX12_coupleOf 100 = .ok (.iconst 1, 1) := by decide +kernel
theorem dX12_coupleOf_101 : decode cX12_coupleOf 101 = .ok (.iadd, 1) := by decide +kernel
theorem dX12_coupleOf_102 : decode cX12_coupleOf 102 = .ok (.iload_n 2, 1) := by decide +kernel
theorem dX12_coupleOf_103 : decode cX12_coupleOf 103 = .ok (.iastore, 1) := by decide +kernel
theorem dX12_coupleOf_104 : decode cX12_coupleOf 104 = .ok (.aload_n 0, 1) := by decide +kernel
theorem dX12_coupleOf_105 : decode cX12_coupleOf 105 = .ok (.dup, 1) := by decide +kernel
theorem dX12_coupleOf_106 : decode cX12_coupleOf 106 = .ok (.getfield 192, 3) := by decide +kernel
theorem dX12_coupleOf_109 : decode cX12_coupleOf 109 = .ok (.iconst 1, 1) := by decide +kernel
theorem dX12_coupleOf_110 : decode cX12_coupleOf 110 = .ok (.iadd, 1) := by decide +kernel
theorem dX12_coupleOf_111 : decode cX12_coupleOf 111 = .ok (.putfield 192, 3) := by decide +kernel
theorem dX12_coupleOf_114 : decode cX12_coupleOf 114 = .ok (.aload_n 0, 1) := by decide +kernel
theorem dX12_coupleOf_115 : decode cX12_coupleOf 115 = .ok (.getfield 192, 3) := by decide +kernel
theorem dX12_coupleOf_118 : decode cX12_coupleOf 118 = .ok (.iconst 1, 1) := by decide +kernel
theorem dX12_coupleOf_119 : decode cX12_coupleOf 119 = .ok (.isub, 1) := by decide +kernel
theorem dX12_coupleOf_120 : decode cX12_coupleOf 120 = .ok (.ireturn, 1) := by decide +kernel
theorem dX12_commonOf_0 : decode cX12_commonOf 0 = .ok (.aload_n 0, 1) := by decide +kernel
theorem dX12_commonOf_1 : decode cX12_commonOf 1 = .ok (.getfield 92, 3) := by decide +kernel
end
section
theorem dX12_commonOf_4 : decode cX12_commonOf 4 = .ok (.ifCond .ne 10, 3) := by decide +kernel
theorem dX12_commonOf_7 : decode cX12_commonOf 7 = .ok (.aload_n 0, 1) := by decide +kernel
theorem dX12_commonOf_8 : decode cX12_commonOf 8 = .ok (.getfield 195, 3) := by decide +kernel
theorem dX12_commonOf_11 : decode cX12_commonOf 11 = .ok (.ifCond .eq 5, 3) := by decide +kernel
theorem dX12_commonOf_14 : decode cX12_commonOf 14 = .ok (.iconst 0, 1) := by decide +kernel
theorem dX12_commonOf_15 : decode cX12_commonOf 15 = .ok (.ireturn, 1) := by decide +kernel
theorem dX12_commonOf_16 : decode cX12_commonOf 16 = .ok (.aload_n 0, 1) := by decide +kernel
theorem dX12_commonOf_17 : decode cX12_commonOf 17 = .ok (.iload_n 1, 1) := by decide +kernel
theorem dX12_commonOf_18 : decode cX12_commonOf 18 = .ok (.invokevirtual 78, 3) := by decide +kernel
theorem dX12_commonOf_21 : decode cX12_commonOf 21 = .ok (.ifCond .ne 16, 3) := by decide +kernel
theorem dX12_commonOf_24 : decode cX12_commonOf 24 = .ok (.aload_n 0, 1) := by decide +kernel
theorem dX12_commonOf_25 : decode cX12_commonOf 25 = .ok (.iload_n 1, 1) := by decide +kernel
theorem dX12_commonOf_26 : decode cX12_commonOf 26 = .ok (.invokevirtual 74, 3) := by decide +kernel
theorem dX12_commonOf_29 : decode cX12_commonOf 29 = .ok (.aload_n 0, 1) := by decide +kernel
theorem dX12_commonOf_30 : decode cX12_commonOf 30 = .ok (.iload_n 2, 1) := by decide +kernel
theorem dX12_commonOf_31 : decode cX12_commonOf 31 = .ok (.invokevirtual 74, 3) := by decide +kernel
theorem dX12_commonOf_34 : decode cX12_commonOf 34 = .ok (.if_icmp .eq 27, 3) := by decide +kernel
theorem dX12_commonOf_37 : decode cX12_commonOf 37 = .ok (.aload_n 0, 1) := by decide +kernel
theorem dX12_commonOf_38 : decode cX12_commonOf 38 = .ok (.iload_n 1, 1) := by decide +kernel
theorem dX12_commonOf_39 : decode cX12_commonOf 39 = .ok (.iload_n 2, 1) := by decide +kernel
theorem dX12_commonOf_40 : decode cX12_commonOf 40 = .ok (.invokevirtual 198, 3) := by decide +kernel
theorem dX12_commonOf_43 : decode cX12_commonOf 43 = .ok (.istore_n 3, 1) := by decide +kernel
theorem dX12_commonOf_44 : decode cX12_commonOf 44 = .ok (.aload_n 0, 1) := by decide +kernel
theorem dX12_commonOf_45 : decode cX12_commonOf 45 = .ok (.getfield 195, 3) := by decide +kernel
theorem dX12_commonOf_48 : decode cX12_commonOf 48 = .ok (.ifCond .eq 7, 3) := by decide +kernel
theorem dX12_commonOf_51 : decode cX12_commonOf 51 = .ok (.iconst 0, 1) := by decide +kernel
theorem dX12_commonOf_52 : decode cX12_commonOf 52 = .ok (.goto 8, 3) := by decide +kernel
theorem dX12_commonOf_55 : decode cX12_commonOf 55 = .ok (.aload_n 0, 1) := by decide +kernel
theorem dX12_commonOf_56 : decode cX12_commonOf 56 = .ok (.iload_n 3, 1) := by decide +kernel
theorem dX12_commonOf_57 : decode cX12_commonOf 57 = .ok (.invokevirtual 180, 3) := by decide +kernel
theorem dX12_commonOf_60 : decode cX12_commonOf 60 = .ok (.ireturn, 1) := by decide +kernel
theorem dX12_commonOf_61 : decode cX12_commonOf 61 = .ok (.aload_n 0, 1) := by decide +kernel
theorem dX12_commonOf_62 : decode cX12_commonOf 62 = .ok (.iload_n 1, 1) := by decide +kernel
theorem dX12_commonOf_63 : decode cX12_commonOf 63 = .ok (.invokevirtual 111, 3) := by decide +kernel
theorem dX12_commonOf_66 : decode cX12_commonOf 66 = .ok (.istore_n 3, 1) := by decide +kernel
theorem dX12_commonOf_67 : decode cX12_commonOf 67 = .ok (.iload_n 3, 1) := by decide +kernel
theorem dX12_commonOf_68 : decode cX12_commonOf 68 = .ok (.ifCond .le 22, 3) := by decide +kernel
theorem dX12_commonOf_71 : decode cX12_commonOf 71 = .ok (.aload_n 0, 1) := by decide +kernel
theorem dX12_commonOf_72 : decode cX12_commonOf 72 = .ok (.aload_n 0, 1) := by decide +kernel
theorem dX12_commonOf_73 : decode cX12_commonOf 73 = .ok (.iload_n 1, 1) := by decide +kernel
theorem dX12_commonOf_74 : decode cX12_commonOf 74 = .ok (.iconst 0, 1) := by decide +kernel
theorem dX12_commonOf_75 : decode cX12_commonOf 75 = .ok (.invokevirtual 88, 3) := by decide +kernel
theorem dX12_commonOf_78 : decode cX12_commonOf 78 = .ok (.aload_n 0, 1) := by decide +kernel
theorem dX12_commonOf_79 : decode cX12_commonOf 79 = .ok (.iload_n 2, 1) := by decide +kernel
theorem dX12_commonOf_80 : decode cX12_commonOf 80 = .ok (.iconst 0, 1) := by decide +kernel
theorem dX12_commonOf_81 : decode cX12_commonOf 81 = .ok (.invokevirtual 88, 3) := by decide +kernel
theorem dX12_commonOf_84 : decode cX12_commonOf 84 = .ok (.invokevirtual 201, 3) := by decide +kernel
theorem dX12_commonOf_87 : decode cX12_commonOf 87 = .ok (.goto 4, 3) := by decide +kernel
theorem dX12_commonOf_90 : decode cX12_commonOf 90 = .ok (.iconst 0, 1) := by decide +kernel
theorem dX12_commonOf_91 : decode cX12_commonOf 91 = .ok (.istore 4, 2) := by decide +kernel
theorem dX12_commonOf_93 : decode cX12_commonOf 93 = .ok (.iload_n 3, 1) := by decide +kernel
theorem dX12_commonOf_94 : decode cX12_commonOf 94 = .ok (.iconst 1, 1) := by decide +kernel
theorem dX12_commonOf_95 : decode cX12_commonOf 95 = .ok (.if_icmp .le 22, 3) := by decide +kernel
theorem dX12_commonOf_98 : decode cX12_commonOf 98 = .ok (.aload_n 0, 1) := by decide +kernel
theorem dX12_commonOf_99 : decode cX12_commonOf 99 = .ok (.aload_n 0, 1) := by decide +kernel
theorem dX12_commonOf_100 : decode cX12_commonOf 100 = .ok (.iload_n 1, 1) := by decide +kernel
theorem dX12_commonOf_101 : decode cX12_commonOf 101 = .ok (.iconst 1, 1) := by decide +kernel
theorem dX12_commonOf_102 : decode cX12_commonOf 102 = .ok (.invokevirtual 88, 3) := by decide +kernel
theorem dX12_commonOf_105 : decode cX12_commonOf 105 = .ok (.aload_n 0, 1) := by decide +kernel
theorem dX12_commonOf_106 : decode cX12_commonOf 106 = .ok (.iload_n 2, 1) := by decide +kernel
theorem dX12_commonOf_107 : decode cX12_commonOf 107 = .ok (.iconst 1, 1) := by decide +kernel
theorem dX12_commonOf_108 : decode cX12_commonOf 108 = .ok (.invokevirtual 88, 3) := by decide +kernel
theorem dX12_commonOf_111 : decode cX12_commonOf 111 = .ok (.invokevirtual 201, 3) := by decide +kernel
theorem dX12_commonOf_114 : decode cX12_commonOf 114 = .ok (.goto 4, 3) := by decide +kernel
theorem dX12_commonOf_117 : decode cX12_commonOf 117 = .ok (.iconst 0, 1) := by decide +kernel
theorem dX12_commonOf_118 : decode cX12_commonOf 118 = .ok (.istore 5, 2) := by decide +kernel
theorem dX12_commonOf_120 : decode cX12_commonOf 120 = .ok (.iload_n 3, 1) := by decide +kernel
theorem dX12_commonOf_121 : decode cX12_commonOf 121 = .ok (.iconst 2, 1) := by decide +kernel
theorem dX12_commonOf_122 : decode cX12_commonOf 122 = .ok (.if_icmp .le 22, 3) := by decide +kernel
theorem dX12_commonOf_125 : decode cX12_commonOf 125 = .ok (.aload_n 0, 1) := by decide +kernel
theorem dX12_commonOf_126 : decode cX12_commonOf 126 = .ok (.aload_n 0, 1) := by decide +kernel
theorem dX12_commonOf_127 : decode cX12_commonOf 127 = .ok (.iload_n 1, 1) := by decide +kernel
theorem dX12_commonOf_128 : decode cX12_commonOf 128 = .ok (.iconst 2, 1) := by decide +kernel
theorem dX12_commonOf_129 : decode cX12_commonOf 129 = .ok (.invokevirtual 88, 3) := by decide +kernel
theorem dX12_commonOf_132 : decode cX12_commonOf 132 = .ok (.aload_n 0, 1) := by decide +kernel
theorem dX12_commonOf_133 : decode cX12_commonOf 133 = .ok (.iload_n 2, 1) := by decide +kernel
theorem dX12_commonOf_134 : decode cX12_commonOf 134 = .ok (.iconst 2, 1) := by decide +kernel
theorem dX12_commonOf_135 : decode cX12_commonOf 135 = .ok (.invokevirtual 88, 3) := by decide +kernel
theorem dX12_commonOf_138 : decode cX12_commonOf 138 = .ok (.invokevirtual 201, 3) := by decide +kernel
theorem dX12_commonOf_141 : decode cX12_commonOf 141 = .ok (.goto 4, 3) := by decide +kernel
theorem dX12_commonOf_144 : decode cX12_commonOf 144 = .ok (.iconst 0, 1) := by decide +kernel
theorem dX12_commonOf_145 : decode cX12_commonOf 145 = .ok (.istore 6, 2) := by decide +kernel
theorem dX12_commonOf_147 : decode cX12_commonOf 147 = .ok (.aload_n 0, 1) := by decide +kernel
theorem dX12_commonOf_148 : decode cX12_commonOf 148 = .ok (.getfield 195, 3) := by decide +kernel
theorem dX12_commonOf_151 : decode cX12_commonOf 151 = .ok (.ifCond .eq 7, 3) := by decide +kernel
theorem dX12_commonOf_154 : decode cX12_commonOf 154 = .ok (.iconst 0, 1) := by decide +kernel
theorem dX12_commonOf_155 : decode cX12_commonOf 155 = .ok (.goto 14, 3) := by decide +kernel
theorem dX12_commonOf_158 : decode cX12_commonOf 158 = .ok (.aload_n 0, 1) := by decide +kernel
theorem dX12_commonOf_159 : decode cX12_commonOf 159 = .ok (.iload_n 1, 1) := by decide +kernel
theorem dX12_commonOf_160 : decode cX12_commonOf 160 = .ok (.iload 4, 2) := by decide +kernel
theorem dX12_commonOf_162 : decode cX12_commonOf 162 = .ok (.iload 5, 2) := by decide +kernel
theorem dX12_commonOf_164 : decode cX12_commonOf 164 = .ok (.iload 6, 2) := by decide +kernel
theorem dX12_commonOf_166 : decode cX12_commonOf 166 = .ok (.invokevirtual 152, 3) := by decide +kernel
theorem dX12_commonOf_169 : decode cX12_commonOf 169 = .ok (.ireturn, 1) := by decide +kernel
theorem dX12_memoAt_0 : decode cX12_memoAt 0 = .ok (.iconst 0, 1) := by decide +kernel
theorem dX12_memoAt_1 : decode cX12_memoAt 1 = .ok (.istore_n 2, 1) := by decide +kernel
theorem dX12_memoAt_2 : decode cX12_memoAt 2 = .ok (.iload_n 2, 1) := by decide +kernel
theorem dX12_memoAt_3 : decode cX12_memoAt 3 = .ok (.aload_n 0, 1) := by decide +kernel
theorem dX12_memoAt_4 : decode cX12_memoAt 4 = .ok (.getfield 9, 3) := by decide +kernel
theorem dX12_memoAt_7 : decode cX12_memoAt 7 = .ok (.bipush 40, 2) := by decide +kernel
theorem dX12_memoAt_9 : decode cX12_memoAt 9 = .ok (.iaload, 1) := by decide +kernel
theorem dX12_memoAt_10 : decode cX12_memoAt 10 = .ok (.if_icmp .ge 26, 3) := by decide +kernel
theorem dX12_memoAt_13 : decode cX12_memoAt 13 = .ok (.aload_n 0, 1) := by decide +kernel
theorem dX12_memoAt_14 : decode cX12_memoAt 14 = .ok (.getfield 9, 3) := by decide +kernel
theorem dX12_memoAt_17 : decode cX12_memoAt 17 = .ok (.bipush 41, 2) := by decide +kernel
theorem dX12_memoAt_19 : decode cX12_memoAt 19 = .ok (.iconst 2, 1) := by decide +kernel
theorem dX12_memoAt_20 : decode cX12_memoAt 20 = .ok (.iload_n 2, 1) := by decide +kernel
theorem dX12_memoAt_21 : decode cX12_memoAt 21 = .ok (.imul, 1) := by decide +kernel
theorem dX12_memoAt_22 : decode cX12_memoAt 22 = .ok (.iadd, 1) := by decide +kernel
theorem dX12_memoAt_23 : decode cX12_memoAt 23 = .ok (.iaload, 1) := by decide +kernel
theorem dX12_memoAt_24 : decode cX12_memoAt 24 = .ok (.iload_n 1, 1) := by decide +kernel
theorem dX12_memoAt_25 : decode cX12_memoAt 25 = .ok (.if_icmp .ne 5, 3) := by decide +kernel
theorem dX12_memoAt_28 : decode cX12_memoAt 28 = .ok (.iload_n 2, 1) := by decide +kernel
theorem dX12_memoAt_29 : decode cX12_memoAt 29 = .ok (.ireturn, 1) := by decide +kernel
theorem dX12_memoAt_30 : decode cX12_memoAt 30 = .ok (.iinc 2 1, 3) := by decide +kernel
theorem dX12_memoAt_33 : decode cX12_memoAt 33 = .ok (.goto (-31), 3) := by decide +kernel
theorem dX12_memoAt_36 : decode cX12_memoAt 36 = .ok (.iconst (-1), 1) := by decide +kernel
theorem dX12_memoAt_37 : decode cX12_memoAt 37 = .ok (.ireturn, 1) := by decide +kernel
theorem dX12_memoLoses_0 : decode cX12_memoLoses 0 = .ok (.aload_n 0, 1) := by decide +kernel
theorem dX12_memoLoses_1 : decode cX12_memoLoses 1 = .ok (.getfield 9, 3) := by decide +kernel
theorem dX12_memoLoses_4 : decode cX12_memoLoses 4 = .ok (.bipush 40, 2) := by decide +kernel
theorem dX12_memoLoses_6 : decode cX12_memoLoses 6 = .ok (.dup2, 1) := by decide +kernel
theorem dX12_memoLoses_7 : decode cX12_memoLoses 7 = .ok (.iaload, 1) := by decide +kernel
theorem dX12_memoLoses_8 : decode cX12_memoLoses 8 = .ok (.iconst 1, 1) := by decide +kernel
theorem dX12_memoLoses_9 : decode cX12_memoLoses 9 = .ok (.isub, 1) := by decide +kernel
theorem dX12_memoLoses_10 : decode cX12_memoLoses 10 = .ok (.iastore, 1) := by decide +kernel
theorem dX12_memoLoses_11 : decode cX12_memoLoses 11 = .ok (.iconst 2, 1) := by decide +kernel
theorem dX12_memoLoses_12 : decode cX12_memoLoses 12 = .ok (.iload_n 1, 1) := by decide +kernel
theorem dX12_memoLoses_13 : decode cX12_memoLoses 13 = .ok (.imul, 1) := by decide +kernel
theorem dX12_memoLoses_14 : decode cX12_memoLoses 14 = .ok (.istore_n 2, 1) := by decide +kernel
theorem dX12_memoLoses_15 : decode cX12_memoLoses 15 = .ok (.iload_n 2, 1) := by decide +kernel
theorem dX12_memoLoses_16 : decode cX12_memoLoses 16 = .ok (.iconst 2, 1) := by decide +kernel
theorem dX12_memoLoses_17 : decode cX12_memoLoses 17 = .ok (.aload_n 0, 1) := by decide +kernel
theorem dX12_memoLoses_18 : decode cX12_memoLoses 18 = .ok (.getfield 9, 3) := by decide +kernel
theorem dX12_memoLoses_21 : decode cX12_memoLoses 21 = .ok (.bipush 40, 2) := by decide +kernel
theorem dX12_memoLoses_23 : decode cX12_memoLoses 23 = .ok (.iaload, 1) := by decide +kernel
theorem dX12_memoLoses_24 : decode cX12_memoLoses 24 = .ok (.imul, 1) := by decide +kernel
theorem dX12_memoLoses_25 : decode cX12_memoLoses 25 = .ok (.if_icmp .ge 29, 3) := by decide +kernel
theorem dX12_memoLoses_28 : decode cX12_memoLoses 28 = .ok (.aload_n 0, 1) := by decide +kernel
theorem dX12_memoLoses_29 : decode cX12_memoLoses 29 = .ok (.getfield 9, 3) := by decide +kernel
theorem dX12_memoLoses_32 : decode cX12_memoLoses 32 = .ok (.bipush 41, 2) := by decide +kernel
theorem dX12_memoLoses_34 : decode cX12_memoLoses 34 = .ok (.iload_n 2, 1) := by decide +kernel
theorem dX12_memoLoses_35 : decode cX12_memoLoses 35 = .ok (.iadd, 1) := by decide +kernel
theorem dX12_memoLoses_36 : decode cX12_memoLoses 36 = .ok (.aload_n 0, 1) := by decide +kernel
theorem dX12_memoLoses_37 : decode cX12_memoLoses 37 = .ok (.getfield 9, 3) := by decide +kernel
theorem dX12_memoLoses_40 : decode cX12_memoLoses 40 = .ok (.bipush 41, 2) := by decide +kernel
theorem dX12_memoLoses_42 : decode cX12_memoLoses 42 = .ok (.iload_n 2, 1) := by decide +kernel
theorem dX12_memoLoses_43 : decode cX12_memoLoses 43 = .ok (.iadd, 1) := by decide +kernel
theorem dX12_memoLoses_44 : decode cX12_memoLoses 44 = .ok (.iconst 2, 1) := by decide +kernel
theorem dX12_memoLoses_45 : decode cX12_memoLoses 45 = .ok (.iadd, 1) := by decide +kernel
theorem dX12_memoLoses_46 : decode cX12_memoLoses 46 = .ok (.iaload, 1) := by decide +kernel
theorem dX12_memoLoses_47 : decode cX12_memoLoses 47 = .ok (.iastore, 1) := by decide +kernel
theorem dX12_memoLoses_48 : decode cX12_memoLoses 48 = .ok (.iinc 2 1, 3) := by decide +kernel
theorem dX12_memoLoses_51 : decode cX12_memoLoses 51 = .ok (.goto (-36), 3) := by decide +kernel
theorem dX12_memoLoses_54 : decode cX12_memoLoses 54 = .ok (.return_, 1) := by decide +kernel
theorem dX12_memoGets_0 : decode cX12_memoGets 0 = .ok (.aload_n 0, 1) := by decide +kernel
theorem dX12_memoGets_1 : decode cX12_memoGets 1 = .ok (.getfield 9, 3) := by decide +kernel
theorem dX12_memoGets_4 : decode cX12_memoGets 4 = .ok (.bipush 39, 2) := by decide +kernel
theorem dX12_memoGets_6 : decode cX12_memoGets 6 = .ok (.iaload, 1) := by decide +kernel
theorem dX12_memoGets_7 : decode cX12_memoGets 7 = .ok (.ifCond .ne 4, 3) := by decide +kernel
theorem dX12_memoGets_10 : decode cX12_memoGets 10 = .ok (.return_, 1) := by decide +kernel
theorem dX12_memoGets_11 : decode cX12_memoGets 11 = .ok (.aload_n 0, 1) := by decide +kernel
theorem dX12_memoGets_12 : decode cX12_memoGets 12 = .ok (.getfield 9, 3) := by decide +kernel
theorem dX12_memoGets_15 : decode cX12_memoGets 15 = .ok (.bipush 40, 2) := by decide +kernel
theorem dX12_memoGets_17 : decode cX12_memoGets 17 = .ok (.iaload, 1) := by decide +kernel
theorem dX12_memoGets_18 : decode cX12_memoGets 18 = .ok (.aload_n 0, 1) := by decide +kernel
theorem dX12_memoGets_19 : decode cX12_memoGets 19 = .ok (.getfield 9, 3) := by decide +kernel
theorem dX12_memoGets_22 : decode cX12_memoGets 22 = .ok (.bipush 39, 2) := by decide +kernel
theorem dX12_memoGets_24 : decode cX12_memoGets 24 = .ok (.iaload, 1) := by decide +kernel
theorem dX12_memoGets_25 : decode cX12_memoGets 25 = .ok (.if_icmp .ne 8, 3) := by decide +kernel
theorem dX12_memoGets_28 : decode cX12_memoGets 28 = .ok (.aload_n 0, 1) := by decide +kernel
theorem dX12_memoGets_29 : decode cX12_memoGets 29 = .ok (.iconst 0, 1) := by decide +kernel
theorem dX12_memoGets_30 : decode cX12_memoGets 30 = .ok (.invokevirtual 204, 3) := by decide +kernel
theorem dX12_memoGets_33 : decode cX12_memoGets 33 = .ok (.aload_n 0, 1) := by decide +kernel
theorem dX12_memoGets_34 : decode cX12_memoGets 34 = .ok (.getfield 9, 3) := by decide +kernel
theorem dX12_memoGets_37 : decode cX12_memoGets 37 = .ok (.bipush 41, 2) := by decide +kernel
theorem dX12_memoGets_39 : decode cX12_memoGets 39 = .ok (.iconst 2, 1) := by decide +kernel
theorem dX12_memoGets_40 : decode cX12_memoGets 40 = .ok (.aload_n 0, 1) := by decide +kernel
theorem dX12_memoGets_41 : decode cX12_memoGets 41 = .ok (.getfield 9, 3) := by decide +kernel
theorem dX12_memoGets_44 : decode cX12_memoGets 44 = .ok (.bipush 40, 2) := by decide +kernel
theorem dX12_memoGets_46 : decode cX12_memoGets 46 = .ok (.iaload, 1) := by decide +kernel
theorem dX12_memoGets_47 : decode cX12_memoGets 47 = .ok (.imul, 1) := by decide +kernel
theorem dX12_memoGets_48 : decode cX12_memoGets 48 = .ok (.iadd, 1) := by decide +kernel
theorem dX12_memoGets_49 : decode cX12_memoGets 49 = .ok (.iload_n 1, 1) := by decide +kernel
theorem dX12_memoGets_50 : decode cX12_memoGets 50 = .ok (.iastore, 1) := by decide +kernel
theorem dX12_memoGets_51 : decode cX12_memoGets 51 = .ok (.aload_n 0, 1) := by decide +kernel
theorem dX12_memoGets_52 : decode cX12_memoGets 52 = .ok (.getfield 9, 3) := by decide +kernel
theorem dX12_memoGets_55 : decode cX12_memoGets 55 = .ok (.bipush 41, 2) := by decide +kernel
theorem dX12_memoGets_57 : decode cX12_memoGets 57 = .ok (.iconst 2, 1) := by decide +kernel
theorem dX12_memoGets_58 : decode cX12_memoGets 58 = .ok (.aload_n 0, 1) := by decide +kernel
theorem dX12_memoGets_59 : decode cX12_memoGets 59 = .ok (.getfield 9, 3) := by decide +kernel
theorem dX12_memoGets_62 : decode cX12_memoGets 62 = .ok (.bipush 40, 2) := by decide +kernel
theorem dX12_memoGets_64 : decode cX12_memoGets 64 = .ok (.iaload, 1) := by decide +kernel
theorem dX12_memoGets_65 : decode cX12_memoGets 65 = .ok (.imul, 1) := by decide +kernel
theorem dX12_memoGets_66 : decode cX12_memoGets 66 = .ok (.iadd, 1) := by decide +kernel
theorem dX12_memoGets_67 : decode cX12_memoGets 67 = .ok (.iconst 1, 1) := by decide +kernel
theorem dX12_memoGets_68 : decode cX12_memoGets 68 = .ok (.iadd, 1) := by decide +kernel
theorem dX12_memoGets_69 : decode cX12_memoGets 69 = .ok (.iload_n 2, 1) := by decide +kernel
theorem dX12_memoGets_70 : decode cX12_memoGets 70 = .ok (.iastore, 1) := by decide +kernel
theorem dX12_memoGets_71 : decode cX12_memoGets 71 = .ok (.aload_n 0, 1) := by decide +kernel
theorem dX12_memoGets_72 : decode cX12_memoGets 72 = .ok (.getfield 9, 3) := by decide +kernel
theorem dX12_memoGets_75 : decode cX12_memoGets 75 = .ok (.bipush 40, 2) := by decide +kernel
theorem dX12_memoGets_77 : decode cX12_memoGets 77 = .ok (.dup2, 1) := by decide +kernel
theorem dX12_memoGets_78 : decode cX12_memoGets 78 = .ok (.iaload, 1) := by decide +kernel
theorem dX12_memoGets_79 : decode cX12_memoGets 79 = .ok (.iconst 1, 1) := by decide +kernel
theorem dX12_memoGets_80 : decode cX12_memoGets 80 = .ok (.iadd, 1) := by decide +kernel
theorem dX12_memoGets_81 : decode cX12_memoGets 81 = .ok (.iastore, 1) := by decide +kernel
theorem dX12_memoGets_82 : decode cX12_memoGets 82 = .ok (.return_, 1) := by decide +kernel
theorem dX12_isStopped_0 : decode cX12_isStopped 0 = .ok (.aload_n 0, 1) := by decide +kernel
theorem dX12_isStopped_1 : decode cX12_isStopped 1 = .ok (.getfield 92, 3) := by decide +kernel
theorem dX12_isStopped_4 : decode cX12_isStopped 4 = .ok (.ifCond .ne 12, 3) := by decide +kernel
theorem dX12_isStopped_7 : decode cX12_isStopped 7 = .ok (.aload_n 0, 1) := by decide +kernel
theorem dX12_isStopped_8 : decode cX12_isStopped 8 = .ok (.getfield 208, 3) := by decide +kernel
theorem dX12_isStopped_11 : decode cX12_isStopped 11 = .ok (.bipush 100, 2) := by decide +kernel
theorem dX12_isStopped_13 : decode cX12_isStopped 13 = .ok (.if_icmp .le 7, 3) := by decide +kernel
theorem dX12_isStopped_16 : decode cX12_isStopped 16 = .ok (.iconst 1, 1) := by decide +kernel
theorem dX12_isStopped_17 : decode cX12_isStopped 17 = .ok (.goto 4, 3) := by decide +kernel
theorem dX12_isStopped_20 : decode cX12_isStopped 20 = .ok (.iconst 0, 1) := by decide +kernel
theorem dX12_isStopped_21 : decode cX12_isStopped 21 = .ok (.ireturn, 1) := by decide +kernel
theorem dX12_normalOf_0 : decode cX12_normalOf 0 = .ok (.aload_n 0, 1) := by decide +kernel
theorem dX12_normalOf_1 : decode cX12_normalOf 1 = .ok (.invokevirtual 211, 3) := by decide +kernel
theorem dX12_normalOf_4 : decode cX12_normalOf 4 = .ok (.ifCond .ne 11, 3) := by decide +kernel
theorem dX12_normalOf_7 : decode cX12_normalOf 7 = .ok (.aload_n 0, 1) := by decide +kernel
theorem dX12_normalOf_8 : decode cX12_normalOf 8 = .ok (.iload_n 1, 1) := by decide +kernel
theorem dX12_normalOf_9 : decode cX12_normalOf 9 = .ok (.invokevirtual 78, 3) := by decide +kernel
theorem dX12_normalOf_12 : decode cX12_normalOf 12 = .ok (.ifCond .eq 5, 3) := by decide +kernel
theorem dX12_normalOf_15 : decode cX12_normalOf 15 = .ok (.iload_n 1, 1) := by decide +kernel
theorem dX12_normalOf_16 : decode cX12_normalOf 16 = .ok (.ireturn, 1) := by decide +kernel
theorem dX12_normalOf_17 : decode cX12_normalOf 17 = .ok (.aload_n 0, 1) := by decide +kernel
theorem dX12_normalOf_18 : decode cX12_normalOf 18 = .ok (.iload_n 1, 1) := by decide +kernel
theorem dX12_normalOf_19 : decode cX12_normalOf 19 = .ok (.invokevirtual 215, 3) := by decide +kernel
theorem dX12_normalOf_22 : decode cX12_normalOf 22 = .ok (.istore_n 2, 1) := by decide +kernel
theorem dX12_normalOf_23 : decode cX12_normalOf 23 = .ok (.iload_n 2, 1) := by decide +kernel
theorem dX12_normalOf_24 : decode cX12_normalOf 24 = .ok (.iconst (-1), 1) := by decide +kernel
theorem dX12_normalOf_25 : decode cX12_normalOf 25 = .ok (.if_icmp .eq 41, 3) := by decide +kernel
theorem dX12_normalOf_28 : decode cX12_normalOf 28 = .ok (.aload_n 0, 1) := by decide +kernel
theorem dX12_normalOf_29 : decode cX12_normalOf 29 = .ok (.getfield 9, 3) := by decide +kernel
theorem dX12_normalOf_32 : decode cX12_normalOf 32 = .ok (.bipush 41, 2) := by decide +kernel
theorem dX12_normalOf_34 : decode cX12_normalOf 34 = .ok (.iconst 2, 1) := by decide +kernel
theorem dX12_normalOf_35 : decode cX12_normalOf 35 = .ok (.iload_n 2, 1) := by decide +kernel
theorem dX12_normalOf_36 : decode cX12_normalOf 36 = .ok (.imul, 1) := by decide +kernel
theorem dX12_normalOf_37 : decode cX12_normalOf 37 = .ok (.iadd, 1) := by decide +kernel
theorem dX12_normalOf_38 : decode cX12_normalOf 38 = .ok (.iconst 1, 1) := by decide +kernel
theorem dX12_normalOf_39 : decode cX12_normalOf 39 = .ok (.iadd, 1) := by decide +kernel
theorem dX12_normalOf_40 : decode cX12_normalOf 40 = .ok (.iaload, 1) := by decide +kernel
theorem dX12_normalOf_41 : decode cX12_normalOf 41 = .ok (.istore_n 3, 1) := by decide +kernel
theorem dX12_normalOf_42 : decode cX12_normalOf 42 = .ok (.aload_n 0, 1) := by decide +kernel
theorem dX12_normalOf_43 : decode cX12_normalOf 43 = .ok (.iload_n 2, 1) := by decide +kernel
theorem dX12_normalOf_44 : decode cX12_normalOf 44 = .ok (.invokevirtual 204, 3) := by decide +kernel
theorem dX12_normalOf_47 : decode cX12_normalOf 47 = .ok (.aload_n 0, 1) := by decide +kernel
theorem dX12_normalOf_48 : decode cX12_normalOf 48 = .ok (.iload_n 1, 1) := by decide +kernel
theorem dX12_normalOf_49 : decode cX12_normalOf 49 = .ok (.iload_n 3, 1) := by decide +kernel
theorem dX12_normalOf_50 : decode cX12_normalOf 50 = .ok (.invokevirtual 218, 3) := by decide +kernel
theorem dX12_normalOf_53 : decode cX12_normalOf 53 = .ok (.aload_n 0, 1) := by decide +kernel
theorem dX12_normalOf_54 : decode cX12_normalOf 54 = .ok (.getfield 9, 3) := by decide +kernel
theorem dX12_normalOf_57 : decode cX12_normalOf 57 = .ok (.bipush 61, 2) := by decide +kernel
theorem dX12_normalOf_59 : decode cX12_normalOf 59 = .ok (.dup2, 1) := by decide +kernel
theorem dX12_normalOf_60 : decode cX12_normalOf 60 = .ok (.iaload, 1) := by decide +kernel
theorem dX12_normalOf_61 : decode cX12_normalOf 61 = .ok (.iconst 1, 1) := by decide +kernel
theorem dX12_normalOf_62 : decode cX12_normalOf 62 = .ok (.iadd, 1) := by decide +kernel
theorem dX12_normalOf_63 : decode cX12_normalOf 63 = .ok (.iastore, 1) := by decide +kernel
theorem dX12_normalOf_64 : decode cX12_normalOf 64 = .ok (.iload_n 3, 1) := by decide +kernel
theorem dX12_normalOf_65 : decode cX12_normalOf 65 = .ok (.ireturn, 1) := by decide +kernel
theorem dX12_normalOf_66 : decode cX12_normalOf 66 = .ok (.aload_n 0, 1) := by decide +kernel
theorem dX12_normalOf_67 : decode cX12_normalOf 67 = .ok (.iload_n 1, 1) := by decide +kernel
theorem dX12_normalOf_68 : decode cX12_normalOf 68 = .ok (.invokevirtual 111, 3) := by decide +kernel
theorem dX12_normalOf_71 : decode cX12_normalOf 71 = .ok (.istore_n 3, 1) := by decide +kernel
theorem dX12_normalOf_72 : decode cX12_normalOf 72 = .ok (.iload_n 3, 1) := by decide +kernel
theorem dX12_normalOf_73 : decode cX12_normalOf 73 = .ok (.ifCond .le 16, 3) := by decide +kernel
theorem dX12_normalOf_76 : decode cX12_normalOf 76 = .ok (.aload_n 0, 1) := by decide +kernel
theorem dX12_normalOf_77 : decode cX12_normalOf 77 = .ok (.aload_n 0, 1) := by decide +kernel
theorem dX12_normalOf_78 : decode cX12_normalOf 78 = .ok (.iload_n 1, 1) := by decide +kernel
theorem dX12_normalOf_79 : decode cX12_normalOf 79 = .ok (.iconst 0, 1) := by decide +kernel
theorem dX12_normalOf_80 : decode cX12_normalOf 80 = .ok (.invokevirtual 88, 3) := by decide +kernel
theorem dX12_normalOf_83 : decode cX12_normalOf 83 = .ok (.invokevirtual 221, 3) := by decide +kernel
theorem dX12_normalOf_86 : decode cX12_normalOf 86 = .ok (.goto 4, 3) := by decide +kernel
theorem dX12_normalOf_89 : decode cX12_normalOf 89 = .ok (.iconst 0, 1) := by decide +kernel
theorem dX12_normalOf_90 : decode cX12_normalOf 90 = .ok (.istore 4, 2) := by decide +kernel
theorem dX12_normalOf_92 : decode cX12_normalOf 92 = .ok (.iload_n 3, 1) := by decide +kernel
theorem dX12_normalOf_93 : decode cX12_normalOf 93 = .ok (.iconst 1, 1) := by decide +kernel
theorem dX12_normalOf_94 : decode cX12_normalOf 94 = .ok (.if_icmp .le 16, 3) := by decide +kernel
theorem dX12_normalOf_97 : decode cX12_normalOf 97 = .ok (.aload_n 0, 1) := by decide +kernel
theorem dX12_normalOf_98 : decode cX12_normalOf 98 = .ok (.aload_n 0, 1) := by decide +kernel
theorem dX12_normalOf_99 : decode cX12_normalOf 99 = .ok (.iload_n 1, 1) := by decide +kernel
theorem dX12_normalOf_100 : decode cX12_normalOf 100 = .ok (.iconst 1, 1) := by decide +kernel
theorem dX12_normalOf_101 : decode cX12_normalOf 101 = .ok (.invokevirtual 88, 3) := by decide +kernel
theorem dX12_normalOf_104 : decode cX12_normalOf 104 = .ok (.invokevirtual 221, 3) := by decide +kernel
theorem dX12_normalOf_107 : decode cX12_normalOf 107 = .ok (.goto 4, 3) := by decide +kernel
theorem dX12_normalOf_110 : decode cX12_normalOf 110 = .ok (.iconst 0, 1) := by decide +kernel
theorem dX12_normalOf_111 : decode cX12_normalOf 111 = .ok (.istore 5, 2) := by decide +kernel
theorem dX12_normalOf_113 : decode cX12_normalOf 113 = .ok (.iload_n 3, 1) := by decide +kernel
theorem dX12_normalOf_114 : decode cX12_normalOf 114 = .ok (.iconst 2, 1) := by decide +kernel
theorem dX12_normalOf_115 : decode cX12_normalOf 115 = .ok (.if_icmp .le 16, 3) := by decide +kernel
theorem dX12_normalOf_118 : decode cX12_normalOf 118 = .ok (.aload_n 0, 1) := by decide +kernel
theorem dX12_normalOf_119 : decode cX12_normalOf 119 = .ok (.aload_n 0, 1) := by decide +kernel
theorem dX12_normalOf_120 : decode cX12_normalOf 120 = .ok (.iload_n 1, 1) := by decide +kernel
theorem dX12_normalOf_121 : decode cX12_normalOf 121 = .ok (.iconst 2, 1) := by decide +kernel
theorem dX12_normalOf_122 : decode cX12_normalOf 122 = .ok (.invokevirtual 88, 3) := by decide +kernel
theorem dX12_normalOf_125 : decode cX12_normalOf 125 = .ok (.invokevirtual 221, 3) := by decide +kernel
theorem dX12_normalOf_128 : decode cX12_normalOf 128 = .ok (.goto 4, 3) := by decide +kernel
theorem dX12_normalOf_131 : decode cX12_normalOf 131 = .ok (.iconst 0, 1) := by decide +kernel
theorem dX12_normalOf_132 : decode cX12_normalOf 132 = .ok (.istore 6, 2) := by decide +kernel
theorem dX12_normalOf_134 : decode cX12_normalOf 134 = .ok (.aload_n 0, 1) := by decide +kernel
theorem dX12_normalOf_135 : decode cX12_normalOf 135 = .ok (.invokevirtual 211, 3) := by decide +kernel
theorem dX12_normalOf_138 : decode cX12_normalOf 138 = .ok (.ifCond .eq 7, 3) := by decide +kernel
theorem dX12_normalOf_141 : decode cX12_normalOf 141 = .ok (.iconst 0, 1) := by decide +kernel
theorem dX12_normalOf_142 : decode cX12_normalOf 142 = .ok (.goto 14, 3) := by decide +kernel
theorem dX12_normalOf_145 : decode cX12_normalOf 145 = .ok (.aload_n 0, 1) := by decide +kernel
theorem dX12_normalOf_146 : decode cX12_normalOf 146 = .ok (.iload_n 1, 1) := by decide +kernel
theorem dX12_normalOf_147 : decode cX12_normalOf 147 = .ok (.iload 4, 2) := by decide +kernel
theorem dX12_normalOf_149 : decode cX12_normalOf 149 = .ok (.iload 5, 2) := by decide +kernel
theorem dX12_normalOf_151 : decode cX12_normalOf 151 = .ok (.iload 6, 2) := by decide +kernel
theorem dX12_normalOf_153 : decode cX12_normalOf 153 = .ok (.invokevirtual 152, 3) := by decide +kernel
theorem dX12_normalOf_156 : decode cX12_normalOf 156 = .ok (.istore 7, 2) := by decide +kernel
theorem dX12_normalOf_158 : decode cX12_normalOf 158 = .ok (.aload_n 0, 1) := by decide +kernel
theorem dX12_normalOf_159 : decode cX12_normalOf 159 = .ok (.invokevirtual 211, 3) := by decide +kernel
theorem dX12_normalOf_162 : decode cX12_normalOf 162 = .ok (.ifCond .eq 7, 3) := by decide +kernel
theorem dX12_normalOf_165 : decode cX12_normalOf 165 = .ok (.iconst 0, 1) := by decide +kernel
theorem dX12_normalOf_166 : decode cX12_normalOf 166 = .ok (.goto 9, 3) := by decide +kernel
theorem dX12_normalOf_169 : decode cX12_normalOf 169 = .ok (.aload_n 0, 1) := by decide +kernel
theorem dX12_normalOf_170 : decode cX12_normalOf 170 = .ok (.iload 7, 2) := by decide +kernel
theorem dX12_normalOf_172 : decode cX12_normalOf 172 = .ok (.invokevirtual 224, 3) := by decide +kernel
theorem dX12_normalOf_175 : decode cX12_normalOf 175 = .ok (.istore 7, 2) := by decide +kernel
theorem dX12_normalOf_177 : decode cX12_normalOf 177 = .ok (.aload_n 0, 1) := by decide +kernel
theorem dX12_normalOf_178 : decode cX12_normalOf 178 = .ok (.invokevirtual 211, 3) := by decide +kernel
theorem dX12_normalOf_181 : decode cX12_normalOf 181 = .ok (.ifCond .ne 10, 3) := by decide +kernel
theorem dX12_normalOf_184 : decode cX12_normalOf 184 = .ok (.aload_n 0, 1) := by decide +kernel
theorem dX12_normalOf_185 : decode cX12_normalOf 185 = .ok (.iload_n 1, 1) := by decide +kernel
theorem dX12_normalOf_186 : decode cX12_normalOf 186 = .ok (.iload 7, 2) := by decide +kernel
theorem dX12_normalOf_188 : decode cX12_normalOf 188 = .ok (.invokevirtual 218, 3) := by decide +kernel
theorem dX12_normalOf_191 : decode cX12_normalOf 191 = .ok (.iload 7, 2) := by decide +kernel
theorem dX12_normalOf_193 : decode cX12_normalOf 193 = .ok (.ireturn, 1) := by decide +kernel
theorem dX12_lessened_0 : decode cX12_lessened 0 = .ok (.iconst 0, 1) := by decide +kernel
theorem dX12_lessened_1 : decode cX12_lessened 1 = .ok (.istore_n 2, 1) := by decide +kernel
theorem dX12_lessened_2 : decode cX12_lessened 2 = .ok (.iload_n 2, 1) := by decide +kernel
theorem dX12_lessened_3 : decode cX12_lessened 3 = .ok (.aload_n 0, 1) := by decide +kernel
theorem dX12_lessened_4 : decode cX12_lessened 4 = .ok (.getfield 9, 3) := by decide +kernel
theorem dX12_lessened_7 : decode cX12_lessened 7 = .ok (.bipush 9, 2) := by decide +kernel
theorem dX12_lessened_9 : decode cX12_lessened 9 = .ok (.iaload, 1) := by decide +kernel
theorem dX12_lessened_10 : decode cX12_lessened 10 = .ok (.if_icmp .ge 102, 3) := by decide +kernel
theorem dX12_lessened_13 : decode cX12_lessened 13 = .ok (.aload_n 0, 1) := by decide +kernel
theorem dX12_lessened_14 : decode cX12_lessened 14 = .ok (.aload_n 0, 1) := by decide +kernel
theorem dX12_lessened_15 : decode cX12_lessened 15 = .ok (.getfield 9, 3) := by decide +kernel
theorem dX12_lessened_18 : decode cX12_lessened 18 = .ok (.bipush 10, 2) := by decide +kernel
theorem dX12_lessened_20 : decode cX12_lessened 20 = .ok (.iconst 2, 1) := by decide +kernel
theorem dX12_lessened_21 : decode cX12_lessened 21 = .ok (.iload_n 2, 1) := by decide +kernel
theorem dX12_lessened_22 : decode cX12_lessened 22 = .ok (.imul, 1) := by decide +kernel
theorem dX12_lessened_23 : decode cX12_lessened 23 = .ok (.iadd, 1) := by decide +kernel
theorem dX12_lessened_24 : decode cX12_lessened 24 = .ok (.iaload, 1) := by decide +kernel
theorem dX12_lessened_25 : decode cX12_lessened 25 = .ok (.iload_n 1, 1) := by decide +kernel
theorem dX12_lessened_26 : decode cX12_lessened 26 = .ok (.invokevirtual 227, 3) := by decide +kernel
theorem dX12_lessened_29 : decode cX12_lessened 29 = .ok (.ifCond .ne 6, 3) := by decide +kernel
theorem dX12_lessened_32 : decode cX12_lessened 32 = .ok (.goto 74, 3) := by decide +kernel
theorem dX12_lessened_35 : decode cX12_lessened 35 = .ok (.aload_n 0, 1) := by decide +kernel
theorem dX12_lessened_36 : decode cX12_lessened 36 = .ok (.dup, 1) := by decide +kernel
theorem dX12_lessened_37 : decode cX12_lessened 37 = .ok (.getfield 208, 3) := by decide +kernel
theorem dX12_lessened_40 : decode cX12_lessened 40 = .ok (.iconst 1, 1) := by decide +kernel
theorem dX12_lessened_41 : decode cX12_lessened 41 = .ok (.iadd, 1) := by decide +kernel
theorem dX12_lessened_42 : decode cX12_lessened 42 = .ok (.putfield 208, 3) := by decide +kernel
theorem dX12_lessened_45 : decode cX12_lessened 45 = .ok (.aload_n 0, 1) := by decide +kernel
theorem dX12_lessened_46 : decode cX12_lessened 46 = .ok (.getfield 9, 3) := by decide +kernel
theorem dX12_lessened_49 : decode cX12_lessened 49 = .ok (.bipush 62, 2) := by decide +kernel
theorem dX12_lessened_51 : decode cX12_lessened 51 = .ok (.dup2, 1) := by decide +kernel
theorem dX12_lessened_52 : decode cX12_lessened 52 = .ok (.iaload, 1) := by decide +kernel
theorem dX12_lessened_53 : decode cX12_lessened 53 = .ok (.iconst 1, 1) := by decide +kernel
theorem dX12_lessened_54 : decode cX12_lessened 54 = .ok (.iadd, 1) := by decide +kernel
theorem dX12_lessened_55 : decode cX12_lessened 55 = .ok (.iastore, 1) := by decide +kernel
theorem dX12_lessened_56 : decode cX12_lessened 56 = .ok (.aload_n 0, 1) := by decide +kernel
theorem dX12_lessened_57 : decode cX12_lessened 57 = .ok (.getfield 208, 3) := by decide +kernel
theorem dX12_lessened_60 : decode cX12_lessened 60 = .ok (.bipush 100, 2) := by decide +kernel
theorem dX12_lessened_62 : decode cX12_lessened 62 = .ok (.if_icmp .le 5, 3) := by decide +kernel
theorem dX12_lessened_65 : decode cX12_lessened 65 = .ok (.iconst 0, 1) := by decide +kernel
theorem dX12_lessened_66 : decode cX12_lessened 66 = .ok (.ireturn, 1) := by decide +kernel
theorem dX12_lessened_67 : decode cX12_lessened 67 = .ok (.aload_n 0, 1) := by decide +kernel
theorem dX12_lessened_68 : decode cX12_lessened 68 = .ok (.aload_n 0, 1) := by decide +kernel
theorem dX12_lessened_69 : decode cX12_lessened 69 = .ok (.getfield 9, 3) := by decide +kernel
theorem dX12_lessened_72 : decode cX12_lessened 72 = .ok (.bipush 10, 2) := by decide +kernel
theorem dX12_lessened_74 : decode cX12_lessened 74 = .ok (.iconst 2, 1) := by decide +kernel
theorem dX12_lessened_75 : decode cX12_lessened 75 = .ok (.iload_n 2, 1) := by decide +kernel
theorem dX12_lessened_76 : decode cX12_lessened 76 = .ok (.imul, 1) := by decide +kernel
theorem dX12_lessened_77 : decode cX12_lessened 77 = .ok (.iadd, 1) := by decide +kernel
theorem dX12_lessened_78 : decode cX12_lessened 78 = .ok (.iconst 1, 1) := by decide +kernel
theorem dX12_lessened_79 : decode cX12_lessened 79 = .ok (.iadd, 1) := by decide +kernel
theorem dX12_lessened_80 : decode cX12_lessened 80 = .ok (.iaload, 1) := by decide +kernel
theorem dX12_lessened_81 : decode cX12_lessened 81 = .ok (.aload_n 0, 1) := by decide +kernel
theorem dX12_lessened_82 : decode cX12_lessened 82 = .ok (.getfield 41, 3) := by decide +kernel
theorem dX12_lessened_85 : decode cX12_lessened 85 = .ok (.invokevirtual 148, 3) := by decide +kernel
theorem dX12_lessened_88 : decode cX12_lessened 88 = .ok (.istore_n 3, 1) := by decide +kernel
theorem dX12_lessened_89 : decode cX12_lessened 89 = .ok (.aload_n 0, 1) := by decide +kernel
theorem dX12_lessened_90 : decode cX12_lessened 90 = .ok (.getfield 92, 3) := by decide +kernel
theorem dX12_lessened_93 : decode cX12_lessened 93 = .ok (.ifCond .eq 7, 3) := by decide +kernel
theorem dX12_lessened_96 : decode cX12_lessened 96 = .ok (.iconst 0, 1) := by decide +kernel
theorem dX12_lessened_97 : decode cX12_lessened 97 = .ok (.goto 8, 3) := by decide +kernel
theorem dX12_lessened_100 : decode cX12_lessened 100 = .ok (.aload_n 0, 1) := by decide +kernel
theorem dX12_lessened_101 : decode cX12_lessened 101 = .ok (.iload_n 3, 1) := by decide +kernel
theorem dX12_lessened_102 : decode cX12_lessened 102 = .ok (.invokevirtual 221, 3) := by decide +kernel
theorem dX12_lessened_105 : decode cX12_lessened 105 = .ok (.ireturn, 1) := by decide +kernel
theorem dX12_lessened_106 : decode cX12_lessened 106 = .ok (.iinc 2 1, 3) := by decide +kernel
theorem dX12_lessened_109 : decode cX12_lessened 109 = .ok (.goto (-107), 3) := by decide +kernel
theorem dX12_lessened_112 : decode cX12_lessened 112 = .ok (.iload_n 1, 1) := by decide +kernel
theorem dX12_lessened_113 : decode cX12_lessened 113 = .ok (.ireturn, 1) := by decide +kernel
theorem dX12_isSettled_0 : decode cX12_isSettled 0 = .ok (.iconst 0, 1) := by decide +kernel
theorem dX12_isSettled_1 : decode cX12_isSettled 1 = .ok (.istore_n 2, 1) := by decide +kernel
theorem dX12_isSettled_2 : decode cX12_isSettled 2 = .ok (.iload_n 2, 1) := by decide +kernel
theorem dX12_isSettled_3 : decode cX12_isSettled 3 = .ok (.aload_n 0, 1) := by decide +kernel
theorem dX12_isSettled_4 : decode cX12_isSettled 4 = .ok (.getfield 9, 3) := by decide +kernel
theorem dX12_isSettled_7 : decode cX12_isSettled 7 = .ok (.bipush 9, 2) := by decide +kernel
theorem dX12_isSettled_9 : decode cX12_isSettled 9 = .ok (.iaload, 1) := by decide +kernel
theorem dX12_isSettled_10 : decode cX12_isSettled 10 = .ok (.if_icmp .ge 30, 3) := by decide +kernel
theorem dX12_isSettled_13 : decode cX12_isSettled 13 = .ok (.aload_n 0, 1) := by decide +kernel
theorem dX12_isSettled_14 : decode cX12_isSettled 14 = .ok (.aload_n 0, 1) := by decide +kernel
theorem dX12_isSettled_15 : decode cX12_isSettled 15 = .ok (.getfield 9, 3) := by decide +kernel
theorem dX12_isSettled_18 : decode cX12_isSettled 18 = .ok (.bipush 10, 2) := by decide +kernel
theorem dX12_isSettled_20 : decode cX12_isSettled 20 = .ok (.iconst 2, 1) := by decide +kernel
theorem dX12_isSettled_21 : decode cX12_isSettled 21 = .ok (.iload_n 2, 1) := by decide +kernel
theorem dX12_isSettled_22 : decode cX12_isSettled 22 = .ok (.imul, 1) := by decide +kernel
theorem dX12_isSettled_23 : decode cX12_isSettled 23 = .ok (.iadd, 1) := by decide +kernel
theorem dX12_isSettled_24 : decode cX12_isSettled 24 = .ok (.iaload, 1) := by decide +kernel
theorem dX12_isSettled_25 : decode cX12_isSettled 25 = .ok (.iload_n 1, 1) := by decide +kernel
theorem dX12_isSettled_26 : decode cX12_isSettled 26 = .ok (.invokevirtual 227, 3) := by decide +kernel
theorem dX12_isSettled_29 : decode cX12_isSettled 29 = .ok (.ifCond .eq 5, 3) := by decide +kernel
theorem dX12_isSettled_32 : decode cX12_isSettled 32 = .ok (.iconst 0, 1) := by decide +kernel
theorem dX12_isSettled_33 : decode cX12_isSettled 33 = .ok (.ireturn, 1) := by decide +kernel
theorem dX12_isSettled_34 : decode cX12_isSettled 34 = .ok (.iinc 2 1, 3) := by decide +kernel
theorem dX12_isSettled_37 : decode cX12_isSettled 37 = .ok (.goto (-35), 3) := by decide +kernel
theorem dX12_isSettled_40 : decode cX12_isSettled 40 = .ok (.iconst 0, 1) := by decide +kernel
theorem dX12_isSettled_41 : decode cX12_isSettled 41 = .ok (.istore_n 2, 1) := by decide +kernel
theorem dX12_isSettled_42 : decode cX12_isSettled 42 = .ok (.iload_n 2, 1) := by decide +kernel
theorem dX12_isSettled_43 : decode cX12_isSettled 43 = .ok (.aload_n 0, 1) := by decide +kernel
theorem dX12_isSettled_44 : decode cX12_isSettled 44 = .ok (.iload_n 1, 1) := by decide +kernel
theorem dX12_isSettled_45 : decode cX12_isSettled 45 = .ok (.invokevirtual 111, 3) := by decide +kernel
theorem dX12_isSettled_48 : decode cX12_isSettled 48 = .ok (.if_icmp .ge 24, 3) := by decide +kernel
theorem dX12_isSettled_51 : decode cX12_isSettled 51 = .ok (.aload_n 0, 1) := by decide +kernel
theorem dX12_isSettled_52 : decode cX12_isSettled 52 = .ok (.aload_n 0, 1) := by decide +kernel
theorem dX12_isSettled_53 : decode cX12_isSettled 53 = .ok (.iload_n 1, 1) := by decide +kernel
theorem dX12_isSettled_54 : decode cX12_isSettled 54 = .ok (.iload_n 2, 1) := by decide +kernel
theorem dX12_isSettled_55 : decode cX12_isSettled 55 = .ok (.invokevirtual 88, 3) := by decide +kernel
theorem dX12_isSettled_58 : decode cX12_isSettled 58 = .ok (.invokevirtual 230, 3) := by decide +kernel
theorem dX12_isSettled_61 : decode cX12_isSettled 61 = .ok (.ifCond .ne 5, 3) := by decide +kernel
theorem dX12_isSettled_64 : decode cX12_isSettled 64 = .ok (.iconst 0, 1) := by decide +kernel
theorem dX12_isSettled_65 : decode cX12_isSettled 65 = .ok (.ireturn, 1) := by decide +kernel
theorem dX12_isSettled_66 : decode cX12_isSettled 66 = .ok (.iinc 2 1, 3) := by decide +kernel
theorem dX12_isSettled_69 : decode cX12_isSettled 69 = .ok (.goto (-27), 3) := by decide +kernel
theorem dX12_isSettled_72 : decode cX12_isSettled 72 = .ok (.iconst 1, 1) := by decide +kernel
theorem dX12_isSettled_73 : decode cX12_isSettled 73 = .ok (.ireturn, 1) := by decide +kernel
theorem dX12_isLetter_0 : decode cX12_isLetter 0 = .ok (.iload_n 0, 1) := by decide +kernel
theorem dX12_isLetter_1 : decode cX12_isLetter 1 = .ok (.bipush 97, 2) := by decide +kernel
theorem dX12_isLetter_3 : decode cX12_isLetter 3 = .ok (.if_icmp .lt 13, 3) := by decide +kernel
theorem dX12_isLetter_6 : decode cX12_isLetter 6 = .ok (.iload_n 0, 1) := by decide +kernel
theorem dX12_isLetter_7 : decode cX12_isLetter 7 = .ok (.bipush 122, 2) := by decide +kernel
theorem dX12_isLetter_9 : decode cX12_isLetter 9 = .ok (.if_icmp .gt 7, 3) := by decide +kernel
theorem dX12_isLetter_12 : decode cX12_isLetter 12 = .ok (.iconst 1, 1) := by decide +kernel
theorem dX12_isLetter_13 : decode cX12_isLetter 13 = .ok (.goto 4, 3) := by decide +kernel
theorem dX12_isLetter_16 : decode cX12_isLetter 16 = .ok (.iconst 0, 1) := by decide +kernel
theorem dX12_isLetter_17 : decode cX12_isLetter 17 = .ok (.ireturn, 1) := by decide +kernel
theorem dX12_byteAt_0 : decode cX12_byteAt 0 = .ok (.iload_n 1, 1) := by decide +kernel
theorem dX12_byteAt_1 : decode cX12_byteAt 1 = .ok (.aload_n 0, 1) := by decide +kernel
theorem dX12_byteAt_2 : decode cX12_byteAt 2 = .ok (.getfield 233, 3) := by decide +kernel
theorem dX12_byteAt_5 : decode cX12_byteAt 5 = .ok (.if_icmp .ge 12, 3) := by decide +kernel
theorem dX12_byteAt_8 : decode cX12_byteAt 8 = .ok (.aload_n 0, 1) := by decide +kernel
theorem dX12_byteAt_9 : decode cX12_byteAt 9 = .ok (.getfield 34, 3) := by decide +kernel
theorem dX12_byteAt_12 : decode cX12_byteAt 12 = .ok (.iload_n 1, 1) := by decide +kernel
theorem dX12_byteAt_13 : decode cX12_byteAt 13 = .ok (.iaload, 1) := by decide +kernel
theorem dX12_byteAt_14 : decode cX12_byteAt 14 = .ok (.goto 4, 3) := by decide +kernel
theorem dX12_byteAt_17 : decode cX12_byteAt 17 = .ok (.iconst 0, 1) := by decide +kernel
theorem dX12_byteAt_18 : decode cX12_byteAt 18 = .ok (.ireturn, 1) := by decide +kernel
theorem dX12_wordFrom_0 : decode cX12_wordFrom 0 = .ok (.iconst 0, 1) := by decide +kernel
theorem dX12_wordFrom_1 : decode cX12_wordFrom 1 = .ok (.istore_n 3, 1) := by decide +kernel
theorem dX12_wordFrom_2 : decode cX12_wordFrom 2 = .ok (.iload_n 1, 1) := by decide +kernel
theorem dX12_wordFrom_3 : decode cX12_wordFrom 3 = .ok (.istore 4, 2) := by decide +kernel
theorem dX12_wordFrom_5 : decode cX12_wordFrom 5 = .ok (.iconst 1, 1) := by decide +kernel
theorem dX12_wordFrom_6 : decode cX12_wordFrom 6 = .ok (.istore 5, 2) := by decide +kernel
theorem dX12_wordFrom_8 : decode cX12_wordFrom 8 = .ok (.iconst 0, 1) := by decide +kernel
theorem dX12_wordFrom_9 : decode cX12_wordFrom 9 = .ok (.istore 6, 2) := by decide +kernel
theorem dX12_wordFrom_11 : decode cX12_wordFrom 11 = .ok (.iload 6, 2) := by decide +kernel
theorem dX12_wordFrom_13 : decode cX12_wordFrom 13 = .ok (.getstatic 236, 3) := by decide +kernel
theorem dX12_wordFrom_16 : decode cX12_wordFrom 16 = .ok (.arraylength, 1) := by decide +kernel
theorem dX12_wordFrom_17 : decode cX12_wordFrom 17 = .ok (.if_icmp .ge 81, 3) := by decide +kernel
theorem dX12_wordFrom_20 : decode cX12_wordFrom 20 = .ok (.getstatic 236, 3) := by decide +kernel
theorem dX12_wordFrom_23 : decode cX12_wordFrom 23 = .ok (.iload 6, 2) := by decide +kernel
theorem dX12_wordFrom_25 : decode cX12_wordFrom 25 = .ok (.baload, 1) := by decide +kernel
theorem dX12_wordFrom_26 : decode cX12_wordFrom 26 = .ok (.bipush 32, 2) := by decide +kernel
theorem dX12_wordFrom_28 : decode cX12_wordFrom 28 = .ok (.if_icmp .ne 28, 3) := by decide +kernel
theorem dX12_wordFrom_31 : decode cX12_wordFrom 31 = .ok (.iload 5, 2) := by decide +kernel
theorem dX12_wordFrom_33 : decode cX12_wordFrom 33 = .ok (.ifCond .eq 11, 3) := by decide +kernel
theorem dX12_wordFrom_36 : decode cX12_wordFrom 36 = .ok (.iload 4, 2) := by decide +kernel
theorem dX12_wordFrom_38 : decode cX12_wordFrom 38 = .ok (.iload_n 2, 1) := by decide +kernel
theorem dX12_wordFrom_39 : decode cX12_wordFrom 39 = .ok (.if_icmp .ne 5, 3) := by decide +kernel
theorem dX12_wordFrom_42 : decode cX12_wordFrom 42 = .ok (.iload_n 3, 1) := by decide +kernel
theorem dX12_wordFrom_43 : decode cX12_wordFrom 43 = .ok (.ireturn, 1) := by decide +kernel
theorem dX12_wordFrom_44 : decode cX12_wordFrom 44 = .ok (.iinc 3 1, 3) := by decide +kernel
theorem dX12_wordFrom_47 : decode cX12_wordFrom 47 = .ok (.iload_n 1, 1) := by decide +kernel
theorem dX12_wordFrom_48 : decode cX12_wordFrom 48 = .ok (.istore 4, 2) := by decide +kernel
theorem dX12_wordFrom_50 : decode cX12_wordFrom 50 = .ok (.iconst 1, 1) := by decide +kernel
theorem dX12_wordFrom_51 : decode cX12_wordFrom 51 = .ok (.istore 5, 2) := by decide +kernel
theorem dX12_wordFrom_53 : decode cX12_wordFrom 53 = .ok (.goto 39, 3) := by decide +kernel
theorem dX12_wordFrom_56 : decode cX12_wordFrom 56 = .ok (.iload 5, 2) := by decide +kernel
theorem dX12_wordFrom_58 : decode cX12_wordFrom 58 = .ok (.ifCond .eq 28, 3) := by decide +kernel
theorem dX12_wordFrom_61 : decode cX12_wordFrom 61 = .ok (.iload 4, 2) := by decide +kernel
theorem dX12_wordFrom_63 : decode cX12_wordFrom 63 = .ok (.iload_n 2, 1) := by decide +kernel
theorem dX12_wordFrom_64 : decode cX12_wordFrom 64 = .ok (.if_icmp .ge 22, 3) := by decide +kernel
theorem dX12_wordFrom_67 : decode cX12_wordFrom 67 = .ok (.aload_n 0, 1) := by decide +kernel
theorem dX12_wordFrom_68 : decode cX12_wordFrom 68 = .ok (.iload 4, 2) := by decide +kernel
theorem dX12_wordFrom_70 : decode cX12_wordFrom 70 = .ok (.invokevirtual 240, 3) := by decide +kernel
theorem dX12_wordFrom_73 : decode cX12_wordFrom 73 = .ok (.getstatic 236, 3) := by decide +kernel
theorem dX12_wordFrom_76 : decode cX12_wordFrom 76 = .ok (.iload 6, 2) := by decide +kernel
theorem dX12_wordFrom_78 : decode cX12_wordFrom 78 = .ok (.baload, 1) := by decide +kernel
theorem dX12_wordFrom_79 : decode cX12_wordFrom 79 = .ok (.if_icmp .ne 7, 3) := by decide +kernel
theorem dX12_wordFrom_82 : decode cX12_wordFrom 82 = .ok (.iconst 1, 1) := by decide +kernel
theorem dX12_wordFrom_83 : decode cX12_wordFrom 83 = .ok (.goto 4, 3) := by decide +kernel
theorem dX12_wordFrom_86 : decode cX12_wordFrom 86 = .ok (.iconst 0, 1) := by decide +kernel
theorem dX12_wordFrom_87 : decode cX12_wordFrom 87 = .ok (.istore 5, 2) := by decide +kernel
theorem dX12_wordFrom_89 : decode cX12_wordFrom 89 = .ok (.iinc 4 1, 3) := by decide +kernel
theorem dX12_wordFrom_92 : decode cX12_wordFrom 92 = .ok (.iinc 6 1, 3) := by decide +kernel
theorem dX12_wordFrom_95 : decode cX12_wordFrom 95 = .ok (.goto (-84), 3) := by decide +kernel
theorem dX12_wordFrom_98 : decode cX12_wordFrom 98 = .ok (.iconst (-1), 1) := by decide +kernel
theorem dX12_wordFrom_99 : decode cX12_wordFrom 99 = .ok (.ireturn, 1) := by decide +kernel
theorem dX12_isSignByte_0 : decode cX12_isSignByte 0 = .ok (.iload_n 1, 1) := by decide +kernel
theorem dX12_isSignByte_1 : decode cX12_isSignByte 1 = .ok (.bipush 63, 2) := by decide +kernel
theorem dX12_isSignByte_3 : decode cX12_isSignByte 3 = .ok (.if_icmp .eq 27, 3) := by decide +kernel
theorem dX12_isSignByte_6 : decode cX12_isSignByte 6 = .ok (.iload_n 1, 1) := by decide +kernel
theorem dX12_isSignByte_7 : decode cX12_isSignByte 7 = .ok (.bipush 40, 2) := by decide +kernel
theorem dX12_isSignByte_9 : decode cX12_isSignByte 9 = .ok (.if_icmp .eq 21, 3) := by decide +kernel
theorem dX12_isSignByte_12 : decode cX12_isSignByte 12 = .ok (.iload_n 1, 1) := by decide +kernel
theorem dX12_isSignByte_13 : decode cX12_isSignByte 13 = .ok (.bipush 41, 2) := by decide +kernel
theorem dX12_isSignByte_15 : decode cX12_isSignByte 15 = .ok (.if_icmp .eq 15, 3) := by decide +kernel
theorem dX12_isSignByte_18 : decode cX12_isSignByte 18 = .ok (.iload_n 1, 1) := by decide +kernel
theorem dX12_isSignByte_19 : decode cX12_isSignByte 19 = .ok (.bipush 44, 2) := by decide +kernel
theorem dX12_isSignByte_21 : decode cX12_isSignByte 21 = .ok (.if_icmp .eq 9, 3) := by decide +kernel
theorem dX12_isSignByte_24 : decode cX12_isSignByte 24 = .ok (.iload_n 1, 1) := by decide +kernel
theorem dX12_isSignByte_25 : decode cX12_isSignByte 25 = .ok (.bipush 59, 2) := by decide +kernel
theorem dX12_isSignByte_27 : decode cX12_isSignByte 27 = .ok (.if_icmp .ne 7, 3) := by decide +kernel
theorem dX12_isSignByte_30 : decode cX12_isSignByte 30 = .ok (.iconst 1, 1) := by decide +kernel
theorem dX12_isSignByte_31 : decode cX12_isSignByte 31 = .ok (.goto 4, 3) := by decide +kernel
theorem dX12_isSignByte_34 : decode cX12_isSignByte 34 = .ok (.iconst 0, 1) := by decide +kernel
theorem dX12_isSignByte_35 : decode cX12_isSignByte 35 = .ok (.ireturn, 1) := by decide +kernel
theorem dX12_go_0 : decode cX12_go 0 = .ok (.aload_n 0, 1) := by decide +kernel
theorem dX12_go_1 : decode cX12_go 1 = .ok (.getfield 243, 3) := by decide +kernel
theorem dX12_go_4 : decode cX12_go 4 = .ok (.aload_n 0, 1) := by decide +kernel
theorem dX12_go_5 : decode cX12_go 5 = .ok (.getfield 233, 3) := by decide +kernel
theorem dX12_go_8 : decode cX12_go 8 = .ok (.if_icmp .ge 42, 3) := by decide +kernel
theorem dX12_go_11 : decode cX12_go 11 = .ok (.aload_n 0, 1) := by decide +kernel
theorem dX12_go_12 : decode cX12_go 12 = .ok (.aload_n 0, 1) := by decide +kernel
theorem dX12_go_13 : decode cX12_go 13 = .ok (.getfield 243, 3) := by decide +kernel
theorem dX12_go_16 : decode cX12_go 16 = .ok (.invokevirtual 240, 3) := by decide +kernel
theorem dX12_go_19 : decode cX12_go 19 = .ok (.bipush 32, 2) := by decide +kernel
theorem dX12_go_21 : decode cX12_go 21 = .ok (.if_icmp .eq 16, 3) := by decide +kernel
theorem dX12_go_24 : decode cX12_go 24 = .ok (.aload_n 0, 1) := by decide +kernel
theorem dX12_go_25 : decode cX12_go 25 = .ok (.aload_n 0, 1) := by decide +kernel
theorem dX12_go_26 : decode cX12_go 26 = .ok (.getfield 243, 3) := by decide +kernel
theorem dX12_go_29 : decode cX12_go 29 = .ok (.invokevirtual 240, 3) := by decide +kernel
theorem dX12_go_32 : decode cX12_go 32 = .ok (.bipush 10, 2) := by decide +kernel
theorem dX12_go_34 : decode cX12_go 34 = .ok (.if_icmp .ne 16, 3) := by decide +kernel
theorem dX12_go_37 : decode cX12_go 37 = .ok (.aload_n 0, 1) := by decide +kernel
theorem dX12_go_38 : decode cX12_go 38 = .ok (.dup, 1) := by decide +kernel
theorem dX12_go_39 : decode cX12_go 39 = .ok (.getfield 243, 3) := by decide +kernel
theorem dX12_go_42 : decode cX12_go 42 = .ok (.iconst 1, 1) := by decide +kernel
theorem dX12_go_43 : decode cX12_go 43 = .ok (.iadd, 1) := by decide +kernel
theorem dX12_go_44 : decode cX12_go 44 = .ok (.putfield 243, 3) := by decide +kernel
theorem dX12_go_47 : decode cX12_go 47 = .ok (.goto (-47), 3) := by decide +kernel
theorem dX12_go_50 : decode cX12_go 50 = .ok (.aload_n 0, 1) := by decide +kernel
theorem dX12_go_51 : decode cX12_go 51 = .ok (.aload_n 0, 1) := by decide +kernel
theorem dX12_go_52 : decode cX12_go 52 = .ok (.getfield 243, 3) := by decide +kernel
theorem dX12_go_55 : decode cX12_go 55 = .ok (.putfield 246, 3) := by decide +kernel
theorem dX12_go_58 : decode cX12_go 58 = .ok (.aload_n 0, 1) := by decide +kernel
theorem dX12_go_59 : decode cX12_go 59 = .ok (.aload_n 0, 1) := by decide +kernel
theorem dX12_go_60 : decode cX12_go 60 = .ok (.getfield 243, 3) := by decide +kernel
theorem dX12_go_63 : decode cX12_go 63 = .ok (.invokevirtual 240, 3) := by decide +kernel
theorem dX12_go_66 : decode cX12_go 66 = .ok (.istore_n 1, 1) := by decide +kernel
theorem dX12_go_67 : decode cX12_go 67 = .ok (.aload_n 0, 1) := by decide +kernel
theorem dX12_go_68 : decode cX12_go 68 = .ok (.iconst (-1), 1) := by decide +kernel
theorem dX12_go_69 : decode cX12_go 69 = .ok (.putfield 249, 3) := by decide +kernel
theorem dX12_go_72 : decode cX12_go 72 = .ok (.aload_n 0, 1) := by decide +kernel
theorem dX12_go_73 : decode cX12_go 73 = .ok (.iconst 0, 1) := by decide +kernel
theorem dX12_go_74 : decode cX12_go 74 = .ok (.putfield 252, 3) := by decide +kernel
theorem dX12_go_77 : decode cX12_go 77 = .ok (.aload_n 0, 1) := by decide +kernel
theorem dX12_go_78 : decode cX12_go 78 = .ok (.iconst 0, 1) := by decide +kernel
theorem dX12_go_79 : decode cX12_go 79 = .ok (.putfield 255, 3) := by decide +kernel
theorem dX12_go_82 : decode cX12_go 82 = .ok (.aload_n 0, 1) := by decide +kernel
theorem dX12_go_83 : decode cX12_go 83 = .ok (.iconst 0, 1) := by decide +kernel
theorem dX12_go_84 : decode cX12_go 84 = .ok (.putfield 258, 3) := by decide +kernel
theorem dX12_go_87 : decode cX12_go 87 = .ok (.aload_n 0, 1) := by decide +kernel
theorem dX12_go_88 : decode cX12_go 88 = .ok (.getfield 243, 3) := by decide +kernel
theorem dX12_go_91 : decode cX12_go 91 = .ok (.aload_n 0, 1) := by decide +kernel
theorem dX12_go_92 : decode cX12_go 92 = .ok (.getfield 233, 3) := by decide +kernel
theorem dX12_go_95 : decode cX12_go 95 = .ok (.if_icmp .lt 11, 3) := by decide +kernel
theorem dX12_go_98 : decode cX12_go 98 = .ok (.aload_n 0, 1) := by decide +kernel
theorem dX12_go_99 : decode cX12_go 99 = .ok (.iconst 0, 1) := by decide +kernel
theorem dX12_go_100 : decode cX12_go 100 = .ok (.putfield 261, 3) := by decide +kernel
theorem dX12_go_103 : decode cX12_go 103 = .ok (.goto 209, 3) := by decide +kernel
theorem dX12_go_106 : decode cX12_go 106 = .ok (.iload_n 1, 1) := by decide +kernel
theorem dX12_go_107 : decode cX12_go 107 = .ok (.invokestatic 264, 3) := by decide +kernel
theorem dX12_go_110 : decode cX12_go 110 = .ok (.ifCond .eq 67, 3) := by decide +kernel
theorem dX12_go_113 : decode cX12_go 113 = .ok (.aload_n 0, 1) := by decide +kernel
theorem dX12_go_114 : decode cX12_go 114 = .ok (.aload_n 0, 1) := by decide +kernel
theorem dX12_go_115 : decode cX12_go 115 = .ok (.getfield 243, 3) := by decide +kernel
theorem dX12_go_118 : decode cX12_go 118 = .ok (.invokevirtual 240, 3) := by decide +kernel
theorem dX12_go_121 : decode cX12_go 121 = .ok (.invokestatic 264, 3) := by decide +kernel
theorem dX12_go_124 : decode cX12_go 124 = .ok (.ifCond .eq 16, 3) := by decide +kernel
theorem dX12_go_127 : decode cX12_go 127 = .ok (.aload_n 0, 1) := by decide +kernel
theorem dX12_go_128 : decode cX12_go 128 = .ok (.dup, 1) := by decide +kernel
theorem dX12_go_129 : decode cX12_go 129 = .ok (.getfield 243, 3) := by decide +kernel
theorem dX12_go_132 : decode cX12_go 132 = .ok (.iconst 1, 1) := by decide +kernel
theorem dX12_go_133 : decode cX12_go 133 = .ok (.iadd, 1) := by decide +kernel
theorem dX12_go_134 : decode cX12_go 134 = .ok (.putfield 243, 3) := by decide +kernel
theorem dX12_go_137 : decode cX12_go 137 = .ok (.goto (-24), 3) := by decide +kernel
theorem dX12_go_140 : decode cX12_go 140 = .ok (.aload_n 0, 1) := by decide +kernel
theorem dX12_go_141 : decode cX12_go 141 = .ok (.iconst 1, 1) := by decide +kernel
theorem dX12_go_142 : decode cX12_go 142 = .ok (.putfield 261, 3) := by decide +kernel
theorem dX12_go_145 : decode cX12_go 145 = .ok (.aload_n 0, 1) := by decide +kernel
theorem dX12_go_146 : decode cX12_go 146 = .ok (.aload_n 0, 1) := by decide +kernel
theorem dX12_go_147 : decode cX12_go 147 = .ok (.getfield 243, 3) := by decide +kernel
theorem dX12_go_150 : decode cX12_go 150 = .ok (.aload_n 0, 1) := by decide +kernel
theorem dX12_go_151 : decode cX12_go 151 = .ok (.getfield 246, 3) := by decide +kernel
theorem dX12_go_154 : decode cX12_go 154 = .ok (.isub, 1) := by decide +kernel
theorem dX12_go_155 : decode cX12_go 155 = .ok (.putfield 252, 3) := by decide +kernel
theorem dX12_go_158 : decode cX12_go 158 = .ok (.aload_n 0, 1) := by decide +kernel
theorem dX12_go_159 : decode cX12_go 159 = .ok (.aload_n 0, 1) := by decide +kernel
theorem dX12_go_160 : decode cX12_go 160 = .ok (.aload_n 0, 1) := by decide +kernel
theorem dX12_go_161 : decode cX12_go 161 = .ok (.getfield 246, 3) := by decide +kernel
theorem dX12_go_164 : decode cX12_go 164 = .ok (.aload_n 0, 1) := by decide +kernel
theorem dX12_go_165 : decode cX12_go 165 = .ok (.getfield 243, 3) := by decide +kernel
theorem dX12_go_168 : decode cX12_go 168 = .ok (.invokevirtual 267, 3) := by decide +kernel
theorem dX12_go_171 : decode cX12_go 171 = .ok (.putfield 249, 3) := by decide +kernel
theorem dX12_go_174 : decode cX12_go 174 = .ok (.goto 138, 3) := by decide +kernel
theorem dX12_go_177 : decode cX12_go 177 = .ok (.iload_n 1, 1) := by decide +kernel
theorem dX12_go_178 : decode cX12_go 178 = .ok (.bipush 48, 2) := by decide +kernel
theorem dX12_go_180 : decode cX12_go 180 = .ok (.if_icmp .lt 88, 3) := by decide +kernel
theorem dX12_go_183 : decode cX12_go 183 = .ok (.iload_n 1, 1) := by decide +kernel
theorem dX12_go_184 : decode cX12_go 184 = .ok (.bipush 57, 2) := by decide +kernel
theorem dX12_go_186 : decode cX12_go 186 = .ok (.if_icmp .gt 82, 3) := by decide +kernel
theorem dX12_go_189 : decode cX12_go 189 = .ok (.aload_n 0, 1) := by decide +kernel
theorem dX12_go_190 : decode cX12_go 190 = .ok (.aload_n 0, 1) := by decide +kernel
theorem dX12_go_191 : decode cX12_go 191 = .ok (.getfield 243, 3) := by decide +kernel
theorem dX12_go_194 : decode cX12_go 194 = .ok (.invokevirtual 240, 3) := by decide +kernel
theorem dX12_go_197 : decode cX12_go 197 = .ok (.bipush 48, 2) := by decide +kernel
theorem dX12_go_199 : decode cX12_go 199 = .ok (.if_icmp .lt 61, 3) := by decide +kernel
theorem dX12_go_202 : decode cX12_go 202 = .ok (.aload_n 0, 1) := by decide +kernel
theorem dX12_go_203 : decode cX12_go 203 = .ok (.aload_n 0, 1) := by decide +kernel
theorem dX12_go_204 : decode cX12_go 204 = .ok (.getfield 243, 3) := by decide +kernel
theorem dX12_go_207 : decode cX12_go 207 = .ok (.invokevirtual 240, 3) := by decide +kernel
theorem dX12_go_210 : decode cX12_go 210 = .ok (.bipush 57, 2) := by decide +kernel
theorem dX12_go_212 : decode cX12_go 212 = .ok (.if_icmp .gt 48, 3) := by decide +kernel
theorem dX12_go_215 : decode cX12_go 215 = .ok (.aload_n 0, 1) := by decide +kernel
theorem dX12_go_216 : decode cX12_go 216 = .ok (.aload_n 0, 1) := by decide +kernel
theorem dX12_go_217 : decode cX12_go 217 = .ok (.getfield 243, 3) := by decide +kernel
theorem dX12_go_220 : decode cX12_go 220 = .ok (.aload_n 0, 1) := by decide +kernel
theorem dX12_go_221 : decode cX12_go 221 = .ok (.getfield 246, 3) := by decide +kernel
theorem dX12_go_224 : decode cX12_go 224 = .ok (.if_icmp .ne 17, 3) := by decide +kernel
theorem dX12_go_227 : decode cX12_go 227 = .ok (.aload_n 0, 1) := by decide +kernel
theorem dX12_go_228 : decode cX12_go 228 = .ok (.aload_n 0, 1) := by decide +kernel
theorem dX12_go_229 : decode cX12_go 229 = .ok (.getfield 243, 3) := by decide +kernel
theorem dX12_go_232 : decode cX12_go 232 = .ok (.invokevirtual 240, 3) := by decide +kernel
theorem dX12_go_235 : decode cX12_go 235 = .ok (.bipush 48, 2) := by decide +kernel
theorem dX12_go_237 : decode cX12_go 237 = .ok (.isub, 1) := by decide +kernel
theorem dX12_go_238 : decode cX12_go 238 = .ok (.goto 6, 3) := by decide +kernel
theorem dX12_go_241 : decode cX12_go 241 = .ok (.sipush 999, 3) := by decide +kernel
theorem dX12_go_244 : decode cX12_go 244 = .ok (.putfield 255, 3) := by decide +kernel
theorem dX12_go_247 : decode cX12_go 247 = .ok (.aload_n 0, 1) := by decide +kernel
theorem dX12_go_248 : decode cX12_go 248 = .ok (.dup, 1) := by decide +kernel
theorem dX12_go_249 : decode cX12_go 249 = .ok (.getfield 243, 3) := by decide +kernel
theorem dX12_go_252 : decode cX12_go 252 = .ok (.iconst 1, 1) := by decide +kernel
theorem dX12_go_253 : decode cX12_go 253 = .ok (.iadd, 1) := by decide +kernel
theorem dX12_go_254 : decode cX12_go 254 = .ok (.putfield 243, 3) := by decide +kernel
theorem dX12_go_257 : decode cX12_go 257 = .ok (.goto (-68), 3) := by decide +kernel
theorem dX12_go_260 : decode cX12_go 260 = .ok (.aload_n 0, 1) := by decide +kernel
theorem dX12_go_261 : decode cX12_go 261 = .ok (.iconst 2, 1) := by decide +kernel
theorem dX12_go_262 : decode cX12_go 262 = .ok (.putfield 261, 3) := by decide +kernel
theorem dX12_go_265 : decode cX12_go 265 = .ok (.goto 47, 3) := by decide +kernel
theorem dX12_go_268 : decode cX12_go 268 = .ok (.aload_n 0, 1) := by decide +kernel
theorem dX12_go_269 : decode cX12_go 269 = .ok (.dup, 1) := by decide +kernel
theorem dX12_go_270 : decode cX12_go 270 = .ok (.getfield 243, 3) := by decide +kernel
theorem dX12_go_273 : decode cX12_go 273 = .ok (.iconst 1, 1) := by decide +kernel
theorem dX12_go_274 : decode cX12_go 274 = .ok (.iadd, 1) := by decide +kernel
theorem dX12_go_275 : decode cX12_go 275 = .ok (.putfield 243, 3) := by decide +kernel
theorem dX12_go_278 : decode cX12_go 278 = .ok (.aload_n 0, 1) := by decide +kernel
theorem dX12_go_279 : decode cX12_go 279 = .ok (.aload_n 0, 1) := by decide +kernel
theorem dX12_go_280 : decode cX12_go 280 = .ok (.iload_n 1, 1) := by decide +kernel
theorem dX12_go_281 : decode cX12_go 281 = .ok (.invokevirtual 270, 3) := by decide +kernel
theorem dX12_go_284 : decode cX12_go 284 = .ok (.ifCond .eq 7, 3) := by decide +kernel
theorem dX12_go_287 : decode cX12_go 287 = .ok (.iconst 3, 1) := by decide +kernel
theorem dX12_go_288 : decode cX12_go 288 = .ok (.goto 4, 3) := by decide +kernel
theorem dX12_go_291 : decode cX12_go 291 = .ok (.iconst 4, 1) := by decide +kernel
theorem dX12_go_292 : decode cX12_go 292 = .ok (.putfield 261, 3) := by decide +kernel
theorem dX12_go_295 : decode cX12_go 295 = .ok (.aload_n 0, 1) := by decide +kernel
theorem dX12_go_296 : decode cX12_go 296 = .ok (.aload_n 0, 1) := by decide +kernel
theorem dX12_go_297 : decode cX12_go 297 = .ok (.getfield 261, 3) := by decide +kernel
theorem dX12_go_300 : decode cX12_go 300 = .ok (.iconst 3, 1) := by decide +kernel
theorem dX12_go_301 : decode cX12_go 301 = .ok (.if_icmp .ne 7, 3) := by decide +kernel
theorem dX12_go_304 : decode cX12_go 304 = .ok (.iload_n 1, 1) := by decide +kernel
theorem dX12_go_305 : decode cX12_go 305 = .ok (.goto 4, 3) := by decide +kernel
theorem dX12_go_308 : decode cX12_go 308 = .ok (.iconst 0, 1) := by decide +kernel
theorem dX12_go_309 : decode cX12_go 309 = .ok (.putfield 258, 3) := by decide +kernel
theorem dX12_go_312 : decode cX12_go 312 = .ok (.return_, 1) := by decide +kernel
theorem dX12_wants_0 : decode cX12_wants 0 = .ok (.aload_n 0, 1) := by decide +kernel
theorem dX12_wants_1 : decode cX12_wants 1 = .ok (.getfield 273, 3) := by decide +kernel
theorem dX12_wants_4 : decode cX12_wants 4 = .ok (.ifCond .ne 20, 3) := by decide +kernel
theorem dX12_wants_7 : decode cX12_wants 7 = .ok (.iload_n 1, 1) := by decide +kernel
theorem dX12_wants_8 : decode cX12_wants 8 = .ok (.ifCond .ne 16, 3) := by decide +kernel
theorem dX12_wants_11 : decode cX12_wants 11 = .ok (.aload_n 0, 1) := by decide +kernel
theorem dX12_wants_12 : decode cX12_wants 12 = .ok (.iload_n 2, 1) := by decide +kernel
theorem dX12_wants_13 : decode cX12_wants 13 = .ok (.putfield 273, 3) := by decide +kernel
theorem dX12_wants_16 : decode cX12_wants 16 = .ok (.aload_n 0, 1) := by decide +kernel
theorem dX12_wants_17 : decode cX12_wants 17 = .ok (.aload_n 0, 1) := by decide +kernel
theorem dX12_wants_18 : decode cX12_wants 18 = .ok (.getfield 246, 3) := by decide +kernel
theorem dX12_wants_21 : decode cX12_wants 21 = .ok (.putfield 37, 3) := by decide +kernel
theorem dX12_wants_24 : decode cX12_wants 24 = .ok (.aload_n 0, 1) := by decide +kernel
theorem dX12_wants_25 : decode cX12_wants 25 = .ok (.getfield 273, 3) := by decide +kernel
theorem dX12_wants_28 : decode cX12_wants 28 = .ok (.ifCond .ne 7, 3) := by decide +kernel
theorem dX12_wants_31 : decode cX12_wants 31 = .ok (.iconst 1, 1) := by decide +kernel
theorem dX12_wants_32 : decode cX12_wants 32 = .ok (.goto 4, 3) := by decide +kernel
theorem dX12_wants_35 : decode cX12_wants 35 = .ok (.iconst 0, 1) := by decide +kernel
theorem dX12_wants_36 : decode cX12_wants 36 = .ok (.ireturn, 1) := by decide +kernel
theorem dX12_sign_0 : decode cX12_sign 0 = .ok (.aload_n 0, 1) := by decide +kernel
theorem dX12_sign_1 : decode cX12_sign 1 = .ok (.getfield 273, 3) := by decide +kernel
theorem dX12_sign_4 : decode cX12_sign 4 = .ok (.ifCond .ne 28, 3) := by decide +kernel
theorem dX12_sign_7 : decode cX12_sign 7 = .ok (.aload_n 0, 1) := by decide +kernel
theorem dX12_sign_8 : decode cX12_sign 8 = .ok (.aload_n 0, 1) := by decide +kernel
theorem dX12_sign_9 : decode cX12_sign 9 = .ok (.getfield 258, 3) := by decide +kernel
theorem dX12_sign_12 : decode cX12_sign 12 = .ok (.iload_n 1, 1) := by decide +kernel
theorem dX12_sign_13 : decode cX12_sign 13 = .ok (.if_icmp .ne 7, 3) := by decide +kernel
theorem dX12_sign_16 : decode cX12_sign 16 = .ok (.iconst 1, 1) := by decide +kernel
theorem dX12_sign_17 : decode cX12_sign 17 = .ok (.goto 4, 3) := by decide +kernel
theorem dX12_sign_20 : decode cX12_sign 20 = .ok (.iconst 0, 1) := by decide +kernel
theorem dX12_sign_21 : decode cX12_sign 21 = .ok (.iconst 1, 1) := by decide +kernel
theorem dX12_sign_22 : decode cX12_sign 22 = .ok (.invokevirtual 276, 3) := by decide +kernel
theorem dX12_sign_25 : decode cX12_sign 25 = .ok (.ifCond .eq 7, 3) := by decide +kernel
theorem dX12_sign_28 : decode cX12_sign 28 = .ok (.aload_n 0, 1) := by decide +kernel
theorem dX12_sign_29 : decode cX12_sign 29 = .ok (.invokevirtual 280, 3) := by decide +kernel
theorem dX12_sign_32 : decode cX12_sign 32 = .ok (.return_, 1) := by decide +kernel
theorem dX12_number_0 : decode cX12_number 0 = .ok (.aload_n 0, 1) := by decide +kernel
theorem dX12_number_1 : decode cX12_number 1 = .ok (.getfield 273, 3) := by decide +kernel
theorem dX12_number_4 : decode cX12_number 4 = .ok (.ifCond .ne 41, 3) := by decide +kernel
theorem dX12_number_7 : decode cX12_number 7 = .ok (.aload_n 0, 1) := by decide +kernel
theorem dX12_number_8 : decode cX12_number 8 = .ok (.aload_n 0, 1) := by decide +kernel
theorem dX12_number_9 : decode cX12_number 9 = .ok (.getfield 261, 3) := by decide +kernel
theorem dX12_number_12 : decode cX12_number 12 = .ok (.iconst 2, 1) := by decide +kernel
theorem dX12_number_13 : decode cX12_number 13 = .ok (.if_icmp .ne 7, 3) := by decide +kernel
theorem dX12_number_16 : decode cX12_number 16 = .ok (.iconst 1, 1) := by decide +kernel
theorem dX12_number_17 : decode cX12_number 17 = .ok (.goto 4, 3) := by decide +kernel
theorem dX12_number_20 : decode cX12_number 20 = .ok (.iconst 0, 1) := by decide +kernel
theorem dX12_number_21 : decode cX12_number 21 = .ok (.iconst 1, 1) := by decide +kernel
theorem dX12_number_22 : decode cX12_number 22 = .ok (.invokevirtual 276, 3) := by decide +kernel
theorem dX12_number_25 : decode cX12_number 25 = .ok (.ifCond .eq 20, 3) := by decide +kernel
theorem dX12_number_28 : decode cX12_number 28 = .ok (.aload_n 0, 1) := by decide +kernel
theorem dX12_number_29 : decode cX12_number 29 = .ok (.aload_n 0, 1) := by decide +kernel
theorem dX12_number_30 : decode cX12_number 30 = .ok (.getfield 255, 3) := by decide +kernel
theorem dX12_number_33 : decode cX12_number 33 = .ok (.iload_n 1, 1) := by decide +kernel
theorem dX12_number_34 : decode cX12_number 34 = .ok (.iload_n 2, 1) := by decide +kernel
theorem dX12_number_35 : decode cX12_number 35 = .ok (.invokestatic 283, 3) := by decide +kernel
theorem dX12_number_38 : decode cX12_number 38 = .ok (.iconst 2, 1) := by decide +kernel
theorem dX12_number_39 : decode cX12_number 39 = .ok (.invokevirtual 276, 3) := by decide +kernel
theorem dX12_number_42 : decode cX12_number 42 = .ok (.ifCond .ne 5, 3) := by decide +kernel
theorem dX12_number_45 : decode cX12_number 45 = .ok (.iload_n 1, 1) := by decide +kernel
theorem dX12_number_46 : decode cX12_number 46 = .ok (.ireturn, 1) := by decide +kernel
theorem dX12_number_47 : decode cX12_number 47 = .ok (.aload_n 0, 1) := by decide +kernel
theorem dX12_number_48 : decode cX12_number 48 = .ok (.getfield 255, 3) := by decide +kernel
theorem dX12_number_51 : decode cX12_number 51 = .ok (.istore_n 3, 1) := by decide +kernel
theorem dX12_number_52 : decode cX12_number 52 = .ok (.aload_n 0, 1) := by decide +kernel
theorem dX12_number_53 : decode cX12_number 53 = .ok (.invokevirtual 280, 3) := by decide +kernel
theorem dX12_number_56 : decode cX12_number 56 = .ok (.iload_n 3, 1) := by decide +kernel
theorem dX12_number_57 : decode cX12_number 57 = .ok (.ireturn, 1) := by decide +kernel
theorem dX12_symbolOf_0 : decode cX12_symbolOf 0 = .ok (.iconst 0, 1) := by decide +kernel
theorem dX12_symbolOf_1 : decode cX12_symbolOf 1 = .ok (.istore_n 2, 1) := by decide +kernel
theorem dX12_symbolOf_2 : decode cX12_symbolOf 2 = .ok (.iload_n 2, 1) := by decide +kernel
theorem dX12_symbolOf_3 : decode cX12_symbolOf 3 = .ok (.aload_n 0, 1) := by decide +kernel
theorem dX12_symbolOf_4 : decode cX12_symbolOf 4 = .ok (.getfield 287, 3) := by decide +kernel
theorem dX12_symbolOf_7 : decode cX12_symbolOf 7 = .ok (.if_icmp .ge 24, 3) := by decide +kernel
theorem dX12_symbolOf_10 : decode cX12_symbolOf 10 = .ok (.aload_n 0, 1) := by decide +kernel
theorem dX12_symbolOf_11 : decode cX12_symbolOf 11 = .ok (.getfield 22, 3) := by decide +kernel
theorem dX12_symbolOf_14 : decode cX12_symbolOf 14 = .ok (.bipush 10, 2) := by decide +kernel
theorem dX12_symbolOf_16 : decode cX12_symbolOf 16 = .ok (.iload_n 2, 1) := by decide +kernel
theorem dX12_symbolOf_17 : decode cX12_symbolOf 17 = .ok (.iadd, 1) := by decide +kernel
theorem dX12_symbolOf_18 : decode cX12_symbolOf 18 = .ok (.iaload, 1) := by decide +kernel
theorem dX12_symbolOf_19 : decode cX12_symbolOf 19 = .ok (.iload_n 1, 1) := by decide +kernel
theorem dX12_symbolOf_20 : decode cX12_symbolOf 20 = .ok (.if_icmp .ne 5, 3) := by decide +kernel
theorem dX12_symbolOf_23 : decode cX12_symbolOf 23 = .ok (.iload_n 2, 1) := by decide +kernel
theorem dX12_symbolOf_24 : decode cX12_symbolOf 24 = .ok (.ireturn, 1) := by decide +kernel
theorem dX12_symbolOf_25 : decode cX12_symbolOf 25 = .ok (.iinc 2 1, 3) := by decide +kernel
theorem dX12_symbolOf_28 : decode cX12_symbolOf 28 = .ok (.goto (-26), 3) := by decide +kernel
theorem dX12_symbolOf_31 : decode cX12_symbolOf 31 = .ok (.iconst (-1), 1) := by decide +kernel
theorem dX12_symbolOf_32 : decode cX12_symbolOf 32 = .ok (.ireturn, 1) := by decide +kernel
theorem dX12_term1_0 : decode cX12_term1 0 = .ok (.aload_n 0, 1) := by decide +kernel
theorem dX12_term1_1 : decode cX12_term1 1 = .ok (.getfield 273, 3) := by decide +kernel
theorem dX12_term1_4 : decode cX12_term1 4 = .ok (.ifCond .ne 33, 3) := by decide +kernel
theorem dX12_term1_7 : decode cX12_term1 7 = .ok (.aload_n 0, 1) := by decide +kernel
theorem dX12_term1_8 : decode cX12_term1 8 = .ok (.aload_n 0, 1) := by decide +kernel
theorem dX12_term1_9 : decode cX12_term1 9 = .ok (.getfield 261, 3) := by decide +kernel
theorem dX12_term1_12 : decode cX12_term1 12 = .ok (.iconst 1, 1) := by decide +kernel
theorem dX12_term1_13 : decode cX12_term1 13 = .ok (.if_icmp .eq 12, 3) := by decide +kernel
theorem dX12_term1_16 : decode cX12_term1 16 = .ok (.aload_n 0, 1) := by decide +kernel
theorem dX12_term1_17 : decode cX12_term1 17 = .ok (.getfield 258, 3) := by decide +kernel
theorem dX12_term1_20 : decode cX12_term1 20 = .ok (.bipush 63, 2) := by decide +kernel
theorem dX12_term1_22 : decode cX12_term1 22 = .ok (.if_icmp .ne 7, 3) := by decide +kernel
theorem dX12_term1_25 : decode cX12_term1 25 = .ok (.iconst 1, 1) := by decide +kernel
theorem dX12_term1_26 : decode cX12_term1 26 = .ok (.goto 4, 3) := by decide +kernel
theorem dX12_term1_29 : decode cX12_term1 29 = .ok (.iconst 0, 1) := by decide +kernel
theorem dX12_term1_30 : decode cX12_term1 30 = .ok (.iconst 1, 1) := by decide +kernel
theorem dX12_term1_31 : decode cX12_term1 31 = .ok (.invokevirtual 276, 3) := by decide +kernel
theorem dX12_term1_34 : decode cX12_term1 34 = .ok (.ifCond .ne 5, 3) := by decide +kernel
theorem dX12_term1_37 : decode cX12_term1 37 = .ok (.iconst 0, 1) := by decide +kernel
theorem dX12_term1_38 : decode cX12_term1 38 = .ok (.ireturn, 1) := by decide +kernel
theorem dX12_term1_39 : decode cX12_term1 39 = .ok (.aload_n 0, 1) := by decide +kernel
theorem dX12_term1_40 : decode cX12_term1 40 = .ok (.getfield 258, 3) := by decide +kernel
theorem dX12_term1_43 : decode cX12_term1 43 = .ok (.bipush 63, 2) := by decide +kernel
theorem dX12_term1_45 : decode cX12_term1 45 = .ok (.if_icmp .ne 53, 3) := by decide +kernel
theorem dX12_term1_48 : decode cX12_term1 48 = .ok (.aload_n 0, 1) := by decide +kernel
theorem dX12_term1_49 : decode cX12_term1 49 = .ok (.iload_n 1, 1) := by decide +kernel
theorem dX12_term1_50 : decode cX12_term1 50 = .ok (.bipush 6, 2) := by decide +kernel
theorem dX12_term1_52 : decode cX12_term1 52 = .ok (.if_icmp .gt 7, 3) := by decide +kernel
theorem dX12_term1_55 : decode cX12_term1 55 = .ok (.iconst 1, 1) := by decide +kernel
theorem dX12_term1_56 : decode cX12_term1 56 = .ok (.goto 4, 3) := by decide +kernel
theorem dX12_term1_59 : decode cX12_term1 59 = .ok (.iconst 0, 1) := by decide +kernel
theorem dX12_term1_60 : decode cX12_term1 60 = .ok (.iconst 2, 1) := by decide +kernel
theorem dX12_term1_61 : decode cX12_term1 61 = .ok (.invokevirtual 276, 3) := by decide +kernel
theorem dX12_term1_64 : decode cX12_term1 64 = .ok (.ifCond .ne 5, 3) := by decide +kernel
theorem dX12_term1_67 : decode cX12_term1 67 = .ok (.iconst 0, 1) := by decide +kernel
theorem dX12_term1_68 : decode cX12_term1 68 = .ok (.ireturn, 1) := by decide +kernel
theorem dX12_term1_69 : decode cX12_term1 69 = .ok (.aload_n 0, 1) := by decide +kernel
theorem dX12_term1_70 : decode cX12_term1 70 = .ok (.invokevirtual 280, 3) := by decide +kernel
theorem dX12_term1_73 : decode cX12_term1 73 = .ok (.aload_n 0, 1) := by decide +kernel
theorem dX12_term1_74 : decode cX12_term1 74 = .ok (.iconst 0, 1) := by decide +kernel
theorem dX12_term1_75 : decode cX12_term1 75 = .ok (.bipush 7, 2) := by decide +kernel
theorem dX12_term1_77 : decode cX12_term1 77 = .ok (.invokevirtual 290, 3) := by decide +kernel
theorem dX12_term1_80 : decode cX12_term1 80 = .ok (.istore_n 2, 1) := by decide +kernel
theorem dX12_term1_81 : decode cX12_term1 81 = .ok (.aload_n 0, 1) := by decide +kernel
theorem dX12_term1_82 : decode cX12_term1 82 = .ok (.getfield 273, 3) := by decide +kernel
theorem dX12_term1_85 : decode cX12_term1 85 = .ok (.ifCond .ne 11, 3) := by decide +kernel
theorem dX12_term1_88 : decode cX12_term1 88 = .ok (.aload_n 0, 1) := by decide +kernel
theorem dX12_term1_89 : decode cX12_term1 89 = .ok (.iload_n 2, 1) := by decide +kernel
theorem dX12_term1_90 : decode cX12_term1 90 = .ok (.invokevirtual 180, 3) := by decide +kernel
theorem dX12_term1_93 : decode cX12_term1 93 = .ok (.goto 4, 3) := by decide +kernel
theorem dX12_term1_96 : decode cX12_term1 96 = .ok (.iconst 0, 1) := by decide +kernel
theorem dX12_term1_97 : decode cX12_term1 97 = .ok (.ireturn, 1) := by decide +kernel
theorem dX12_term1_98 : decode cX12_term1 98 = .ok (.aload_n 0, 1) := by decide +kernel
theorem dX12_term1_99 : decode cX12_term1 99 = .ok (.aload_n 0, 1) := by decide +kernel
theorem dX12_term1_100 : decode cX12_term1 100 = .ok (.aload_n 0, 1) := by decide +kernel
theorem dX12_term1_101 : decode cX12_term1 101 = .ok (.getfield 246, 3) := by decide +kernel
theorem dX12_term1_104 : decode cX12_term1 104 = .ok (.invokevirtual 240, 3) := by decide +kernel
theorem dX12_term1_107 : decode cX12_term1 107 = .ok (.invokevirtual 293, 3) := by decide +kernel
theorem dX12_term1_110 : decode cX12_term1 110 = .ok (.istore_n 2, 1) := by decide +kernel
theorem dX12_term1_111 : decode cX12_term1 111 = .ok (.aload_n 0, 1) := by decide +kernel
theorem dX12_term1_112 : decode cX12_term1 112 = .ok (.aload_n 0, 1) := by decide +kernel
theorem dX12_term1_113 : decode cX12_term1 113 = .ok (.getfield 252, 3) := by decide +kernel
theorem dX12_term1_116 : decode cX12_term1 116 = .ok (.iconst 1, 1) := by decide +kernel
theorem dX12_term1_117 : decode cX12_term1 117 = .ok (.if_icmp .ne 13, 3) := by decide +kernel
theorem dX12_term1_120 : decode cX12_term1 120 = .ok (.iload_n 1, 1) := by decide +kernel
theorem dX12_term1_121 : decode cX12_term1 121 = .ok (.bipush 6, 2) := by decide +kernel
theorem dX12_term1_123 : decode cX12_term1 123 = .ok (.if_icmp .gt 7, 3) := by decide +kernel
theorem dX12_term1_126 : decode cX12_term1 126 = .ok (.iconst 1, 1) := by decide +kernel
theorem dX12_term1_127 : decode cX12_term1 127 = .ok (.goto 4, 3) := by decide +kernel
theorem dX12_term1_130 : decode cX12_term1 130 = .ok (.iconst 0, 1) := by decide +kernel
theorem dX12_term1_131 : decode cX12_term1 131 = .ok (.iconst 2, 1) := by decide +kernel
theorem dX12_term1_132 : decode cX12_term1 132 = .ok (.invokevirtual 276, 3) := by decide +kernel
theorem dX12_term1_135 : decode cX12_term1 135 = .ok (.ifCond .eq 21, 3) := by decide +kernel
theorem dX12_term1_138 : decode cX12_term1 138 = .ok (.aload_n 0, 1) := by decide +kernel
theorem dX12_term1_139 : decode cX12_term1 139 = .ok (.iload_n 2, 1) := by decide +kernel
theorem dX12_term1_140 : decode cX12_term1 140 = .ok (.iconst (-1), 1) := by decide +kernel
theorem dX12_term1_141 : decode cX12_term1 141 = .ok (.if_icmp .eq 7, 3) := by decide +kernel
theorem dX12_term1_144 : decode cX12_term1 144 = .ok (.iconst 1, 1) := by decide +kernel
theorem dX12_term1_145 : decode cX12_term1 145 = .ok (.goto 4, 3) := by decide +kernel
theorem dX12_term1_148 : decode cX12_term1 148 = .ok (.iconst 0, 1) := by decide +kernel
theorem dX12_term1_149 : decode cX12_term1 149 = .ok (.iconst 3, 1) := by decide +kernel
theorem dX12_term1_150 : decode cX12_term1 150 = .ok (.invokevirtual 276, 3) := by decide +kernel
theorem dX12_term1_153 : decode cX12_term1 153 = .ok (.ifCond .ne 5, 3) := by decide +kernel
theorem dX12_term1_156 : decode cX12_term1 156 = .ok (.iconst 0, 1) := by decide +kernel
theorem dX12_term1_157 : decode cX12_term1 157 = .ok (.ireturn, 1) := by decide +kernel
theorem dX12_term1_158 : decode cX12_term1 158 = .ok (.aload_n 0, 1) := by decide +kernel
theorem dX12_term1_159 : decode cX12_term1 159 = .ok (.invokevirtual 280, 3) := by decide +kernel
theorem dX12_term1_162 : decode cX12_term1 162 = .ok (.aload_n 0, 1) := by decide +kernel
theorem dX12_term1_163 : decode cX12_term1 163 = .ok (.getfield 25, 3) := by decide +kernel
theorem dX12_term1_166 : decode cX12_term1 166 = .ok (.bipush 10, 2) := by decide +kernel
theorem dX12_term1_168 : decode cX12_term1 168 = .ok (.iload_n 2, 1) := by decide +kernel
theorem dX12_term1_169 : decode cX12_term1 169 = .ok (.iadd, 1) := by decide +kernel
theorem dX12_term1_170 : decode cX12_term1 170 = .ok (.iaload, 1) := by decide +kernel
theorem dX12_term1_171 : decode cX12_term1 171 = .ok (.istore_n 3, 1) := by decide +kernel
theorem dX12_term1_172 : decode cX12_term1 172 = .ok (.iconst 0, 1) := by decide +kernel
theorem dX12_term1_173 : decode cX12_term1 173 = .ok (.istore 4, 2) := by decide +kernel
theorem dX12_term1_175 : decode cX12_term1 175 = .ok (.iconst 0, 1) := by decide +kernel
theorem dX12_term1_176 : decode cX12_term1 176 = .ok (.istore 5, 2) := by decide +kernel
theorem dX12_term1_178 : decode cX12_term1 178 = .ok (.iconst 0, 1) := by decide +kernel
theorem dX12_term1_179 : decode cX12_term1 179 = .ok (.istore 6, 2) := by decide +kernel
theorem dX12_term1_181 : decode cX12_term1 181 = .ok (.iload_n 3, 1) := by decide +kernel
theorem dX12_term1_182 : decode cX12_term1 182 = .ok (.ifCond .le 82, 3) := by decide +kernel
theorem dX12_term1_185 : decode cX12_term1 185 = .ok (.aload_n 0, 1) := by decide +kernel
theorem dX12_term1_186 : decode cX12_term1 186 = .ok (.bipush 40, 2) := by decide +kernel
theorem dX12_term1_188 : decode cX12_term1 188 = .ok (.invokevirtual 296, 3) := by decide +kernel
theorem dX12_term1_191 : decode cX12_term1 191 = .ok (.aload_n 0, 1) := by decide +kernel
theorem dX12_term1_192 : decode cX12_term1 192 = .ok (.iload_n 1, 1) := by decide +kernel
theorem dX12_term1_193 : decode cX12_term1 193 = .ok (.iconst 1, 1) := by decide +kernel
theorem dX12_term1_194 : decode cX12_term1 194 = .ok (.iadd, 1) := by decide +kernel
theorem dX12_term1_195 : decode cX12_term1 195 = .ok (.invokevirtual 298, 3) := by decide +kernel
theorem dX12_term1_198 : decode cX12_term1 198 = .ok (.istore 4, 2) := by decide +kernel
theorem dX12_term1_200 : decode cX12_term1 200 = .ok (.iload_n 3, 1) := by decide +kernel
theorem dX12_term1_201 : decode cX12_term1 201 = .ok (.iconst 1, 1) := by decide +kernel
theorem dX12_term1_202 : decode cX12_term1 202 = .ok (.if_icmp .le 9, 3) := by decide +kernel
theorem dX12_term1_205 : decode cX12_term1 205 = .ok (.aload_n 0, 1) := by decide +kernel
theorem dX12_term1_206 : decode cX12_term1 206 = .ok (.bipush 44, 2) := by decide +kernel
theorem dX12_term1_208 : decode cX12_term1 208 = .ok (.invokevirtual 296, 3) := by decide +kernel
theorem dX12_term1_211 : decode cX12_term1 211 = .ok (.iload_n 3, 1) := by decide +kernel
end
section
theorem dX12_term1_212 : decode cX12_term1 212 = .ok (.iconst 1, 1) := by decide +kernel
theorem dX12_term1_213 : decode cX12_term1 213 = .ok (.if_icmp .le 13, 3) := by decide +kernel
theorem dX12_term1_216 : decode cX12_term1 216 = .ok (.aload_n 0, 1) := by decide +kernel
theorem dX12_term1_217 : decode cX12_term1 217 = .ok (.iload_n 1, 1) := by decide +kernel
theorem dX12_term1_218 : decode cX12_term1 218 = .ok (.iconst 1, 1) := by decide +kernel
theorem dX12_term1_219 : decode cX12_term1 219 = .ok (.iadd, 1) := by decide +kernel
theorem dX12_term1_220 : decode cX12_term1 220 = .ok (.invokevirtual 298, 3) := by decide +kernel
theorem dX12_term1_223 : decode cX12_term1 223 = .ok (.goto 4, 3) := by decide +kernel
theorem dX12_term1_226 : decode cX12_term1 226 = .ok (.iconst 0, 1) := by decide +kernel
theorem dX12_term1_227 : decode cX12_term1 227 = .ok (.istore 5, 2) := by decide +kernel
theorem dX12_term1_229 : decode cX12_term1 229 = .ok (.iload_n 3, 1) := by decide +kernel
theorem dX12_term1_230 : decode cX12_term1 230 = .ok (.iconst 2, 1) := by decide +kernel
theorem dX12_term1_231 : decode cX12_term1 231 = .ok (.if_icmp .le 9, 3) := by decide +kernel
theorem dX12_term1_234 : decode cX12_term1 234 = .ok (.aload_n 0, 1) := by decide +kernel
theorem dX12_term1_235 : decode cX12_term1 235 = .ok (.bipush 44, 2) := by decide +kernel
theorem dX12_term1_237 : decode cX12_term1 237 = .ok (.invokevirtual 296, 3) := by decide +kernel
theorem dX12_term1_240 : decode cX12_term1 240 = .ok (.iload_n 3, 1) := by decide +kernel
theorem dX12_term1_241 : decode cX12_term1 241 = .ok (.iconst 2, 1) := by decide +kernel
theorem dX12_term1_242 : decode cX12_term1 242 = .ok (.if_icmp .le 13, 3) := by decide +kernel
theorem dX12_term1_245 : decode cX12_term1 245 = .ok (.aload_n 0, 1) := by decide +kernel
theorem dX12_term1_246 : decode cX12_term1 246 = .ok (.iload_n 1, 1) := by decide +kernel
theorem dX12_term1_247 : decode cX12_term1 247 = .ok (.iconst 1, 1) := by decide +kernel
theorem dX12_term1_248 : decode cX12_term1 248 = .ok (.iadd, 1) := by decide +kernel
theorem dX12_term1_249 : decode cX12_term1 249 = .ok (.invokevirtual 298, 3) := by decide +kernel
theorem dX12_term1_252 : decode cX12_term1 252 = .ok (.goto 4, 3) := by decide +kernel
theorem dX12_term1_255 : decode cX12_term1 255 = .ok (.iconst 0, 1) := by decide +kernel
theorem dX12_term1_256 : decode cX12_term1 256 = .ok (.istore 6, 2) := by decide +kernel
theorem dX12_term1_258 : decode cX12_term1 258 = .ok (.aload_n 0, 1) := by decide +kernel
theorem dX12_term1_259 : decode cX12_term1 259 = .ok (.bipush 41, 2) := by decide +kernel
theorem dX12_term1_261 : decode cX12_term1 261 = .ok (.invokevirtual 296, 3) := by decide +kernel
theorem dX12_term1_264 : decode cX12_term1 264 = .ok (.aload_n 0, 1) := by decide +kernel
theorem dX12_term1_265 : decode cX12_term1 265 = .ok (.getfield 273, 3) := by decide +kernel
theorem dX12_term1_268 : decode cX12_term1 268 = .ok (.ifCond .ne 17, 3) := by decide +kernel
theorem dX12_term1_271 : decode cX12_term1 271 = .ok (.aload_n 0, 1) := by decide +kernel
theorem dX12_term1_272 : decode cX12_term1 272 = .ok (.iload_n 2, 1) := by decide +kernel
theorem dX12_term1_273 : decode cX12_term1 273 = .ok (.iload 4, 2) := by decide +kernel
theorem dX12_term1_275 : decode cX12_term1 275 = .ok (.iload 5, 2) := by decide +kernel
theorem dX12_term1_277 : decode cX12_term1 277 = .ok (.iload 6, 2) := by decide +kernel
theorem dX12_term1_279 : decode cX12_term1 279 = .ok (.invokevirtual 107, 3) := by decide +kernel
theorem dX12_term1_282 : decode cX12_term1 282 = .ok (.goto 4, 3) := by decide +kernel
theorem dX12_term1_285 : decode cX12_term1 285 = .ok (.iconst 0, 1) := by decide +kernel
theorem dX12_term1_286 : decode cX12_term1 286 = .ok (.ireturn, 1) := by decide +kernel
theorem dX12_symbol1_0 : decode cX12_symbol1 0 = .ok (.aload_n 0, 1) := by decide +kernel
theorem dX12_symbol1_1 : decode cX12_symbol1 1 = .ok (.aload_n 0, 1) := by decide +kernel
theorem dX12_symbol1_2 : decode cX12_symbol1 2 = .ok (.getfield 287, 3) := by decide +kernel
theorem dX12_symbol1_5 : decode cX12_symbol1 5 = .ok (.bipush 10, 2) := by decide +kernel
theorem dX12_symbol1_7 : decode cX12_symbol1 7 = .ok (.if_icmp .ge 7, 3) := by decide +kernel
theorem dX12_symbol1_10 : decode cX12_symbol1 10 = .ok (.iconst 1, 1) := by decide +kernel
theorem dX12_symbol1_11 : decode cX12_symbol1 11 = .ok (.goto 4, 3) := by decide +kernel
theorem dX12_symbol1_14 : decode cX12_symbol1 14 = .ok (.iconst 0, 1) := by decide +kernel
theorem dX12_symbol1_15 : decode cX12_symbol1 15 = .ok (.iconst 2, 1) := by decide +kernel
theorem dX12_symbol1_16 : decode cX12_symbol1 16 = .ok (.invokevirtual 276, 3) := by decide +kernel
theorem dX12_symbol1_19 : decode cX12_symbol1 19 = .ok (.ifCond .ne 4, 3) := by decide +kernel
theorem dX12_symbol1_22 : decode cX12_symbol1 22 = .ok (.return_, 1) := by decide +kernel
theorem dX12_symbol1_23 : decode cX12_symbol1 23 = .ok (.aload_n 0, 1) := by decide +kernel
theorem dX12_symbol1_24 : decode cX12_symbol1 24 = .ok (.invokevirtual 280, 3) := by decide +kernel
theorem dX12_symbol1_27 : decode cX12_symbol1 27 = .ok (.aload_n 0, 1) := by decide +kernel
theorem dX12_symbol1_28 : decode cX12_symbol1 28 = .ok (.aload_n 0, 1) := by decide +kernel
theorem dX12_symbol1_29 : decode cX12_symbol1 29 = .ok (.getfield 261, 3) := by decide +kernel
theorem dX12_symbol1_32 : decode cX12_symbol1 32 = .ok (.iconst 1, 1) := by decide +kernel
theorem dX12_symbol1_33 : decode cX12_symbol1 33 = .ok (.if_icmp .ne 7, 3) := by decide +kernel
theorem dX12_symbol1_36 : decode cX12_symbol1 36 = .ok (.iconst 1, 1) := by decide +kernel
theorem dX12_symbol1_37 : decode cX12_symbol1 37 = .ok (.goto 4, 3) := by decide +kernel
theorem dX12_symbol1_40 : decode cX12_symbol1 40 = .ok (.iconst 0, 1) := by decide +kernel
theorem dX12_symbol1_41 : decode cX12_symbol1 41 = .ok (.iconst 1, 1) := by decide +kernel
theorem dX12_symbol1_42 : decode cX12_symbol1 42 = .ok (.invokevirtual 276, 3) := by decide +kernel
theorem dX12_symbol1_45 : decode cX12_symbol1 45 = .ok (.ifCond .eq 53, 3) := by decide +kernel
theorem dX12_symbol1_48 : decode cX12_symbol1 48 = .ok (.aload_n 0, 1) := by decide +kernel
theorem dX12_symbol1_49 : decode cX12_symbol1 49 = .ok (.aload_n 0, 1) := by decide +kernel
theorem dX12_symbol1_50 : decode cX12_symbol1 50 = .ok (.getfield 252, 3) := by decide +kernel
theorem dX12_symbol1_53 : decode cX12_symbol1 53 = .ok (.iconst 1, 1) := by decide +kernel
theorem dX12_symbol1_54 : decode cX12_symbol1 54 = .ok (.if_icmp .ne 7, 3) := by decide +kernel
theorem dX12_symbol1_57 : decode cX12_symbol1 57 = .ok (.iconst 1, 1) := by decide +kernel
theorem dX12_symbol1_58 : decode cX12_symbol1 58 = .ok (.goto 4, 3) := by decide +kernel
theorem dX12_symbol1_61 : decode cX12_symbol1 61 = .ok (.iconst 0, 1) := by decide +kernel
theorem dX12_symbol1_62 : decode cX12_symbol1 62 = .ok (.iconst 2, 1) := by decide +kernel
theorem dX12_symbol1_63 : decode cX12_symbol1 63 = .ok (.invokevirtual 276, 3) := by decide +kernel
theorem dX12_symbol1_66 : decode cX12_symbol1 66 = .ok (.ifCond .eq 32, 3) := by decide +kernel
theorem dX12_symbol1_69 : decode cX12_symbol1 69 = .ok (.aload_n 0, 1) := by decide +kernel
theorem dX12_symbol1_70 : decode cX12_symbol1 70 = .ok (.aload_n 0, 1) := by decide +kernel
theorem dX12_symbol1_71 : decode cX12_symbol1 71 = .ok (.aload_n 0, 1) := by decide +kernel
theorem dX12_symbol1_72 : decode cX12_symbol1 72 = .ok (.aload_n 0, 1) := by decide +kernel
theorem dX12_symbol1_73 : decode cX12_symbol1 73 = .ok (.getfield 246, 3) := by decide +kernel
theorem dX12_symbol1_76 : decode cX12_symbol1 76 = .ok (.invokevirtual 240, 3) := by decide +kernel
theorem dX12_symbol1_79 : decode cX12_symbol1 79 = .ok (.invokevirtual 293, 3) := by decide +kernel
theorem dX12_symbol1_82 : decode cX12_symbol1 82 = .ok (.iconst (-1), 1) := by decide +kernel
theorem dX12_symbol1_83 : decode cX12_symbol1 83 = .ok (.if_icmp .ne 7, 3) := by decide +kernel
theorem dX12_symbol1_86 : decode cX12_symbol1 86 = .ok (.iconst 1, 1) := by decide +kernel
theorem dX12_symbol1_87 : decode cX12_symbol1 87 = .ok (.goto 4, 3) := by decide +kernel
theorem dX12_symbol1_90 : decode cX12_symbol1 90 = .ok (.iconst 0, 1) := by decide +kernel
theorem dX12_symbol1_91 : decode cX12_symbol1 91 = .ok (.iconst 4, 1) := by decide +kernel
theorem dX12_symbol1_92 : decode cX12_symbol1 92 = .ok (.invokevirtual 276, 3) := by decide +kernel
theorem dX12_symbol1_95 : decode cX12_symbol1 95 = .ok (.ifCond .ne 4, 3) := by decide +kernel
theorem dX12_symbol1_98 : decode cX12_symbol1 98 = .ok (.return_, 1) := by decide +kernel
theorem dX12_symbol1_99 : decode cX12_symbol1 99 = .ok (.aload_n 0, 1) := by decide +kernel
theorem dX12_symbol1_100 : decode cX12_symbol1 100 = .ok (.aload_n 0, 1) := by decide +kernel
theorem dX12_symbol1_101 : decode cX12_symbol1 101 = .ok (.getfield 246, 3) := by decide +kernel
theorem dX12_symbol1_104 : decode cX12_symbol1 104 = .ok (.invokevirtual 240, 3) := by decide +kernel
theorem dX12_symbol1_107 : decode cX12_symbol1 107 = .ok (.istore_n 1, 1) := by decide +kernel
theorem dX12_symbol1_108 : decode cX12_symbol1 108 = .ok (.aload_n 0, 1) := by decide +kernel
theorem dX12_symbol1_109 : decode cX12_symbol1 109 = .ok (.invokevirtual 280, 3) := by decide +kernel
theorem dX12_symbol1_112 : decode cX12_symbol1 112 = .ok (.aload_n 0, 1) := by decide +kernel
theorem dX12_symbol1_113 : decode cX12_symbol1 113 = .ok (.iconst 0, 1) := by decide +kernel
theorem dX12_symbol1_114 : decode cX12_symbol1 114 = .ok (.iconst 3, 1) := by decide +kernel
theorem dX12_symbol1_115 : decode cX12_symbol1 115 = .ok (.invokevirtual 290, 3) := by decide +kernel
theorem dX12_symbol1_118 : decode cX12_symbol1 118 = .ok (.istore_n 2, 1) := by decide +kernel
theorem dX12_symbol1_119 : decode cX12_symbol1 119 = .ok (.aload_n 0, 1) := by decide +kernel
theorem dX12_symbol1_120 : decode cX12_symbol1 120 = .ok (.iconst 1, 1) := by decide +kernel
theorem dX12_symbol1_121 : decode cX12_symbol1 121 = .ok (.bipush 9, 2) := by decide +kernel
theorem dX12_symbol1_123 : decode cX12_symbol1 123 = .ok (.invokevirtual 290, 3) := by decide +kernel
theorem dX12_symbol1_126 : decode cX12_symbol1 126 = .ok (.istore_n 3, 1) := by decide +kernel
theorem dX12_symbol1_127 : decode cX12_symbol1 127 = .ok (.aload_n 0, 1) := by decide +kernel
theorem dX12_symbol1_128 : decode cX12_symbol1 128 = .ok (.getfield 22, 3) := by decide +kernel
theorem dX12_symbol1_131 : decode cX12_symbol1 131 = .ok (.bipush 10, 2) := by decide +kernel
theorem dX12_symbol1_133 : decode cX12_symbol1 133 = .ok (.aload_n 0, 1) := by decide +kernel
theorem dX12_symbol1_134 : decode cX12_symbol1 134 = .ok (.getfield 287, 3) := by decide +kernel
theorem dX12_symbol1_137 : decode cX12_symbol1 137 = .ok (.iadd, 1) := by decide +kernel
theorem dX12_symbol1_138 : decode cX12_symbol1 138 = .ok (.iload_n 1, 1) := by decide +kernel
theorem dX12_symbol1_139 : decode cX12_symbol1 139 = .ok (.iastore, 1) := by decide +kernel
theorem dX12_symbol1_140 : decode cX12_symbol1 140 = .ok (.aload_n 0, 1) := by decide +kernel
theorem dX12_symbol1_141 : decode cX12_symbol1 141 = .ok (.getfield 25, 3) := by decide +kernel
theorem dX12_symbol1_144 : decode cX12_symbol1 144 = .ok (.bipush 10, 2) := by decide +kernel
theorem dX12_symbol1_146 : decode cX12_symbol1 146 = .ok (.aload_n 0, 1) := by decide +kernel
theorem dX12_symbol1_147 : decode cX12_symbol1 147 = .ok (.getfield 287, 3) := by decide +kernel
theorem dX12_symbol1_150 : decode cX12_symbol1 150 = .ok (.iadd, 1) := by decide +kernel
theorem dX12_symbol1_151 : decode cX12_symbol1 151 = .ok (.iload_n 2, 1) := by decide +kernel
theorem dX12_symbol1_152 : decode cX12_symbol1 152 = .ok (.iastore, 1) := by decide +kernel
theorem dX12_symbol1_153 : decode cX12_symbol1 153 = .ok (.aload_n 0, 1) := by decide +kernel
theorem dX12_symbol1_154 : decode cX12_symbol1 154 = .ok (.getfield 28, 3) := by decide +kernel
theorem dX12_symbol1_157 : decode cX12_symbol1 157 = .ok (.bipush 10, 2) := by decide +kernel
theorem dX12_symbol1_159 : decode cX12_symbol1 159 = .ok (.aload_n 0, 1) := by decide +kernel
theorem dX12_symbol1_160 : decode cX12_symbol1 160 = .ok (.getfield 287, 3) := by decide +kernel
theorem dX12_symbol1_163 : decode cX12_symbol1 163 = .ok (.iadd, 1) := by decide +kernel
theorem dX12_symbol1_164 : decode cX12_symbol1 164 = .ok (.iload_n 3, 1) := by decide +kernel
theorem dX12_symbol1_165 : decode cX12_symbol1 165 = .ok (.iastore, 1) := by decide +kernel
theorem dX12_symbol1_166 : decode cX12_symbol1 166 = .ok (.aload_n 0, 1) := by decide +kernel
theorem dX12_symbol1_167 : decode cX12_symbol1 167 = .ok (.dup, 1) := by decide +kernel
theorem dX12_symbol1_168 : decode cX12_symbol1 168 = .ok (.getfield 287, 3) := by decide +kernel
theorem dX12_symbol1_171 : decode cX12_symbol1 171 = .ok (.iconst 1, 1) := by decide +kernel
theorem dX12_symbol1_172 : decode cX12_symbol1 172 = .ok (.iadd, 1) := by decide +kernel
theorem dX12_symbol1_173 : decode cX12_symbol1 173 = .ok (.putfield 287, 3) := by decide +kernel
theorem dX12_symbol1_176 : decode cX12_symbol1 176 = .ok (.return_, 1) := by decide +kernel
theorem dX12_rule1_0 : decode cX12_rule1 0 = .ok (.aload_n 0, 1) := by decide +kernel
theorem dX12_rule1_1 : decode cX12_rule1 1 = .ok (.aload_n 0, 1) := by decide +kernel
theorem dX12_rule1_2 : decode cX12_rule1 2 = .ok (.getfield 9, 3) := by decide +kernel
theorem dX12_rule1_5 : decode cX12_rule1 5 = .ok (.sipush 135, 3) := by decide +kernel
theorem dX12_rule1_8 : decode cX12_rule1 8 = .ok (.iaload, 1) := by decide +kernel
theorem dX12_rule1_9 : decode cX12_rule1 9 = .ok (.bipush 8, 2) := by decide +kernel
theorem dX12_rule1_11 : decode cX12_rule1 11 = .ok (.if_icmp .ge 7, 3) := by decide +kernel
theorem dX12_rule1_14 : decode cX12_rule1 14 = .ok (.iconst 1, 1) := by decide +kernel
theorem dX12_rule1_15 : decode cX12_rule1 15 = .ok (.goto 4, 3) := by decide +kernel
theorem dX12_rule1_18 : decode cX12_rule1 18 = .ok (.iconst 0, 1) := by decide +kernel
theorem dX12_rule1_19 : decode cX12_rule1 19 = .ok (.iconst 2, 1) := by decide +kernel
theorem dX12_rule1_20 : decode cX12_rule1 20 = .ok (.invokevirtual 276, 3) := by decide +kernel
theorem dX12_rule1_23 : decode cX12_rule1 23 = .ok (.ifCond .ne 4, 3) := by decide +kernel
theorem dX12_rule1_26 : decode cX12_rule1 26 = .ok (.return_, 1) := by decide +kernel
theorem dX12_rule1_27 : decode cX12_rule1 27 = .ok (.aload_n 0, 1) := by decide +kernel
theorem dX12_rule1_28 : decode cX12_rule1 28 = .ok (.invokevirtual 280, 3) := by decide +kernel
theorem dX12_rule1_31 : decode cX12_rule1 31 = .ok (.aload_n 0, 1) := by decide +kernel
theorem dX12_rule1_32 : decode cX12_rule1 32 = .ok (.iconst 1, 1) := by decide +kernel
theorem dX12_rule1_33 : decode cX12_rule1 33 = .ok (.invokevirtual 298, 3) := by decide +kernel
theorem dX12_rule1_36 : decode cX12_rule1 36 = .ok (.istore_n 1, 1) := by decide +kernel
theorem dX12_rule1_37 : decode cX12_rule1 37 = .ok (.aload_n 0, 1) := by decide +kernel
theorem dX12_rule1_38 : decode cX12_rule1 38 = .ok (.getfield 273, 3) := by decide +kernel
theorem dX12_rule1_41 : decode cX12_rule1 41 = .ok (.ifCond .ne 28, 3) := by decide +kernel
theorem dX12_rule1_44 : decode cX12_rule1 44 = .ok (.aload_n 0, 1) := by decide +kernel
theorem dX12_rule1_45 : decode cX12_rule1 45 = .ok (.aload_n 0, 1) := by decide +kernel
theorem dX12_rule1_46 : decode cX12_rule1 46 = .ok (.getfield 249, 3) := by decide +kernel
theorem dX12_rule1_49 : decode cX12_rule1 49 = .ok (.iconst 5, 1) := by decide +kernel
theorem dX12_rule1_50 : decode cX12_rule1 50 = .ok (.if_icmp .ne 7, 3) := by decide +kernel
theorem dX12_rule1_53 : decode cX12_rule1 53 = .ok (.iconst 1, 1) := by decide +kernel
theorem dX12_rule1_54 : decode cX12_rule1 54 = .ok (.goto 4, 3) := by decide +kernel
theorem dX12_rule1_57 : decode cX12_rule1 57 = .ok (.iconst 0, 1) := by decide +kernel
theorem dX12_rule1_58 : decode cX12_rule1 58 = .ok (.iconst 1, 1) := by decide +kernel
theorem dX12_rule1_59 : decode cX12_rule1 59 = .ok (.invokevirtual 276, 3) := by decide +kernel
theorem dX12_rule1_62 : decode cX12_rule1 62 = .ok (.ifCond .eq 7, 3) := by decide +kernel
theorem dX12_rule1_65 : decode cX12_rule1 65 = .ok (.aload_n 0, 1) := by decide +kernel
theorem dX12_rule1_66 : decode cX12_rule1 66 = .ok (.invokevirtual 280, 3) := by decide +kernel
theorem dX12_rule1_69 : decode cX12_rule1 69 = .ok (.aload_n 0, 1) := by decide +kernel
theorem dX12_rule1_70 : decode cX12_rule1 70 = .ok (.iconst 1, 1) := by decide +kernel
theorem dX12_rule1_71 : decode cX12_rule1 71 = .ok (.invokevirtual 298, 3) := by decide +kernel
theorem dX12_rule1_74 : decode cX12_rule1 74 = .ok (.istore_n 2, 1) := by decide +kernel
theorem dX12_rule1_75 : decode cX12_rule1 75 = .ok (.aload_n 0, 1) := by decide +kernel
theorem dX12_rule1_76 : decode cX12_rule1 76 = .ok (.getfield 273, 3) := by decide +kernel
theorem dX12_rule1_79 : decode cX12_rule1 79 = .ok (.ifCond .ne 39, 3) := by decide +kernel
theorem dX12_rule1_82 : decode cX12_rule1 82 = .ok (.aload_n 0, 1) := by decide +kernel
theorem dX12_rule1_83 : decode cX12_rule1 83 = .ok (.aload_n 0, 1) := by decide +kernel
theorem dX12_rule1_84 : decode cX12_rule1 84 = .ok (.getfield 258, 3) := by decide +kernel
theorem dX12_rule1_87 : decode cX12_rule1 87 = .ok (.bipush 59, 2) := by decide +kernel
theorem dX12_rule1_89 : decode cX12_rule1 89 = .ok (.if_icmp .ne 7, 3) := by decide +kernel
theorem dX12_rule1_92 : decode cX12_rule1 92 = .ok (.iconst 1, 1) := by decide +kernel
theorem dX12_rule1_93 : decode cX12_rule1 93 = .ok (.goto 4, 3) := by decide +kernel
theorem dX12_rule1_96 : decode cX12_rule1 96 = .ok (.iconst 0, 1) := by decide +kernel
theorem dX12_rule1_97 : decode cX12_rule1 97 = .ok (.iconst 1, 1) := by decide +kernel
theorem dX12_rule1_98 : decode cX12_rule1 98 = .ok (.invokevirtual 276, 3) := by decide +kernel
theorem dX12_rule1_101 : decode cX12_rule1 101 = .ok (.ifCond .eq 17, 3) := by decide +kernel
theorem dX12_rule1_104 : decode cX12_rule1 104 = .ok (.aload_n 0, 1) := by decide +kernel
theorem dX12_rule1_105 : decode cX12_rule1 105 = .ok (.aload_n 0, 1) := by decide +kernel
theorem dX12_rule1_106 : decode cX12_rule1 106 = .ok (.iload_n 1, 1) := by decide +kernel
theorem dX12_rule1_107 : decode cX12_rule1 107 = .ok (.iload_n 2, 1) := by decide +kernel
theorem dX12_rule1_108 : decode cX12_rule1 108 = .ok (.invokevirtual 301, 3) := by decide +kernel
theorem dX12_rule1_111 : decode cX12_rule1 111 = .ok (.iconst 5, 1) := by decide +kernel
theorem dX12_rule1_112 : decode cX12_rule1 112 = .ok (.invokevirtual 276, 3) := by decide +kernel
theorem dX12_rule1_115 : decode cX12_rule1 115 = .ok (.ifCond .ne 4, 3) := by decide +kernel
theorem dX12_rule1_118 : decode cX12_rule1 118 = .ok (.return_, 1) := by decide +kernel
theorem dX12_rule1_119 : decode cX12_rule1 119 = .ok (.aload_n 0, 1) := by decide +kernel
theorem dX12_rule1_120 : decode cX12_rule1 120 = .ok (.iload_n 1, 1) := by decide +kernel
theorem dX12_rule1_121 : decode cX12_rule1 121 = .ok (.iload_n 2, 1) := by decide +kernel
theorem dX12_rule1_122 : decode cX12_rule1 122 = .ok (.invokevirtual 304, 3) := by decide +kernel
theorem dX12_rule1_125 : decode cX12_rule1 125 = .ok (.return_, 1) := by decide +kernel
theorem dX12_rules1_0 : decode cX12_rules1 0 = .ok (.aload_n 0, 1) := by decide +kernel
theorem dX12_rules1_1 : decode cX12_rules1 1 = .ok (.getfield 9, 3) := by decide +kernel
theorem dX12_rules1_4 : decode cX12_rules1 4 = .ok (.aload_n 0, 1) := by decide +kernel
theorem dX12_rules1_5 : decode cX12_rules1 5 = .ok (.getfield 85, 3) := by decide +kernel
theorem dX12_rules1_8 : decode cX12_rules1 8 = .ok (.bipush 9, 2) := by decide +kernel
theorem dX12_rules1_10 : decode cX12_rules1 10 = .ok (.iadd, 1) := by decide +kernel
theorem dX12_rules1_11 : decode cX12_rules1 11 = .ok (.iaload, 1) := by decide +kernel
theorem dX12_rules1_12 : decode cX12_rules1 12 = .ok (.istore_n 3, 1) := by decide +kernel
theorem dX12_rules1_13 : decode cX12_rules1 13 = .ok (.aload_n 0, 1) := by decide +kernel
theorem dX12_rules1_14 : decode cX12_rules1 14 = .ok (.getfield 9, 3) := by decide +kernel
theorem dX12_rules1_17 : decode cX12_rules1 17 = .ok (.aload_n 0, 1) := by decide +kernel
theorem dX12_rules1_18 : decode cX12_rules1 18 = .ok (.getfield 85, 3) := by decide +kernel
theorem dX12_rules1_21 : decode cX12_rules1 21 = .ok (.bipush 10, 2) := by decide +kernel
theorem dX12_rules1_23 : decode cX12_rules1 23 = .ok (.iadd, 1) := by decide +kernel
theorem dX12_rules1_24 : decode cX12_rules1 24 = .ok (.iconst 2, 1) := by decide +kernel
theorem dX12_rules1_25 : decode cX12_rules1 25 = .ok (.iload_n 3, 1) := by decide +kernel
theorem dX12_rules1_26 : decode cX12_rules1 26 = .ok (.imul, 1) := by decide +kernel
theorem dX12_rules1_27 : decode cX12_rules1 27 = .ok (.iadd, 1) := by decide +kernel
theorem dX12_rules1_28 : decode cX12_rules1 28 = .ok (.iload_n 1, 1) := by decide +kernel
theorem dX12_rules1_29 : decode cX12_rules1 29 = .ok (.iastore, 1) := by decide +kernel
theorem dX12_rules1_30 : decode cX12_rules1 30 = .ok (.aload_n 0, 1) := by decide +kernel
theorem dX12_rules1_31 : decode cX12_rules1 31 = .ok (.getfield 9, 3) := by decide +kernel
theorem dX12_rules1_34 : decode cX12_rules1 34 = .ok (.aload_n 0, 1) := by decide +kernel
theorem dX12_rules1_35 : decode cX12_rules1 35 = .ok (.getfield 85, 3) := by decide +kernel
theorem dX12_rules1_38 : decode cX12_rules1 38 = .ok (.bipush 10, 2) := by decide +kernel
theorem dX12_rules1_40 : decode cX12_rules1 40 = .ok (.iadd, 1) := by decide +kernel
theorem dX12_rules1_41 : decode cX12_rules1 41 = .ok (.iconst 2, 1) := by decide +kernel
theorem dX12_rules1_42 : decode cX12_rules1 42 = .ok (.iload_n 3, 1) := by decide +kernel
theorem dX12_rules1_43 : decode cX12_rules1 43 = .ok (.imul, 1) := by decide +kernel
theorem dX12_rules1_44 : decode cX12_rules1 44 = .ok (.iadd, 1) := by decide +kernel
theorem dX12_rules1_45 : decode cX12_rules1 45 = .ok (.iconst 1, 1) := by decide +kernel
theorem dX12_rules1_46 : decode cX12_rules1 46 = .ok (.iadd, 1) := by decide +kernel
theorem dX12_rules1_47 : decode cX12_rules1 47 = .ok (.iload_n 2, 1) := by decide +kernel
theorem dX12_rules1_48 : decode cX12_rules1 48 = .ok (.iastore, 1) := by decide +kernel
theorem dX12_rules1_49 : decode cX12_rules1 49 = .ok (.aload_n 0, 1) := by decide +kernel
theorem dX12_rules1_50 : decode cX12_rules1 50 = .ok (.getfield 9, 3) := by decide +kernel
theorem dX12_rules1_53 : decode cX12_rules1 53 = .ok (.aload_n 0, 1) := by decide +kernel
theorem dX12_rules1_54 : decode cX12_rules1 54 = .ok (.getfield 85, 3) := by decide +kernel
theorem dX12_rules1_57 : decode cX12_rules1 57 = .ok (.bipush 9, 2) := by decide +kernel
theorem dX12_rules1_59 : decode cX12_rules1 59 = .ok (.iadd, 1) := by decide +kernel
theorem dX12_rules1_60 : decode cX12_rules1 60 = .ok (.dup2, 1) := by decide +kernel
theorem dX12_rules1_61 : decode cX12_rules1 61 = .ok (.iaload, 1) := by decide +kernel
theorem dX12_rules1_62 : decode cX12_rules1 62 = .ok (.iconst 1, 1) := by decide +kernel
theorem dX12_rules1_63 : decode cX12_rules1 63 = .ok (.iadd, 1) := by decide +kernel
theorem dX12_rules1_64 : decode cX12_rules1 64 = .ok (.iastore, 1) := by decide +kernel
theorem dX12_rules1_65 : decode cX12_rules1 65 = .ok (.return_, 1) := by decide +kernel
theorem dX12_entryOf_0 : decode cX12_entryOf 0 = .ok (.iconst 0, 1) := by decide +kernel
theorem dX12_entryOf_1 : decode cX12_entryOf 1 = .ok (.istore_n 2, 1) := by decide +kernel
theorem dX12_entryOf_2 : decode cX12_entryOf 2 = .ok (.iload_n 2, 1) := by decide +kernel
theorem dX12_entryOf_3 : decode cX12_entryOf 3 = .ok (.aload_n 0, 1) := by decide +kernel
theorem dX12_entryOf_4 : decode cX12_entryOf 4 = .ok (.getfield 9, 3) := by decide +kernel
theorem dX12_entryOf_7 : decode cX12_entryOf 7 = .ok (.aload_n 0, 1) := by decide +kernel
theorem dX12_entryOf_8 : decode cX12_entryOf 8 = .ok (.getfield 85, 3) := by decide +kernel
theorem dX12_entryOf_11 : decode cX12_entryOf 11 = .ok (.bipush 26, 2) := by decide +kernel
theorem dX12_entryOf_13 : decode cX12_entryOf 13 = .ok (.iadd, 1) := by decide +kernel
theorem dX12_entryOf_14 : decode cX12_entryOf 14 = .ok (.iaload, 1) := by decide +kernel
theorem dX12_entryOf_15 : decode cX12_entryOf 15 = .ok (.if_icmp .ge 29, 3) := by decide +kernel
theorem dX12_entryOf_18 : decode cX12_entryOf 18 = .ok (.aload_n 0, 1) := by decide +kernel
theorem dX12_entryOf_19 : decode cX12_entryOf 19 = .ok (.getfield 9, 3) := by decide +kernel
theorem dX12_entryOf_22 : decode cX12_entryOf 22 = .ok (.aload_n 0, 1) := by decide +kernel
theorem dX12_entryOf_23 : decode cX12_entryOf 23 = .ok (.getfield 85, 3) := by decide +kernel
theorem dX12_entryOf_26 : decode cX12_entryOf 26 = .ok (.bipush 27, 2) := by decide +kernel
theorem dX12_entryOf_28 : decode cX12_entryOf 28 = .ok (.iadd, 1) := by decide +kernel
theorem dX12_entryOf_29 : decode cX12_entryOf 29 = .ok (.iload_n 2, 1) := by decide +kernel
theorem dX12_entryOf_30 : decode cX12_entryOf 30 = .ok (.iadd, 1) := by decide +kernel
theorem dX12_entryOf_31 : decode cX12_entryOf 31 = .ok (.iaload, 1) := by decide +kernel
theorem dX12_entryOf_32 : decode cX12_entryOf 32 = .ok (.iload_n 1, 1) := by decide +kernel
theorem dX12_entryOf_33 : decode cX12_entryOf 33 = .ok (.if_icmp .ne 5, 3) := by decide +kernel
theorem dX12_entryOf_36 : decode cX12_entryOf 36 = .ok (.iload_n 2, 1) := by decide +kernel
theorem dX12_entryOf_37 : decode cX12_entryOf 37 = .ok (.ireturn, 1) := by decide +kernel
theorem dX12_entryOf_38 : decode cX12_entryOf 38 = .ok (.iinc 2 1, 3) := by decide +kernel
theorem dX12_entryOf_41 : decode cX12_entryOf 41 = .ok (.goto (-39), 3) := by decide +kernel
theorem dX12_entryOf_44 : decode cX12_entryOf 44 = .ok (.iconst (-1), 1) := by decide +kernel
theorem dX12_entryOf_45 : decode cX12_entryOf 45 = .ok (.ireturn, 1) := by decide +kernel
theorem dX12_enters1_0 : decode cX12_enters1 0 = .ok (.aload_n 0, 1) := by decide +kernel
theorem dX12_enters1_1 : decode cX12_enters1 1 = .ok (.getfield 9, 3) := by decide +kernel
theorem dX12_enters1_4 : decode cX12_enters1 4 = .ok (.aload_n 0, 1) := by decide +kernel
theorem dX12_enters1_5 : decode cX12_enters1 5 = .ok (.getfield 85, 3) := by decide +kernel
theorem dX12_enters1_8 : decode cX12_enters1 8 = .ok (.bipush 27, 2) := by decide +kernel
theorem dX12_enters1_10 : decode cX12_enters1 10 = .ok (.iadd, 1) := by decide +kernel
theorem dX12_enters1_11 : decode cX12_enters1 11 = .ok (.aload_n 0, 1) := by decide +kernel
theorem dX12_enters1_12 : decode cX12_enters1 12 = .ok (.getfield 9, 3) := by decide +kernel
theorem dX12_enters1_15 : decode cX12_enters1 15 = .ok (.aload_n 0, 1) := by decide +kernel
theorem dX12_enters1_16 : decode cX12_enters1 16 = .ok (.getfield 85, 3) := by decide +kernel
theorem dX12_enters1_19 : decode cX12_enters1 19 = .ok (.bipush 26, 2) := by decide +kernel
theorem dX12_enters1_21 : decode cX12_enters1 21 = .ok (.iadd, 1) := by decide +kernel
theorem dX12_enters1_22 : decode cX12_enters1 22 = .ok (.iaload, 1) := by decide +kernel
theorem dX12_enters1_23 : decode cX12_enters1 23 = .ok (.iadd, 1) := by decide +kernel
theorem dX12_enters1_24 : decode cX12_enters1 24 = .ok (.iload_n 1, 1) := by decide +kernel
theorem dX12_enters1_25 : decode cX12_enters1 25 = .ok (.iastore, 1) := by decide +kernel
theorem dX12_enters1_26 : decode cX12_enters1 26 = .ok (.aload_n 0, 1) := by decide +kernel
theorem dX12_enters1_27 : decode cX12_enters1 27 = .ok (.getfield 9, 3) := by decide +kernel
theorem dX12_enters1_30 : decode cX12_enters1 30 = .ok (.aload_n 0, 1) := by decide +kernel
theorem dX12_enters1_31 : decode cX12_enters1 31 = .ok (.getfield 85, 3) := by decide +kernel
theorem dX12_enters1_34 : decode cX12_enters1 34 = .ok (.bipush 26, 2) := by decide +kernel
theorem dX12_enters1_36 : decode cX12_enters1 36 = .ok (.iadd, 1) := by decide +kernel
theorem dX12_enters1_37 : decode cX12_enters1 37 = .ok (.dup2, 1) := by decide +kernel
theorem dX12_enters1_38 : decode cX12_enters1 38 = .ok (.iaload, 1) := by decide +kernel
theorem dX12_enters1_39 : decode cX12_enters1 39 = .ok (.iconst 1, 1) := by decide +kernel
theorem dX12_enters1_40 : decode cX12_enters1 40 = .ok (.iadd, 1) := by decide +kernel
theorem dX12_enters1_41 : decode cX12_enters1 41 = .ok (.iastore, 1) := by decide +kernel
theorem dX12_enters1_42 : decode cX12_enters1 42 = .ok (.return_, 1) := by decide +kernel
theorem dX12_entry1_0 : decode cX12_entry1 0 = .ok (.aload_n 0, 1) := by decide +kernel
theorem dX12_entry1_1 : decode cX12_entry1 1 = .ok (.aload_n 0, 1) := by decide +kernel
theorem dX12_entry1_2 : decode cX12_entry1 2 = .ok (.getfield 9, 3) := by decide +kernel
theorem dX12_entry1_5 : decode cX12_entry1 5 = .ok (.sipush 152, 3) := by decide +kernel
theorem dX12_entry1_8 : decode cX12_entry1 8 = .ok (.iaload, 1) := by decide +kernel
theorem dX12_entry1_9 : decode cX12_entry1 9 = .ok (.bipush 12, 2) := by decide +kernel
theorem dX12_entry1_11 : decode cX12_entry1 11 = .ok (.if_icmp .ge 7, 3) := by decide +kernel
theorem dX12_entry1_14 : decode cX12_entry1 14 = .ok (.iconst 1, 1) := by decide +kernel
theorem dX12_entry1_15 : decode cX12_entry1 15 = .ok (.goto 4, 3) := by decide +kernel
theorem dX12_entry1_18 : decode cX12_entry1 18 = .ok (.iconst 0, 1) := by decide +kernel
theorem dX12_entry1_19 : decode cX12_entry1 19 = .ok (.iconst 2, 1) := by decide +kernel
theorem dX12_entry1_20 : decode cX12_entry1 20 = .ok (.invokevirtual 276, 3) := by decide +kernel
theorem dX12_entry1_23 : decode cX12_entry1 23 = .ok (.ifCond .ne 4, 3) := by decide +kernel
theorem dX12_entry1_26 : decode cX12_entry1 26 = .ok (.return_, 1) := by decide +kernel
theorem dX12_entry1_27 : decode cX12_entry1 27 = .ok (.aload_n 0, 1) := by decide +kernel
theorem dX12_entry1_28 : decode cX12_entry1 28 = .ok (.invokevirtual 280, 3) := by decide +kernel
theorem dX12_entry1_31 : decode cX12_entry1 31 = .ok (.aload_n 0, 1) := by decide +kernel
theorem dX12_entry1_32 : decode cX12_entry1 32 = .ok (.iconst 1, 1) := by decide +kernel
theorem dX12_entry1_33 : decode cX12_entry1 33 = .ok (.invokevirtual 298, 3) := by decide +kernel
theorem dX12_entry1_36 : decode cX12_entry1 36 = .ok (.istore_n 1, 1) := by decide +kernel
theorem dX12_entry1_37 : decode cX12_entry1 37 = .ok (.aload_n 0, 1) := by decide +kernel
theorem dX12_entry1_38 : decode cX12_entry1 38 = .ok (.getfield 273, 3) := by decide +kernel
theorem dX12_entry1_41 : decode cX12_entry1 41 = .ok (.ifCond .ne 52, 3) := by decide +kernel
theorem dX12_entry1_44 : decode cX12_entry1 44 = .ok (.aload_n 0, 1) := by decide +kernel
theorem dX12_entry1_45 : decode cX12_entry1 45 = .ok (.aload_n 0, 1) := by decide +kernel
theorem dX12_entry1_46 : decode cX12_entry1 46 = .ok (.getfield 258, 3) := by decide +kernel
theorem dX12_entry1_49 : decode cX12_entry1 49 = .ok (.bipush 59, 2) := by decide +kernel
theorem dX12_entry1_51 : decode cX12_entry1 51 = .ok (.if_icmp .ne 7, 3) := by decide +kernel
theorem dX12_entry1_54 : decode cX12_entry1 54 = .ok (.iconst 1, 1) := by decide +kernel
theorem dX12_entry1_55 : decode cX12_entry1 55 = .ok (.goto 4, 3) := by decide +kernel
theorem dX12_entry1_58 : decode cX12_entry1 58 = .ok (.iconst 0, 1) := by decide +kernel
theorem dX12_entry1_59 : decode cX12_entry1 59 = .ok (.iconst 1, 1) := by decide +kernel
theorem dX12_entry1_60 : decode cX12_entry1 60 = .ok (.invokevirtual 276, 3) := by decide +kernel
theorem dX12_entry1_63 : decode cX12_entry1 63 = .ok (.ifCond .eq 30, 3) := by decide +kernel
theorem dX12_entry1_66 : decode cX12_entry1 66 = .ok (.aload_n 0, 1) := by decide +kernel
theorem dX12_entry1_67 : decode cX12_entry1 67 = .ok (.aload_n 0, 1) := by decide +kernel
theorem dX12_entry1_68 : decode cX12_entry1 68 = .ok (.iload_n 1, 1) := by decide +kernel
theorem dX12_entry1_69 : decode cX12_entry1 69 = .ok (.invokevirtual 307, 3) := by decide +kernel
theorem dX12_entry1_72 : decode cX12_entry1 72 = .ok (.iconst (-1), 1) := by decide +kernel
theorem dX12_entry1_73 : decode cX12_entry1 73 = .ok (.if_icmp .ne 7, 3) := by decide +kernel
theorem dX12_entry1_76 : decode cX12_entry1 76 = .ok (.iconst 1, 1) := by decide +kernel
theorem dX12_entry1_77 : decode cX12_entry1 77 = .ok (.goto 4, 3) := by decide +kernel
theorem dX12_entry1_80 : decode cX12_entry1 80 = .ok (.iconst 0, 1) := by decide +kernel
theorem dX12_entry1_81 : decode cX12_entry1 81 = .ok (.iconst 5, 1) := by decide +kernel
theorem dX12_entry1_82 : decode cX12_entry1 82 = .ok (.invokevirtual 276, 3) := by decide +kernel
theorem dX12_entry1_85 : decode cX12_entry1 85 = .ok (.ifCond .eq 8, 3) := by decide +kernel
theorem dX12_entry1_88 : decode cX12_entry1 88 = .ok (.aload_n 0, 1) := by decide +kernel
theorem dX12_entry1_89 : decode cX12_entry1 89 = .ok (.iload_n 1, 1) := by decide +kernel
theorem dX12_entry1_90 : decode cX12_entry1 90 = .ok (.invokevirtual 310, 3) := by decide +kernel
theorem dX12_entry1_93 : decode cX12_entry1 93 = .ok (.return_, 1) := by decide +kernel
theorem dX12_room1_0 : decode cX12_room1 0 = .ok (.aload_n 0, 1) := by decide +kernel
theorem dX12_room1_1 : decode cX12_room1 1 = .ok (.aload_n 0, 1) := by decide +kernel
theorem dX12_room1_2 : decode cX12_room1 2 = .ok (.getfield 313, 3) := by decide +kernel
theorem dX12_room1_5 : decode cX12_room1 5 = .ok (.ifCond .ne 7, 3) := by decide +kernel
theorem dX12_room1_8 : decode cX12_room1 8 = .ok (.iconst 1, 1) := by decide +kernel
theorem dX12_room1_9 : decode cX12_room1 9 = .ok (.goto 4, 3) := by decide +kernel
theorem dX12_room1_12 : decode cX12_room1 12 = .ok (.iconst 0, 1) := by decide +kernel
theorem dX12_room1_13 : decode cX12_room1 13 = .ok (.iconst 4, 1) := by decide +kernel
theorem dX12_room1_14 : decode cX12_room1 14 = .ok (.invokevirtual 276, 3) := by decide +kernel
theorem dX12_room1_17 : decode cX12_room1 17 = .ok (.ifCond .ne 4, 3) := by decide +kernel
theorem dX12_room1_20 : decode cX12_room1 20 = .ok (.return_, 1) := by decide +kernel
theorem dX12_room1_21 : decode cX12_room1 21 = .ok (.aload_n 0, 1) := by decide +kernel
theorem dX12_room1_22 : decode cX12_room1 22 = .ok (.invokevirtual 280, 3) := by decide +kernel
theorem dX12_room1_25 : decode cX12_room1 25 = .ok (.aload_n 0, 1) := by decide +kernel
theorem dX12_room1_26 : decode cX12_room1 26 = .ok (.getfield 9, 3) := by decide +kernel
theorem dX12_room1_29 : decode cX12_room1 29 = .ok (.sipush 165, 3) := by decide +kernel
theorem dX12_room1_32 : decode cX12_room1 32 = .ok (.aload_n 0, 1) := by decide +kernel
theorem dX12_room1_33 : decode cX12_room1 33 = .ok (.iconst 0, 1) := by decide +kernel
theorem dX12_room1_34 : decode cX12_room1 34 = .ok (.bipush 9, 2) := by decide +kernel
theorem dX12_room1_36 : decode cX12_room1 36 = .ok (.invokevirtual 290, 3) := by decide +kernel
theorem dX12_room1_39 : decode cX12_room1 39 = .ok (.iastore, 1) := by decide +kernel
theorem dX12_room1_40 : decode cX12_room1 40 = .ok (.aload_n 0, 1) := by decide +kernel
theorem dX12_room1_41 : decode cX12_room1 41 = .ok (.iconst 1, 1) := by decide +kernel
theorem dX12_room1_42 : decode cX12_room1 42 = .ok (.putfield 313, 3) := by decide +kernel
theorem dX12_room1_45 : decode cX12_room1 45 = .ok (.return_, 1) := by decide +kernel
theorem dX12_clause1_0 : decode cX12_clause1 0 = .ok (.aload_n 0, 1) := by decide +kernel
theorem dX12_clause1_1 : decode cX12_clause1 1 = .ok (.getfield 261, 3) := by decide +kernel
theorem dX12_clause1_4 : decode cX12_clause1 4 = .ok (.iconst 1, 1) := by decide +kernel
theorem dX12_clause1_5 : decode cX12_clause1 5 = .ok (.if_icmp .ne 10, 3) := by decide +kernel
theorem dX12_clause1_8 : decode cX12_clause1 8 = .ok (.aload_n 0, 1) := by decide +kernel
theorem dX12_clause1_9 : decode cX12_clause1 9 = .ok (.getfield 249, 3) := by decide +kernel
theorem dX12_clause1_12 : decode cX12_clause1 12 = .ok (.goto 4, 3) := by decide +kernel
theorem dX12_clause1_15 : decode cX12_clause1 15 = .ok (.iconst (-1), 1) := by decide +kernel
theorem dX12_clause1_16 : decode cX12_clause1 16 = .ok (.istore_n 1, 1) := by decide +kernel
theorem dX12_clause1_17 : decode cX12_clause1 17 = .ok (.iload_n 1, 1) := by decide +kernel
theorem dX12_clause1_18 : decode cX12_clause1 18 = .ok (.ifCond .ne 10, 3) := by decide +kernel
theorem dX12_clause1_21 : decode cX12_clause1 21 = .ok (.aload_n 0, 1) := by decide +kernel
theorem dX12_clause1_22 : decode cX12_clause1 22 = .ok (.invokevirtual 316, 3) := by decide +kernel
theorem dX12_clause1_25 : decode cX12_clause1 25 = .ok (.goto 67, 3) := by decide +kernel
theorem dX12_clause1_28 : decode cX12_clause1 28 = .ok (.iload_n 1, 1) := by decide +kernel
theorem dX12_clause1_29 : decode cX12_clause1 29 = .ok (.iconst 1, 1) := by decide +kernel
theorem dX12_clause1_30 : decode cX12_clause1 30 = .ok (.if_icmp .ne 16, 3) := by decide +kernel
theorem dX12_clause1_33 : decode cX12_clause1 33 = .ok (.aload_n 0, 1) := by decide +kernel
theorem dX12_clause1_34 : decode cX12_clause1 34 = .ok (.invokevirtual 280, 3) := by decide +kernel
theorem dX12_clause1_37 : decode cX12_clause1 37 = .ok (.aload_n 0, 1) := by decide +kernel
theorem dX12_clause1_38 : decode cX12_clause1 38 = .ok (.iconst 1, 1) := by decide +kernel
theorem dX12_clause1_39 : decode cX12_clause1 39 = .ok (.invokevirtual 298, 3) := by decide +kernel
theorem dX12_clause1_42 : decode cX12_clause1 42 = .ok (.pop, 1) := by decide +kernel
theorem dX12_clause1_43 : decode cX12_clause1 43 = .ok (.goto 49, 3) := by decide +kernel
theorem dX12_clause1_46 : decode cX12_clause1 46 = .ok (.iload_n 1, 1) := by decide +kernel
theorem dX12_clause1_47 : decode cX12_clause1 47 = .ok (.iconst 2, 1) := by decide +kernel
theorem dX12_clause1_48 : decode cX12_clause1 48 = .ok (.if_icmp .ne 10, 3) := by decide +kernel
theorem dX12_clause1_51 : decode cX12_clause1 51 = .ok (.aload_n 0, 1) := by decide +kernel
theorem dX12_clause1_52 : decode cX12_clause1 52 = .ok (.invokevirtual 319, 3) := by decide +kernel
theorem dX12_clause1_55 : decode cX12_clause1 55 = .ok (.goto 37, 3) := by decide +kernel
theorem dX12_clause1_58 : decode cX12_clause1 58 = .ok (.iload_n 1, 1) := by decide +kernel
theorem dX12_clause1_59 : decode cX12_clause1 59 = .ok (.iconst 3, 1) := by decide +kernel
theorem dX12_clause1_60 : decode cX12_clause1 60 = .ok (.if_icmp .ne 10, 3) := by decide +kernel
theorem dX12_clause1_63 : decode cX12_clause1 63 = .ok (.aload_n 0, 1) := by decide +kernel
theorem dX12_clause1_64 : decode cX12_clause1 64 = .ok (.invokevirtual 322, 3) := by decide +kernel
theorem dX12_clause1_67 : decode cX12_clause1 67 = .ok (.goto 25, 3) := by decide +kernel
theorem dX12_clause1_70 : decode cX12_clause1 70 = .ok (.aload_n 0, 1) := by decide +kernel
theorem dX12_clause1_71 : decode cX12_clause1 71 = .ok (.iload_n 1, 1) := by decide +kernel
theorem dX12_clause1_72 : decode cX12_clause1 72 = .ok (.iconst 4, 1) := by decide +kernel
theorem dX12_clause1_73 : decode cX12_clause1 73 = .ok (.if_icmp .ne 7, 3) := by decide +kernel
theorem dX12_clause1_76 : decode cX12_clause1 76 = .ok (.iconst 1, 1) := by decide +kernel
theorem dX12_clause1_77 : decode cX12_clause1 77 = .ok (.goto 4, 3) := by decide +kernel
theorem dX12_clause1_80 : decode cX12_clause1 80 = .ok (.iconst 0, 1) := by decide +kernel
theorem dX12_clause1_81 : decode cX12_clause1 81 = .ok (.iconst 1, 1) := by decide +kernel
theorem dX12_clause1_82 : decode cX12_clause1 82 = .ok (.invokevirtual 276, 3) := by decide +kernel
theorem dX12_clause1_85 : decode cX12_clause1 85 = .ok (.ifCond .eq 7, 3) := by decide +kernel
theorem dX12_clause1_88 : decode cX12_clause1 88 = .ok (.aload_n 0, 1) := by decide +kernel
theorem dX12_clause1_89 : decode cX12_clause1 89 = .ok (.invokevirtual 325, 3) := by decide +kernel
theorem dX12_clause1_92 : decode cX12_clause1 92 = .ok (.return_, 1) := by decide +kernel
theorem dX12_feed_0 : decode cX12_feed 0 = .ok (.aload_n 0, 1) := by decide +kernel
theorem dX12_feed_1 : decode cX12_feed 1 = .ok (.iconst 0, 1) := by decide +kernel
theorem dX12_feed_2 : decode cX12_feed 2 = .ok (.putfield 68, 3) := by decide +kernel
theorem dX12_feed_5 : decode cX12_feed 5 = .ok (.aload_n 0, 1) := by decide +kernel
theorem dX12_feed_6 : decode cX12_feed 6 = .ok (.getfield 328, 3) := by decide +kernel
theorem dX12_feed_9 : decode cX12_feed 9 = .ok (.bipush 20, 2) := by decide +kernel
theorem dX12_feed_11 : decode cX12_feed 11 = .ok (.iadd, 1) := by decide +kernel
theorem dX12_feed_12 : decode cX12_feed 12 = .ok (.sipush 700, 3) := by decide +kernel
theorem dX12_feed_15 : decode cX12_feed 15 = .ok (.if_icmp .le 5, 3) := by decide +kernel
theorem dX12_feed_18 : decode cX12_feed 18 = .ok (.iconst (-1), 1) := by decide +kernel
theorem dX12_feed_19 : decode cX12_feed 19 = .ok (.ireturn, 1) := by decide +kernel
theorem dX12_feed_20 : decode cX12_feed 20 = .ok (.iconst 0, 1) := by decide +kernel
theorem dX12_feed_21 : decode cX12_feed 21 = .ok (.istore 6, 2) := by decide +kernel
theorem dX12_feed_23 : decode cX12_feed 23 = .ok (.iload 6, 2) := by decide +kernel
theorem dX12_feed_25 : decode cX12_feed 25 = .ok (.bipush 20, 2) := by decide +kernel
theorem dX12_feed_27 : decode cX12_feed 27 = .ok (.if_icmp .ge 86, 3) := by decide +kernel
theorem dX12_feed_30 : decode cX12_feed 30 = .ok (.iload 6, 2) := by decide +kernel
theorem dX12_feed_32 : decode cX12_feed 32 = .ok (.iconst 4, 1) := by decide +kernel
theorem dX12_feed_33 : decode cX12_feed 33 = .ok (.if_icmp .ge 7, 3) := by decide +kernel
theorem dX12_feed_36 : decode cX12_feed 36 = .ok (.iload_n 1, 1) := by decide +kernel
theorem dX12_feed_37 : decode cX12_feed 37 = .ok (.goto 39, 3) := by decide +kernel
theorem dX12_feed_40 : decode cX12_feed 40 = .ok (.iload 6, 2) := by decide +kernel
theorem dX12_feed_42 : decode cX12_feed 42 = .ok (.bipush 8, 2) := by decide +kernel
theorem dX12_feed_44 : decode cX12_feed 44 = .ok (.if_icmp .ge 7, 3) := by decide +kernel
theorem dX12_feed_47 : decode cX12_feed 47 = .ok (.iload_n 2, 1) := by decide +kernel
theorem dX12_feed_48 : decode cX12_feed 48 = .ok (.goto 28, 3) := by decide +kernel
theorem dX12_feed_51 : decode cX12_feed 51 = .ok (.iload 6, 2) := by decide +kernel
theorem dX12_feed_53 : decode cX12_feed 53 = .ok (.bipush 12, 2) := by decide +kernel
theorem dX12_feed_55 : decode cX12_feed 55 = .ok (.if_icmp .ge 7, 3) := by decide +kernel
theorem dX12_feed_58 : decode cX12_feed 58 = .ok (.iload_n 3, 1) := by decide +kernel
theorem dX12_feed_59 : decode cX12_feed 59 = .ok (.goto 17, 3) := by decide +kernel
theorem dX12_feed_62 : decode cX12_feed 62 = .ok (.iload 6, 2) := by decide +kernel
theorem dX12_feed_64 : decode cX12_feed 64 = .ok (.bipush 16, 2) := by decide +kernel
theorem dX12_feed_66 : decode cX12_feed 66 = .ok (.if_icmp .ge 8, 3) := by decide +kernel
theorem dX12_feed_69 : decode cX12_feed 69 = .ok (.iload 4, 2) := by decide +kernel
theorem dX12_feed_71 : decode cX12_feed 71 = .ok (.goto 5, 3) := by decide +kernel
theorem dX12_feed_74 : decode cX12_feed 74 = .ok (.iload 5, 2) := by decide +kernel
theorem dX12_feed_76 : decode cX12_feed 76 = .ok (.istore 7, 2) := by decide +kernel
theorem dX12_feed_78 : decode cX12_feed 78 = .ok (.aload_n 0, 1) := by decide +kernel
theorem dX12_feed_79 : decode cX12_feed 79 = .ok (.getfield 34, 3) := by decide +kernel
theorem dX12_feed_82 : decode cX12_feed 82 = .ok (.aload_n 0, 1) := by decide +kernel
theorem dX12_feed_83 : decode cX12_feed 83 = .ok (.getfield 328, 3) := by decide +kernel
theorem dX12_feed_86 : decode cX12_feed 86 = .ok (.iload 6, 2) := by decide +kernel
theorem dX12_feed_88 : decode cX12_feed 88 = .ok (.iadd, 1) := by decide +kernel
theorem dX12_feed_89 : decode cX12_feed 89 = .ok (.iload 7, 2) := by decide +kernel
theorem dX12_feed_91 : decode cX12_feed 91 = .ok (.bipush 24, 2) := by decide +kernel
theorem dX12_feed_93 : decode cX12_feed 93 = .ok (.bipush 8, 2) := by decide +kernel
theorem dX12_feed_95 : decode cX12_feed 95 = .ok (.iload 6, 2) := by decide +kernel
theorem dX12_feed_97 : decode cX12_feed 97 = .ok (.iconst 4, 1) := by decide +kernel
theorem dX12_feed_98 : decode cX12_feed 98 = .ok (.irem, 1) := by decide +kernel
theorem dX12_feed_99 : decode cX12_feed 99 = .ok (.imul, 1) := by decide +kernel
theorem dX12_feed_100 : decode cX12_feed 100 = .ok (.isub, 1) := by decide +kernel
theorem dX12_feed_101 : decode cX12_feed 101 = .ok (.ishr, 1) := by decide +kernel
theorem dX12_feed_102 : decode cX12_feed 102 = .ok (.sipush 255, 3) := by decide +kernel
theorem dX12_feed_105 : decode cX12_feed 105 = .ok (.iand, 1) := by decide +kernel
theorem dX12_feed_106 : decode cX12_feed 106 = .ok (.iastore, 1) := by decide +kernel
theorem dX12_feed_107 : decode cX12_feed 107 = .ok (.iinc 6 1, 3) := by decide +kernel
theorem dX12_feed_110 : decode cX12_feed 110 = .ok (.goto (-87), 3) := by decide +kernel
theorem dX12_feed_113 : decode cX12_feed 113 = .ok (.aload_n 0, 1) := by decide +kernel
theorem dX12_feed_114 : decode cX12_feed 114 = .ok (.dup, 1) := by decide +kernel
theorem dX12_feed_115 : decode cX12_feed 115 = .ok (.getfield 328, 3) := by decide +kernel
theorem dX12_feed_118 : decode cX12_feed 118 = .ok (.bipush 20, 2) := by decide +kernel
theorem dX12_feed_120 : decode cX12_feed 120 = .ok (.iadd, 1) := by decide +kernel
theorem dX12_feed_121 : decode cX12_feed 121 = .ok (.putfield 328, 3) := by decide +kernel
theorem dX12_feed_124 : decode cX12_feed 124 = .ok (.aload_n 0, 1) := by decide +kernel
theorem dX12_feed_125 : decode cX12_feed 125 = .ok (.getfield 328, 3) := by decide +kernel
theorem dX12_feed_128 : decode cX12_feed 128 = .ok (.ireturn, 1) := by decide +kernel
theorem dX12_movesTerms_0 : decode cX12_movesTerms 0 = .ok (.iconst 0, 1) := by decide +kernel
theorem dX12_movesTerms_1 : decode cX12_movesTerms 1 = .ok (.istore_n 3, 1) := by decide +kernel
theorem dX12_movesTerms_2 : decode cX12_movesTerms 2 = .ok (.iload_n 3, 1) := by decide +kernel
theorem dX12_movesTerms_3 : decode cX12_movesTerms 3 = .ok (.sipush 400, 3) := by decide +kernel
theorem dX12_movesTerms_6 : decode cX12_movesTerms 6 = .ok (.if_icmp .ge 82, 3) := by decide +kernel
theorem dX12_movesTerms_9 : decode cX12_movesTerms 9 = .ok (.aload_n 0, 1) := by decide +kernel
theorem dX12_movesTerms_10 : decode cX12_movesTerms 10 = .ok (.getfield 13, 3) := by decide +kernel
theorem dX12_movesTerms_13 : decode cX12_movesTerms 13 = .ok (.iload_n 2, 1) := by decide +kernel
theorem dX12_movesTerms_14 : decode cX12_movesTerms 14 = .ok (.iload_n 3, 1) := by decide +kernel
theorem dX12_movesTerms_15 : decode cX12_movesTerms 15 = .ok (.iadd, 1) := by decide +kernel
theorem dX12_movesTerms_16 : decode cX12_movesTerms 16 = .ok (.aload_n 0, 1) := by decide +kernel
theorem dX12_movesTerms_17 : decode cX12_movesTerms 17 = .ok (.getfield 13, 3) := by decide +kernel
theorem dX12_movesTerms_20 : decode cX12_movesTerms 20 = .ok (.iload_n 1, 1) := by decide +kernel
theorem dX12_movesTerms_21 : decode cX12_movesTerms 21 = .ok (.iload_n 3, 1) := by decide +kernel
theorem dX12_movesTerms_22 : decode cX12_movesTerms 22 = .ok (.iadd, 1) := by decide +kernel
theorem dX12_movesTerms_23 : decode cX12_movesTerms 23 = .ok (.iaload, 1) := by decide +kernel
theorem dX12_movesTerms_24 : decode cX12_movesTerms 24 = .ok (.iastore, 1) := by decide +kernel
theorem dX12_movesTerms_25 : decode cX12_movesTerms 25 = .ok (.aload_n 0, 1) := by decide +kernel
theorem dX12_movesTerms_26 : decode cX12_movesTerms 26 = .ok (.getfield 19, 3) := by decide +kernel
theorem dX12_movesTerms_29 : decode cX12_movesTerms 29 = .ok (.iload_n 2, 1) := by decide +kernel
theorem dX12_movesTerms_30 : decode cX12_movesTerms 30 = .ok (.iload_n 3, 1) := by decide +kernel
theorem dX12_movesTerms_31 : decode cX12_movesTerms 31 = .ok (.iadd, 1) := by decide +kernel
theorem dX12_movesTerms_32 : decode cX12_movesTerms 32 = .ok (.aload_n 0, 1) := by decide +kernel
theorem dX12_movesTerms_33 : decode cX12_movesTerms 33 = .ok (.getfield 19, 3) := by decide +kernel
theorem dX12_movesTerms_36 : decode cX12_movesTerms 36 = .ok (.iload_n 1, 1) := by decide +kernel
theorem dX12_movesTerms_37 : decode cX12_movesTerms 37 = .ok (.iload_n 3, 1) := by decide +kernel
theorem dX12_movesTerms_38 : decode cX12_movesTerms 38 = .ok (.iadd, 1) := by decide +kernel
theorem dX12_movesTerms_39 : decode cX12_movesTerms 39 = .ok (.iaload, 1) := by decide +kernel
theorem dX12_movesTerms_40 : decode cX12_movesTerms 40 = .ok (.iastore, 1) := by decide +kernel
theorem dX12_movesTerms_41 : decode cX12_movesTerms 41 = .ok (.iconst 0, 1) := by decide +kernel
theorem dX12_movesTerms_42 : decode cX12_movesTerms 42 = .ok (.istore 4, 2) := by decide +kernel
theorem dX12_movesTerms_44 : decode cX12_movesTerms 44 = .ok (.iload 4, 2) := by decide +kernel
theorem dX12_movesTerms_46 : decode cX12_movesTerms 46 = .ok (.iconst 3, 1) := by decide +kernel
theorem dX12_movesTerms_47 : decode cX12_movesTerms 47 = .ok (.if_icmp .ge 35, 3) := by decide +kernel
theorem dX12_movesTerms_50 : decode cX12_movesTerms 50 = .ok (.aload_n 0, 1) := by decide +kernel
theorem dX12_movesTerms_51 : decode cX12_movesTerms 51 = .ok (.getfield 16, 3) := by decide +kernel
theorem dX12_movesTerms_54 : decode cX12_movesTerms 54 = .ok (.iconst 3, 1) := by decide +kernel
theorem dX12_movesTerms_55 : decode cX12_movesTerms 55 = .ok (.iload_n 2, 1) := by decide +kernel
theorem dX12_movesTerms_56 : decode cX12_movesTerms 56 = .ok (.iload_n 3, 1) := by decide +kernel
theorem dX12_movesTerms_57 : decode cX12_movesTerms 57 = .ok (.iadd, 1) := by decide +kernel
theorem dX12_movesTerms_58 : decode cX12_movesTerms 58 = .ok (.imul, 1) := by decide +kernel
theorem dX12_movesTerms_59 : decode cX12_movesTerms 59 = .ok (.iload 4, 2) := by decide +kernel
theorem dX12_movesTerms_61 : decode cX12_movesTerms 61 = .ok (.iadd, 1) := by decide +kernel
theorem dX12_movesTerms_62 : decode cX12_movesTerms 62 = .ok (.aload_n 0, 1) := by decide +kernel
theorem dX12_movesTerms_63 : decode cX12_movesTerms 63 = .ok (.getfield 16, 3) := by decide +kernel
theorem dX12_movesTerms_66 : decode cX12_movesTerms 66 = .ok (.iconst 3, 1) := by decide +kernel
theorem dX12_movesTerms_67 : decode cX12_movesTerms 67 = .ok (.iload_n 1, 1) := by decide +kernel
theorem dX12_movesTerms_68 : decode cX12_movesTerms 68 = .ok (.iload_n 3, 1) := by decide +kernel
theorem dX12_movesTerms_69 : decode cX12_movesTerms 69 = .ok (.iadd, 1) := by decide +kernel
theorem dX12_movesTerms_70 : decode cX12_movesTerms 70 = .ok (.imul, 1) := by decide +kernel
theorem dX12_movesTerms_71 : decode cX12_movesTerms 71 = .ok (.iload 4, 2) := by decide +kernel
theorem dX12_movesTerms_73 : decode cX12_movesTerms 73 = .ok (.iadd, 1) := by decide +kernel
theorem dX12_movesTerms_74 : decode cX12_movesTerms 74 = .ok (.iaload, 1) := by decide +kernel
theorem dX12_movesTerms_75 : decode cX12_movesTerms 75 = .ok (.iastore, 1) := by decide +kernel
theorem dX12_movesTerms_76 : decode cX12_movesTerms 76 = .ok (.iinc 4 1, 3) := by decide +kernel
theorem dX12_movesTerms_79 : decode cX12_movesTerms 79 = .ok (.goto (-35), 3) := by decide +kernel
theorem dX12_movesTerms_82 : decode cX12_movesTerms 82 = .ok (.iinc 3 1, 3) := by decide +kernel
theorem dX12_movesTerms_85 : decode cX12_movesTerms 85 = .ok (.goto (-83), 3) := by decide +kernel
theorem dX12_movesTerms_88 : decode cX12_movesTerms 88 = .ok (.return_, 1) := by decide +kernel
theorem dX12_readsAll_0 : decode cX12_readsAll 0 = .ok (.aload_n 0, 1) := by decide +kernel
theorem dX12_readsAll_1 : decode cX12_readsAll 1 = .ok (.iload_n 1, 1) := by decide +kernel
theorem dX12_readsAll_2 : decode cX12_readsAll 2 = .ok (.putfield 233, 3) := by decide +kernel
theorem dX12_readsAll_5 : decode cX12_readsAll 5 = .ok (.aload_n 0, 1) := by decide +kernel
theorem dX12_readsAll_6 : decode cX12_readsAll 6 = .ok (.iconst 0, 1) := by decide +kernel
theorem dX12_readsAll_7 : decode cX12_readsAll 7 = .ok (.putfield 243, 3) := by decide +kernel
theorem dX12_readsAll_10 : decode cX12_readsAll 10 = .ok (.aload_n 0, 1) := by decide +kernel
theorem dX12_readsAll_11 : decode cX12_readsAll 11 = .ok (.iconst 0, 1) := by decide +kernel
theorem dX12_readsAll_12 : decode cX12_readsAll 12 = .ok (.putfield 273, 3) := by decide +kernel
theorem dX12_readsAll_15 : decode cX12_readsAll 15 = .ok (.aload_n 0, 1) := by decide +kernel
theorem dX12_readsAll_16 : decode cX12_readsAll 16 = .ok (.iconst (-1), 1) := by decide +kernel
theorem dX12_readsAll_17 : decode cX12_readsAll 17 = .ok (.putfield 37, 3) := by decide +kernel
theorem dX12_readsAll_20 : decode cX12_readsAll 20 = .ok (.aload_n 0, 1) := by decide +kernel
theorem dX12_readsAll_21 : decode cX12_readsAll 21 = .ok (.aload_n 0, 1) := by decide +kernel
theorem dX12_readsAll_22 : decode cX12_readsAll 22 = .ok (.iconst 0, 1) := by decide +kernel
theorem dX12_readsAll_23 : decode cX12_readsAll 23 = .ok (.dup_x1, 1) := by decide +kernel
theorem dX12_readsAll_24 : decode cX12_readsAll 24 = .ok (.putfield 313, 3) := by decide +kernel
theorem dX12_readsAll_27 : decode cX12_readsAll 27 = .ok (.putfield 287, 3) := by decide +kernel
theorem dX12_readsAll_30 : decode cX12_readsAll 30 = .ok (.aload_n 0, 1) := by decide +kernel
theorem dX12_readsAll_31 : decode cX12_readsAll 31 = .ok (.iconst 0, 1) := by decide +kernel
theorem dX12_readsAll_32 : decode cX12_readsAll 32 = .ok (.putfield 92, 3) := by decide +kernel
theorem dX12_readsAll_35 : decode cX12_readsAll 35 = .ok (.iconst 0, 1) := by decide +kernel
theorem dX12_readsAll_36 : decode cX12_readsAll 36 = .ok (.istore_n 2, 1) := by decide +kernel
theorem dX12_readsAll_37 : decode cX12_readsAll 37 = .ok (.iload_n 2, 1) := by decide +kernel
theorem dX12_readsAll_38 : decode cX12_readsAll 38 = .ok (.bipush 63, 2) := by decide +kernel
theorem dX12_readsAll_40 : decode cX12_readsAll 40 = .ok (.if_icmp .ge 19, 3) := by decide +kernel
theorem dX12_readsAll_43 : decode cX12_readsAll 43 = .ok (.aload_n 0, 1) := by decide +kernel
theorem dX12_readsAll_44 : decode cX12_readsAll 44 = .ok (.getfield 9, 3) := by decide +kernel
theorem dX12_readsAll_47 : decode cX12_readsAll 47 = .ok (.bipush 126, 2) := by decide +kernel
theorem dX12_readsAll_49 : decode cX12_readsAll 49 = .ok (.iload_n 2, 1) := by decide +kernel
theorem dX12_readsAll_50 : decode cX12_readsAll 50 = .ok (.iadd, 1) := by decide +kernel
theorem dX12_readsAll_51 : decode cX12_readsAll 51 = .ok (.iconst 0, 1) := by decide +kernel
theorem dX12_readsAll_52 : decode cX12_readsAll 52 = .ok (.iastore, 1) := by decide +kernel
theorem dX12_readsAll_53 : decode cX12_readsAll 53 = .ok (.iinc 2 1, 3) := by decide +kernel
theorem dX12_readsAll_56 : decode cX12_readsAll 56 = .ok (.goto (-19), 3) := by decide +kernel
theorem dX12_readsAll_59 : decode cX12_readsAll 59 = .ok (.aload_n 0, 1) := by decide +kernel
theorem dX12_readsAll_60 : decode cX12_readsAll 60 = .ok (.getfield 9, 3) := by decide +kernel
theorem dX12_readsAll_63 : decode cX12_readsAll 63 = .ok (.sipush 165, 3) := by decide +kernel
theorem dX12_readsAll_66 : decode cX12_readsAll 66 = .ok (.iconst 4, 1) := by decide +kernel
theorem dX12_readsAll_67 : decode cX12_readsAll 67 = .ok (.iastore, 1) := by decide +kernel
theorem dX12_readsAll_68 : decode cX12_readsAll 68 = .ok (.aload_n 0, 1) := by decide +kernel
theorem dX12_readsAll_69 : decode cX12_readsAll 69 = .ok (.sipush 800, 3) := by decide +kernel
theorem dX12_readsAll_72 : decode cX12_readsAll 72 = .ok (.putfield 71, 3) := by decide +kernel
theorem dX12_readsAll_75 : decode cX12_readsAll 75 = .ok (.aload_n 0, 1) := by decide +kernel
theorem dX12_readsAll_76 : decode cX12_readsAll 76 = .ok (.bipush 126, 2) := by decide +kernel
theorem dX12_readsAll_78 : decode cX12_readsAll 78 = .ok (.putfield 85, 3) := by decide +kernel
theorem dX12_readsAll_81 : decode cX12_readsAll 81 = .ok (.aload_n 0, 1) := by decide +kernel
theorem dX12_readsAll_82 : decode cX12_readsAll 82 = .ok (.bipush 10, 2) := by decide +kernel
theorem dX12_readsAll_84 : decode cX12_readsAll 84 = .ok (.putfield 82, 3) := by decide +kernel
theorem dX12_readsAll_87 : decode cX12_readsAll 87 = .ok (.aload_n 0, 1) := by decide +kernel
theorem dX12_readsAll_88 : decode cX12_readsAll 88 = .ok (.invokevirtual 280, 3) := by decide +kernel
theorem dX12_readsAll_91 : decode cX12_readsAll 91 = .ok (.aload_n 0, 1) := by decide +kernel
theorem dX12_readsAll_92 : decode cX12_readsAll 92 = .ok (.getfield 273, 3) := by decide +kernel
theorem dX12_readsAll_95 : decode cX12_readsAll 95 = .ok (.ifCond .ne 23, 3) := by decide +kernel
theorem dX12_readsAll_98 : decode cX12_readsAll 98 = .ok (.aload_n 0, 1) := by decide +kernel
theorem dX12_readsAll_99 : decode cX12_readsAll 99 = .ok (.getfield 261, 3) := by decide +kernel
theorem dX12_readsAll_102 : decode cX12_readsAll 102 = .ok (.ifCond .eq 16, 3) := by decide +kernel
theorem dX12_readsAll_105 : decode cX12_readsAll 105 = .ok (.aload_n 0, 1) := by decide +kernel
theorem dX12_readsAll_106 : decode cX12_readsAll 106 = .ok (.invokevirtual 331, 3) := by decide +kernel
theorem dX12_readsAll_109 : decode cX12_readsAll 109 = .ok (.aload_n 0, 1) := by decide +kernel
theorem dX12_readsAll_110 : decode cX12_readsAll 110 = .ok (.bipush 59, 2) := by decide +kernel
theorem dX12_readsAll_112 : decode cX12_readsAll 112 = .ok (.invokevirtual 296, 3) := by decide +kernel
theorem dX12_readsAll_115 : decode cX12_readsAll 115 = .ok (.goto (-24), 3) := by decide +kernel
theorem dX12_readsAll_118 : decode cX12_readsAll 118 = .ok (.aload_n 0, 1) := by decide +kernel
theorem dX12_readsAll_119 : decode cX12_readsAll 119 = .ok (.aload_n 0, 1) := by decide +kernel
theorem dX12_readsAll_120 : decode cX12_readsAll 120 = .ok (.aload_n 0, 1) := by decide +kernel
theorem dX12_readsAll_121 : decode cX12_readsAll 121 = .ok (.iconst 0, 1) := by decide +kernel
theorem dX12_readsAll_122 : decode cX12_readsAll 122 = .ok (.dup_x1, 1) := by decide +kernel
theorem dX12_readsAll_123 : decode cX12_readsAll 123 = .ok (.putfield 82, 3) := by decide +kernel
theorem dX12_readsAll_126 : decode cX12_readsAll 126 = .ok (.dup_x1, 1) := by decide +kernel
theorem dX12_readsAll_127 : decode cX12_readsAll 127 = .ok (.putfield 85, 3) := by decide +kernel
theorem dX12_readsAll_130 : decode cX12_readsAll 130 = .ok (.putfield 71, 3) := by decide +kernel
theorem dX12_readsAll_133 : decode cX12_readsAll 133 = .ok (.return_, 1) := by decide +kernel
theorem dX12_bank_0 : decode cX12_bank 0 = .ok (.aload_n 0, 1) := by decide +kernel
theorem dX12_bank_1 : decode cX12_bank 1 = .ok (.iconst 0, 1) := by decide +kernel
theorem dX12_bank_2 : decode cX12_bank 2 = .ok (.putfield 68, 3) := by decide +kernel
theorem dX12_bank_5 : decode cX12_bank 5 = .ok (.aload_n 0, 1) := by decide +kernel
theorem dX12_bank_6 : decode cX12_bank 6 = .ok (.iload_n 1, 1) := by decide +kernel
theorem dX12_bank_7 : decode cX12_bank 7 = .ok (.ifCond .lt 15, 3) := by decide +kernel
theorem dX12_bank_10 : decode cX12_bank 10 = .ok (.iload_n 1, 1) := by decide +kernel
theorem dX12_bank_11 : decode cX12_bank 11 = .ok (.aload_n 0, 1) := by decide +kernel
theorem dX12_bank_12 : decode cX12_bank 12 = .ok (.getfield 328, 3) := by decide +kernel
theorem dX12_bank_15 : decode cX12_bank 15 = .ok (.if_icmp .gt 7, 3) := by decide +kernel
theorem dX12_bank_18 : decode cX12_bank 18 = .ok (.iconst 1, 1) := by decide +kernel
theorem dX12_bank_19 : decode cX12_bank 19 = .ok (.goto 4, 3) := by decide +kernel
theorem dX12_bank_22 : decode cX12_bank 22 = .ok (.iconst 0, 1) := by decide +kernel
theorem dX12_bank_23 : decode cX12_bank 23 = .ok (.iconst 1, 1) := by decide +kernel
theorem dX12_bank_24 : decode cX12_bank 24 = .ok (.invokevirtual 334, 3) := by decide +kernel
theorem dX12_bank_27 : decode cX12_bank 27 = .ok (.ifCond .ne 5, 3) := by decide +kernel
theorem dX12_bank_30 : decode cX12_bank 30 = .ok (.iconst 0, 1) := by decide +kernel
theorem dX12_bank_31 : decode cX12_bank 31 = .ok (.ireturn, 1) := by decide +kernel
theorem dX12_bank_32 : decode cX12_bank 32 = .ok (.aload_n 0, 1) := by decide +kernel
theorem dX12_bank_33 : decode cX12_bank 33 = .ok (.iconst 0, 1) := by decide +kernel
theorem dX12_bank_34 : decode cX12_bank 34 = .ok (.putfield 328, 3) := by decide +kernel
theorem dX12_bank_37 : decode cX12_bank 37 = .ok (.aload_n 0, 1) := by decide +kernel
theorem dX12_bank_38 : decode cX12_bank 38 = .ok (.iload_n 1, 1) := by decide +kernel
theorem dX12_bank_39 : decode cX12_bank 39 = .ok (.invokevirtual 337, 3) := by decide +kernel
theorem dX12_bank_42 : decode cX12_bank 42 = .ok (.aload_n 0, 1) := by decide +kernel
theorem dX12_bank_43 : decode cX12_bank 43 = .ok (.getfield 273, 3) := by decide +kernel
theorem dX12_bank_46 : decode cX12_bank 46 = .ok (.ifCond .eq 18, 3) := by decide +kernel
theorem dX12_bank_49 : decode cX12_bank 49 = .ok (.aload_n 0, 1) := by decide +kernel
theorem dX12_bank_50 : decode cX12_bank 50 = .ok (.getfield 31, 3) := by decide +kernel
theorem dX12_bank_53 : decode cX12_bank 53 = .ok (.iconst 0, 1) := by decide +kernel
theorem dX12_bank_54 : decode cX12_bank 54 = .ok (.dup2, 1) := by decide +kernel
theorem dX12_bank_55 : decode cX12_bank 55 = .ok (.iaload, 1) := by decide +kernel
theorem dX12_bank_56 : decode cX12_bank 56 = .ok (.iconst 1, 1) := by decide +kernel
theorem dX12_bank_57 : decode cX12_bank 57 = .ok (.iadd, 1) := by decide +kernel
theorem dX12_bank_58 : decode cX12_bank 58 = .ok (.iastore, 1) := by decide +kernel
theorem dX12_bank_59 : decode cX12_bank 59 = .ok (.aload_n 0, 1) := by decide +kernel
theorem dX12_bank_60 : decode cX12_bank 60 = .ok (.getfield 273, 3) := by decide +kernel
theorem dX12_bank_63 : decode cX12_bank 63 = .ok (.ireturn, 1) := by decide +kernel
theorem dX12_bank_64 : decode cX12_bank 64 = .ok (.aload_n 0, 1) := by decide +kernel
theorem dX12_bank_65 : decode cX12_bank 65 = .ok (.sipush 800, 3) := by decide +kernel
theorem dX12_bank_68 : decode cX12_bank 68 = .ok (.iconst 0, 1) := by decide +kernel
theorem dX12_bank_69 : decode cX12_bank 69 = .ok (.invokevirtual 340, 3) := by decide +kernel
theorem dX12_bank_72 : decode cX12_bank 72 = .ok (.aload_n 0, 1) := by decide +kernel
theorem dX12_bank_73 : decode cX12_bank 73 = .ok (.bipush 126, 2) := by decide +kernel
theorem dX12_bank_75 : decode cX12_bank 75 = .ok (.iconst 0, 1) := by decide +kernel
theorem dX12_bank_76 : decode cX12_bank 76 = .ok (.bipush 63, 2) := by decide +kernel
theorem dX12_bank_78 : decode cX12_bank 78 = .ok (.invokevirtual 343, 3) := by decide +kernel
theorem dX12_bank_81 : decode cX12_bank 81 = .ok (.aload_n 0, 1) := by decide +kernel
theorem dX12_bank_82 : decode cX12_bank 82 = .ok (.aload_n 0, 1) := by decide +kernel
theorem dX12_bank_83 : decode cX12_bank 83 = .ok (.getfield 287, 3) := by decide +kernel
theorem dX12_bank_86 : decode cX12_bank 86 = .ok (.putfield 347, 3) := by decide +kernel
theorem dX12_bank_89 : decode cX12_bank 89 = .ok (.iconst 0, 1) := by decide +kernel
theorem dX12_bank_90 : decode cX12_bank 90 = .ok (.istore_n 2, 1) := by decide +kernel
theorem dX12_bank_91 : decode cX12_bank 91 = .ok (.iload_n 2, 1) := by decide +kernel
theorem dX12_bank_92 : decode cX12_bank 92 = .ok (.bipush 10, 2) := by decide +kernel
theorem dX12_bank_94 : decode cX12_bank 94 = .ok (.if_icmp .ge 54, 3) := by decide +kernel
theorem dX12_bank_97 : decode cX12_bank 97 = .ok (.aload_n 0, 1) := by decide +kernel
theorem dX12_bank_98 : decode cX12_bank 98 = .ok (.getfield 22, 3) := by decide +kernel
theorem dX12_bank_101 : decode cX12_bank 101 = .ok (.iload_n 2, 1) := by decide +kernel
theorem dX12_bank_102 : decode cX12_bank 102 = .ok (.aload_n 0, 1) := by decide +kernel
theorem dX12_bank_103 : decode cX12_bank 103 = .ok (.getfield 22, 3) := by decide +kernel
theorem dX12_bank_106 : decode cX12_bank 106 = .ok (.bipush 10, 2) := by decide +kernel
theorem dX12_bank_108 : decode cX12_bank 108 = .ok (.iload_n 2, 1) := by decide +kernel
theorem dX12_bank_109 : decode cX12_bank 109 = .ok (.iadd, 1) := by decide +kernel
theorem dX12_bank_110 : decode cX12_bank 110 = .ok (.iaload, 1) := by decide +kernel
theorem dX12_bank_111 : decode cX12_bank 111 = .ok (.iastore, 1) := by decide +kernel
theorem dX12_bank_112 : decode cX12_bank 112 = .ok (.aload_n 0, 1) := by decide +kernel
theorem dX12_bank_113 : decode cX12_bank 113 = .ok (.getfield 25, 3) := by decide +kernel
theorem dX12_bank_116 : decode cX12_bank 116 = .ok (.iload_n 2, 1) := by decide +kernel
theorem dX12_bank_117 : decode cX12_bank 117 = .ok (.aload_n 0, 1) := by decide +kernel
theorem dX12_bank_118 : decode cX12_bank 118 = .ok (.getfield 25, 3) := by decide +kernel
theorem dX12_bank_121 : decode cX12_bank 121 = .ok (.bipush 10, 2) := by decide +kernel
theorem dX12_bank_123 : decode cX12_bank 123 = .ok (.iload_n 2, 1) := by decide +kernel
theorem dX12_bank_124 : decode cX12_bank 124 = .ok (.iadd, 1) := by decide +kernel
theorem dX12_bank_125 : decode cX12_bank 125 = .ok (.iaload, 1) := by decide +kernel
theorem dX12_bank_126 : decode cX12_bank 126 = .ok (.iastore, 1) := by decide +kernel
theorem dX12_bank_127 : decode cX12_bank 127 = .ok (.aload_n 0, 1) := by decide +kernel
theorem dX12_bank_128 : decode cX12_bank 128 = .ok (.getfield 28, 3) := by decide +kernel
theorem dX12_bank_131 : decode cX12_bank 131 = .ok (.iload_n 2, 1) := by decide +kernel
theorem dX12_bank_132 : decode cX12_bank 132 = .ok (.aload_n 0, 1) := by decide +kernel
theorem dX12_bank_133 : decode cX12_bank 133 = .ok (.getfield 28, 3) := by decide +kernel
theorem dX12_bank_136 : decode cX12_bank 136 = .ok (.bipush 10, 2) := by decide +kernel
theorem dX12_bank_138 : decode cX12_bank 138 = .ok (.iload_n 2, 1) := by decide +kernel
theorem dX12_bank_139 : decode cX12_bank 139 = .ok (.iadd, 1) := by decide +kernel
theorem dX12_bank_140 : decode cX12_bank 140 = .ok (.iaload, 1) := by decide +kernel
theorem dX12_bank_141 : decode cX12_bank 141 = .ok (.iastore, 1) := by decide +kernel
theorem dX12_bank_142 : decode cX12_bank 142 = .ok (.iinc 2 1, 3) := by decide +kernel
theorem dX12_bank_145 : decode cX12_bank 145 = .ok (.goto (-54), 3) := by decide +kernel
theorem dX12_bank_148 : decode cX12_bank 148 = .ok (.aload_n 0, 1) := by decide +kernel
theorem dX12_bank_149 : decode cX12_bank 149 = .ok (.aload_n 0, 1) := by decide +kernel
theorem dX12_bank_150 : decode cX12_bank 150 = .ok (.aload_n 0, 1) := by decide +kernel
theorem dX12_bank_151 : decode cX12_bank 151 = .ok (.iconst 0, 1) := by decide +kernel
theorem dX12_bank_152 : decode cX12_bank 152 = .ok (.dup_x1, 1) := by decide +kernel
theorem dX12_bank_153 : decode cX12_bank 153 = .ok (.putfield 350, 3) := by decide +kernel
theorem dX12_bank_156 : decode cX12_bank 156 = .ok (.dup_x1, 1) := by decide +kernel
theorem dX12_bank_157 : decode cX12_bank 157 = .ok (.putfield 353, 3) := by decide +kernel
theorem dX12_bank_160 : decode cX12_bank 160 = .ok (.putfield 356, 3) := by decide +kernel
theorem dX12_bank_163 : decode cX12_bank 163 = .ok (.iconst 0, 1) := by decide +kernel
theorem dX12_bank_164 : decode cX12_bank 164 = .ok (.ireturn, 1) := by decide +kernel
theorem dX12_fault_0 : decode cX12_fault 0 = .ok (.aload_n 0, 1) := by decide +kernel
theorem dX12_fault_1 : decode cX12_fault 1 = .ok (.iconst 0, 1) := by decide +kernel
theorem dX12_fault_2 : decode cX12_fault 2 = .ok (.putfield 68, 3) := by decide +kernel
theorem dX12_fault_5 : decode cX12_fault 5 = .ok (.aload_n 0, 1) := by decide +kernel
theorem dX12_fault_6 : decode cX12_fault 6 = .ok (.getfield 37, 3) := by decide +kernel
theorem dX12_fault_9 : decode cX12_fault 9 = .ok (.ireturn, 1) := by decide +kernel
theorem dX12_meetings_0 : decode cX12_meetings 0 = .ok (.iconst 0, 1) := by decide +kernel
theorem dX12_meetings_1 : decode cX12_meetings 1 = .ok (.istore_n 2, 1) := by decide +kernel
theorem dX12_meetings_2 : decode cX12_meetings 2 = .ok (.iconst 0, 1) := by decide +kernel
theorem dX12_meetings_3 : decode cX12_meetings 3 = .ok (.istore_n 3, 1) := by decide +kernel
theorem dX12_meetings_4 : decode cX12_meetings 4 = .ok (.iload_n 3, 1) := by decide +kernel
theorem dX12_meetings_5 : decode cX12_meetings 5 = .ok (.aload_n 0, 1) := by decide +kernel
theorem dX12_meetings_6 : decode cX12_meetings 6 = .ok (.getfield 9, 3) := by decide +kernel
theorem dX12_meetings_9 : decode cX12_meetings 9 = .ok (.bipush 9, 2) := by decide +kernel
theorem dX12_meetings_11 : decode cX12_meetings 11 = .ok (.iaload, 1) := by decide +kernel
theorem dX12_meetings_12 : decode cX12_meetings 12 = .ok (.if_icmp .ge 139, 3) := by decide +kernel
theorem dX12_meetings_15 : decode cX12_meetings 15 = .ok (.aload_n 0, 1) := by decide +kernel
theorem dX12_meetings_16 : decode cX12_meetings 16 = .ok (.getfield 9, 3) := by decide +kernel
theorem dX12_meetings_19 : decode cX12_meetings 19 = .ok (.bipush 10, 2) := by decide +kernel
theorem dX12_meetings_21 : decode cX12_meetings 21 = .ok (.iconst 2, 1) := by decide +kernel
theorem dX12_meetings_22 : decode cX12_meetings 22 = .ok (.iload_n 3, 1) := by decide +kernel
theorem dX12_meetings_23 : decode cX12_meetings 23 = .ok (.imul, 1) := by decide +kernel
theorem dX12_meetings_24 : decode cX12_meetings 24 = .ok (.iadd, 1) := by decide +kernel
theorem dX12_meetings_25 : decode cX12_meetings 25 = .ok (.iaload, 1) := by decide +kernel
theorem dX12_meetings_26 : decode cX12_meetings 26 = .ok (.istore 4, 2) := by decide +kernel
theorem dX12_meetings_28 : decode cX12_meetings 28 = .ok (.iconst 0, 1) := by decide +kernel
theorem dX12_meetings_29 : decode cX12_meetings 29 = .ok (.istore 5, 2) := by decide +kernel
theorem dX12_meetings_31 : decode cX12_meetings 31 = .ok (.iload 5, 2) := by decide +kernel
theorem dX12_meetings_33 : decode cX12_meetings 33 = .ok (.aload_n 0, 1) := by decide +kernel
theorem dX12_meetings_34 : decode cX12_meetings 34 = .ok (.iload 4, 2) := by decide +kernel
theorem dX12_meetings_36 : decode cX12_meetings 36 = .ok (.invokevirtual 114, 3) := by decide +kernel
theorem dX12_meetings_39 : decode cX12_meetings 39 = .ok (.if_icmp .ge 106, 3) := by decide +kernel
theorem dX12_meetings_42 : decode cX12_meetings 42 = .ok (.aload_n 0, 1) := by decide +kernel
theorem dX12_meetings_43 : decode cX12_meetings 43 = .ok (.iload 4, 2) := by decide +kernel
theorem dX12_meetings_45 : decode cX12_meetings 45 = .ok (.iload 5, 2) := by decide +kernel
theorem dX12_meetings_47 : decode cX12_meetings 47 = .ok (.invokevirtual 139, 3) := by decide +kernel
theorem dX12_meetings_50 : decode cX12_meetings 50 = .ok (.istore 6, 2) := by decide +kernel
theorem dX12_meetings_52 : decode cX12_meetings 52 = .ok (.iconst 0, 1) := by decide +kernel
theorem dX12_meetings_53 : decode cX12_meetings 53 = .ok (.istore 7, 2) := by decide +kernel
theorem dX12_meetings_55 : decode cX12_meetings 55 = .ok (.iload 7, 2) := by decide +kernel
theorem dX12_meetings_57 : decode cX12_meetings 57 = .ok (.aload_n 0, 1) := by decide +kernel
theorem dX12_meetings_58 : decode cX12_meetings 58 = .ok (.getfield 9, 3) := by decide +kernel
theorem dX12_meetings_61 : decode cX12_meetings 61 = .ok (.bipush 9, 2) := by decide +kernel
theorem dX12_meetings_63 : decode cX12_meetings 63 = .ok (.iaload, 1) := by decide +kernel
theorem dX12_meetings_64 : decode cX12_meetings 64 = .ok (.if_icmp .ge 75, 3) := by decide +kernel
theorem dX12_meetings_67 : decode cX12_meetings 67 = .ok (.aload_n 0, 1) := by decide +kernel
theorem dX12_meetings_68 : decode cX12_meetings 68 = .ok (.iload 6, 2) := by decide +kernel
theorem dX12_meetings_70 : decode cX12_meetings 70 = .ok (.invokevirtual 78, 3) := by decide +kernel
theorem dX12_meetings_73 : decode cX12_meetings 73 = .ok (.ifCond .ne 66, 3) := by decide +kernel
theorem dX12_meetings_76 : decode cX12_meetings 76 = .ok (.iload 5, 2) := by decide +kernel
theorem dX12_meetings_78 : decode cX12_meetings 78 = .ok (.ifCond .ne 9, 3) := by decide +kernel
theorem dX12_meetings_81 : decode cX12_meetings 81 = .ok (.iload_n 3, 1) := by decide +kernel
theorem dX12_meetings_82 : decode cX12_meetings 82 = .ok (.iload 7, 2) := by decide +kernel
theorem dX12_meetings_84 : decode cX12_meetings 84 = .ok (.if_icmp .eq 49, 3) := by decide +kernel
theorem dX12_meetings_87 : decode cX12_meetings 87 = .ok (.aload_n 0, 1) := by decide +kernel
theorem dX12_meetings_88 : decode cX12_meetings 88 = .ok (.iload 6, 2) := by decide +kernel
theorem dX12_meetings_90 : decode cX12_meetings 90 = .ok (.aload_n 0, 1) := by decide +kernel
theorem dX12_meetings_91 : decode cX12_meetings 91 = .ok (.getfield 9, 3) := by decide +kernel
theorem dX12_meetings_94 : decode cX12_meetings 94 = .ok (.bipush 10, 2) := by decide +kernel
theorem dX12_meetings_96 : decode cX12_meetings 96 = .ok (.iconst 2, 1) := by decide +kernel
theorem dX12_meetings_97 : decode cX12_meetings 97 = .ok (.iload 7, 2) := by decide +kernel
theorem dX12_meetings_99 : decode cX12_meetings 99 = .ok (.imul, 1) := by decide +kernel
theorem dX12_meetings_100 : decode cX12_meetings 100 = .ok (.iadd, 1) := by decide +kernel
theorem dX12_meetings_101 : decode cX12_meetings 101 = .ok (.iaload, 1) := by decide +kernel
theorem dX12_meetings_102 : decode cX12_meetings 102 = .ok (.invokevirtual 359, 3) := by decide +kernel
theorem dX12_meetings_105 : decode cX12_meetings 105 = .ok (.ifCond .ne 6, 3) := by decide +kernel
theorem dX12_meetings_108 : decode cX12_meetings 108 = .ok (.goto 25, 3) := by decide +kernel
theorem dX12_meetings_111 : decode cX12_meetings 111 = .ok (.iload_n 1, 1) := by decide +kernel
theorem dX12_meetings_112 : decode cX12_meetings 112 = .ok (.ifCond .eq 18, 3) := by decide +kernel
theorem dX12_meetings_115 : decode cX12_meetings 115 = .ok (.sipush 1000, 3) := by decide +kernel
theorem dX12_meetings_118 : decode cX12_meetings 118 = .ok (.iload_n 3, 1) := by decide +kernel
theorem dX12_meetings_119 : decode cX12_meetings 119 = .ok (.imul, 1) := by decide +kernel
theorem dX12_meetings_120 : decode cX12_meetings 120 = .ok (.bipush 10, 2) := by decide +kernel
theorem dX12_meetings_122 : decode cX12_meetings 122 = .ok (.iload 5, 2) := by decide +kernel
theorem dX12_meetings_124 : decode cX12_meetings 124 = .ok (.imul, 1) := by decide +kernel
theorem dX12_meetings_125 : decode cX12_meetings 125 = .ok (.iadd, 1) := by decide +kernel
theorem dX12_meetings_126 : decode cX12_meetings 126 = .ok (.iload 7, 2) := by decide +kernel
theorem dX12_meetings_128 : decode cX12_meetings 128 = .ok (.iadd, 1) := by decide +kernel
theorem dX12_meetings_129 : decode cX12_meetings 129 = .ok (.ireturn, 1) := by decide +kernel
theorem dX12_meetings_130 : decode cX12_meetings 130 = .ok (.iinc 2 1, 3) := by decide +kernel
theorem dX12_meetings_133 : decode cX12_meetings 133 = .ok (.iinc 7 1, 3) := by decide +kernel
theorem dX12_meetings_136 : decode cX12_meetings 136 = .ok (.goto (-81), 3) := by decide +kernel
theorem dX12_meetings_139 : decode cX12_meetings 139 = .ok (.iinc 5 1, 3) := by decide +kernel
theorem dX12_meetings_142 : decode cX12_meetings 142 = .ok (.goto (-111), 3) := by decide +kernel
theorem dX12_meetings_145 : decode cX12_meetings 145 = .ok (.iinc 3 1, 3) := by decide +kernel
theorem dX12_meetings_148 : decode cX12_meetings 148 = .ok (.goto (-144), 3) := by decide +kernel
theorem dX12_meetings_151 : decode cX12_meetings 151 = .ok (.iload_n 1, 1) := by decide +kernel
theorem dX12_meetings_152 : decode cX12_meetings 152 = .ok (.ifCond .eq 7, 3) := by decide +kernel
theorem dX12_meetings_155 : decode cX12_meetings 155 = .ok (.iconst (-1), 1) := by decide +kernel
theorem dX12_meetings_156 : decode cX12_meetings 156 = .ok (.goto 4, 3) := by decide +kernel
theorem dX12_meetings_159 : decode cX12_meetings 159 = .ok (.iload_n 2, 1) := by decide +kernel
theorem dX12_meetings_160 : decode cX12_meetings 160 = .ok (.ireturn, 1) := by decide +kernel
theorem dX12_count_0 : decode cX12_count 0 = .ok (.aload_n 0, 1) := by decide +kernel
theorem dX12_count_1 : decode cX12_count 1 = .ok (.iconst 0, 1) := by decide +kernel
theorem dX12_count_2 : decode cX12_count 2 = .ok (.putfield 68, 3) := by decide +kernel
theorem dX12_count_5 : decode cX12_count 5 = .ok (.aload_n 0, 1) := by decide +kernel
theorem dX12_count_6 : decode cX12_count 6 = .ok (.iload_n 1, 1) := by decide +kernel
theorem dX12_count_7 : decode cX12_count 7 = .ok (.iconst 0, 1) := by decide +kernel
theorem dX12_count_8 : decode cX12_count 8 = .ok (.bipush 16, 2) := by decide +kernel
theorem dX12_count_10 : decode cX12_count 10 = .ok (.invokestatic 283, 3) := by decide +kernel
theorem dX12_count_13 : decode cX12_count 13 = .ok (.iconst 1, 1) := by decide +kernel
theorem dX12_count_14 : decode cX12_count 14 = .ok (.invokevirtual 334, 3) := by decide +kernel
theorem dX12_count_17 : decode cX12_count 17 = .ok (.ifCond .ne 5, 3) := by decide +kernel
theorem dX12_count_20 : decode cX12_count 20 = .ok (.iconst 0, 1) := by decide +kernel
theorem dX12_count_21 : decode cX12_count 21 = .ok (.ireturn, 1) := by decide +kernel
theorem dX12_count_22 : decode cX12_count 22 = .ok (.iload_n 1, 1) := by decide +kernel
theorem dX12_count_23 : decode cX12_count 23 = .ok (.tableswitch 156 0 12 #[65, 70, 77, 85, 93, 101, 109, 117, 125, 130, 130, 146, 151], 65) := by decide +kernel
theorem dX12_count_88 : decode cX12_count 88 = .ok (.aload_n 0, 1) := by decide +kernel
theorem dX12_count_89 : decode cX12_count 89 = .ok (.getfield 347, 3) := by decide +kernel
theorem dX12_count_92 : decode cX12_count 92 = .ok (.ireturn, 1) := by decide +kernel
theorem dX12_count_93 : decode cX12_count 93 = .ok (.aload_n 0, 1) := by decide +kernel
theorem dX12_count_94 : decode cX12_count 94 = .ok (.getfield 9, 3) := by decide +kernel
theorem dX12_count_97 : decode cX12_count 97 = .ok (.iconst 0, 1) := by decide +kernel
theorem dX12_count_98 : decode cX12_count 98 = .ok (.iaload, 1) := by decide +kernel
theorem dX12_count_99 : decode cX12_count 99 = .ok (.ireturn, 1) := by decide +kernel
theorem dX12_count_100 : decode cX12_count 100 = .ok (.aload_n 0, 1) := by decide +kernel
theorem dX12_count_101 : decode cX12_count 101 = .ok (.getfield 9, 3) := by decide +kernel
theorem dX12_count_104 : decode cX12_count 104 = .ok (.bipush 9, 2) := by decide +kernel
theorem dX12_count_106 : decode cX12_count 106 = .ok (.iaload, 1) := by decide +kernel
theorem dX12_count_107 : decode cX12_count 107 = .ok (.ireturn, 1) := by decide +kernel
theorem dX12_count_108 : decode cX12_count 108 = .ok (.aload_n 0, 1) := by decide +kernel
theorem dX12_count_109 : decode cX12_count 109 = .ok (.getfield 9, 3) := by decide +kernel
theorem dX12_count_112 : decode cX12_count 112 = .ok (.bipush 26, 2) := by decide +kernel
theorem dX12_count_114 : decode cX12_count 114 = .ok (.iaload, 1) := by decide +kernel
theorem dX12_count_115 : decode cX12_count 115 = .ok (.ireturn, 1) := by decide +kernel
theorem dX12_count_116 : decode cX12_count 116 = .ok (.aload_n 0, 1) := by decide +kernel
theorem dX12_count_117 : decode cX12_count 117 = .ok (.getfield 9, 3) := by decide +kernel
theorem dX12_count_120 : decode cX12_count 120 = .ok (.bipush 39, 2) := by decide +kernel
theorem dX12_count_122 : decode cX12_count 122 = .ok (.iaload, 1) := by decide +kernel
theorem dX12_count_123 : decode cX12_count 123 = .ok (.ireturn, 1) := by decide +kernel
theorem dX12_count_124 : decode cX12_count 124 = .ok (.aload_n 0, 1) := by decide +kernel
theorem dX12_count_125 : decode cX12_count 125 = .ok (.getfield 9, 3) := by decide +kernel
theorem dX12_count_128 : decode cX12_count 128 = .ok (.bipush 40, 2) := by decide +kernel
theorem dX12_count_130 : decode cX12_count 130 = .ok (.iaload, 1) := by decide +kernel
theorem dX12_count_131 : decode cX12_count 131 = .ok (.ireturn, 1) := by decide +kernel
theorem dX12_count_132 : decode cX12_count 132 = .ok (.aload_n 0, 1) := by decide +kernel
theorem dX12_count_133 : decode cX12_count 133 = .ok (.getfield 9, 3) := by decide +kernel
theorem dX12_count_136 : decode cX12_count 136 = .ok (.bipush 61, 2) := by decide +kernel
theorem dX12_count_138 : decode cX12_count 138 = .ok (.iaload, 1) := by decide +kernel
theorem dX12_count_139 : decode cX12_count 139 = .ok (.ireturn, 1) := by decide +kernel
theorem dX12_count_140 : decode cX12_count 140 = .ok (.aload_n 0, 1) := by decide +kernel
theorem dX12_count_141 : decode cX12_count 141 = .ok (.getfield 9, 3) := by decide +kernel
theorem dX12_count_144 : decode cX12_count 144 = .ok (.bipush 62, 2) := by decide +kernel
theorem dX12_count_146 : decode cX12_count 146 = .ok (.iaload, 1) := by decide +kernel
theorem dX12_count_147 : decode cX12_count 147 = .ok (.ireturn, 1) := by decide +kernel
theorem dX12_count_148 : decode cX12_count 148 = .ok (.aload_n 0, 1) := by decide +kernel
theorem dX12_count_149 : decode cX12_count 149 = .ok (.invokevirtual 362, 3) := by decide +kernel
theorem dX12_count_152 : decode cX12_count 152 = .ok (.ireturn, 1) := by decide +kernel
theorem dX12_count_153 : decode cX12_count 153 = .ok (.aload_n 0, 1) := by decide +kernel
theorem dX12_count_154 : decode cX12_count 154 = .ok (.iload_n 1, 1) := by decide +kernel
theorem dX12_count_155 : decode cX12_count 155 = .ok (.bipush 10, 2) := by decide +kernel
theorem dX12_count_157 : decode cX12_count 157 = .ok (.if_icmp .ne 7, 3) := by decide +kernel
theorem dX12_count_160 : decode cX12_count 160 = .ok (.iconst 1, 1) := by decide +kernel
theorem dX12_count_161 : decode cX12_count 161 = .ok (.goto 4, 3) := by decide +kernel
theorem dX12_count_164 : decode cX12_count 164 = .ok (.iconst 0, 1) := by decide +kernel
theorem dX12_count_165 : decode cX12_count 165 = .ok (.invokevirtual 365, 3) := by decide +kernel
theorem dX12_count_168 : decode cX12_count 168 = .ok (.ireturn, 1) := by decide +kernel
theorem dX12_count_169 : decode cX12_count 169 = .ok (.aload_n 0, 1) := by decide +kernel
theorem dX12_count_170 : decode cX12_count 170 = .ok (.getfield 356, 3) := by decide +kernel
theorem dX12_count_173 : decode cX12_count 173 = .ok (.ireturn, 1) := by decide +kernel
theorem dX12_count_174 : decode cX12_count 174 = .ok (.aload_n 0, 1) := by decide +kernel
theorem dX12_count_175 : decode cX12_count 175 = .ok (.getfield 328, 3) := by decide +kernel
theorem dX12_count_178 : decode cX12_count 178 = .ok (.ireturn, 1) := by decide +kernel
theorem dX12_count_179 : decode cX12_count 179 = .ok (.aload_n 0, 1) := by decide +kernel
theorem dX12_count_180 : decode cX12_count 180 = .ok (.getfield 31, 3) := by decide +kernel
theorem dX12_count_183 : decode cX12_count 183 = .ok (.iload_n 1, 1) := by decide +kernel
end
