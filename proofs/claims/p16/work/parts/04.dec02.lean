theorem dX4_init_0 : decode cX4_init 0 = .ok (.aload_n 0, 1) := by decide +kernel
theorem dX4_init_1 : decode cX4_init 1 = .ok (.invokespecial 3, 3) := by decide +kernel
theorem dX4_init_4 : decode cX4_init 4 = .ok (.aload_n 0, 1) := by decide +kernel
theorem dX4_init_5 : decode cX4_init 5 = .ok (.bipush 8, 2) := by decide +kernel
theorem dX4_init_7 : decode cX4_init 7 = .ok (.newarray .int, 2) := by decide +kernel
theorem dX4_init_9 : decode cX4_init 9 = .ok (.putfield 9, 3) := by decide +kernel
theorem dX4_init_12 : decode cX4_init 12 = .ok (.aload_n 0, 1) := by decide +kernel
theorem dX4_init_13 : decode cX4_init 13 = .ok (.iconst 0, 1) := by decide +kernel
theorem dX4_init_14 : decode cX4_init 14 = .ok (.putfield 15, 3) := by decide +kernel
theorem dX4_init_17 : decode cX4_init 17 = .ok (.aload_n 0, 1) := by decide +kernel
theorem dX4_init_18 : decode cX4_init 18 = .ok (.iconst (-1), 1) := by decide +kernel
theorem dX4_init_19 : decode cX4_init 19 = .ok (.putfield 19, 3) := by decide +kernel
theorem dX4_init_22 : decode cX4_init 22 = .ok (.aload_n 0, 1) := by decide +kernel
theorem dX4_init_23 : decode cX4_init 23 = .ok (.iconst 0, 1) := by decide +kernel
theorem dX4_init_24 : decode cX4_init 24 = .ok (.putfield 22, 3) := by decide +kernel
theorem dX4_init_27 : decode cX4_init 27 = .ok (.aload_n 0, 1) := by decide +kernel
theorem dX4_init_28 : decode cX4_init 28 = .ok (.aload_n 1, 1) := by decide +kernel
theorem dX4_init_29 : decode cX4_init 29 = .ok (.putfield 25, 3) := by decide +kernel
theorem dX4_init_32 : decode cX4_init 32 = .ok (.return_, 1) := by decide +kernel
theorem dX4_tryWeight_0 : decode cX4_tryWeight 0 = .ok (.aload_n 0, 1) := by decide +kernel
theorem dX4_tryWeight_1 : decode cX4_tryWeight 1 = .ok (.iload_n 1, 1) := by decide +kernel
theorem dX4_tryWeight_2 : decode cX4_tryWeight 2 = .ok (.putfield 19, 3) := by decide +kernel
theorem dX4_tryWeight_5 : decode cX4_tryWeight 5 = .ok (.aload_n 0, 1) := by decide +kernel
theorem dX4_tryWeight_6 : decode cX4_tryWeight 6 = .ok (.iload_n 2, 1) := by decide +kernel
theorem dX4_tryWeight_7 : decode cX4_tryWeight 7 = .ok (.putfield 22, 3) := by decide +kernel
theorem dX4_tryWeight_10 : decode cX4_tryWeight 10 = .ok (.return_, 1) := by decide +kernel
theorem dX4_tryNothing_0 : decode cX4_tryNothing 0 = .ok (.aload_n 0, 1) := by decide +kernel
theorem dX4_tryNothing_1 : decode cX4_tryNothing 1 = .ok (.iconst (-1), 1) := by decide +kernel
theorem dX4_tryNothing_2 : decode cX4_tryNothing 2 = .ok (.putfield 19, 3) := by decide +kernel
theorem dX4_tryNothing_5 : decode cX4_tryNothing 5 = .ok (.return_, 1) := by decide +kernel
theorem dX4_isGreater_0 : decode cX4_isGreater 0 = .ok (.iload_n 1, 1) := by decide +kernel
theorem dX4_isGreater_1 : decode cX4_isGreater 1 = .ok (.istore_n 3, 1) := by decide +kernel
theorem dX4_isGreater_2 : decode cX4_isGreater 2 = .ok (.iload_n 2, 1) := by decide +kernel
theorem dX4_isGreater_3 : decode cX4_isGreater 3 = .ok (.istore 4, 2) := by decide +kernel
theorem dX4_isGreater_5 : decode cX4_isGreater 5 = .ok (.iconst 0, 1) := by decide +kernel
theorem dX4_isGreater_6 : decode cX4_isGreater 6 = .ok (.istore 5, 2) := by decide +kernel
theorem dX4_isGreater_8 : decode cX4_isGreater 8 = .ok (.iload 5, 2) := by decide +kernel
theorem dX4_isGreater_10 : decode cX4_isGreater 10 = .ok (.bipush 6, 2) := by decide +kernel
theorem dX4_isGreater_12 : decode cX4_isGreater 12 = .ok (.if_icmp .ge 155, 3) := by decide +kernel
theorem dX4_isGreater_15 : decode cX4_isGreater 15 = .ok (.iload_n 3, 1) := by decide +kernel
theorem dX4_isGreater_16 : decode cX4_isGreater 16 = .ok (.iload 4, 2) := by decide +kernel
theorem dX4_isGreater_18 : decode cX4_isGreater 18 = .ok (.if_icmp .eq 149, 3) := by decide +kernel
theorem dX4_isGreater_21 : decode cX4_isGreater 21 = .ok (.aload_n 0, 1) := by decide +kernel
theorem dX4_isGreater_22 : decode cX4_isGreater 22 = .ok (.iload_n 3, 1) := by decide +kernel
theorem dX4_isGreater_23 : decode cX4_isGreater 23 = .ok (.iload 4, 2) := by decide +kernel
theorem dX4_isGreater_25 : decode cX4_isGreater 25 = .ok (.invokevirtual 29, 3) := by decide +kernel
theorem dX4_isGreater_28 : decode cX4_isGreater 28 = .ok (.aload_n 0, 1) := by decide +kernel
theorem dX4_isGreater_29 : decode cX4_isGreater 29 = .ok (.invokevirtual 33, 3) := by decide +kernel
theorem dX4_isGreater_32 : decode cX4_isGreater 32 = .ok (.ifCond .ne 10, 3) := by decide +kernel
theorem dX4_isGreater_35 : decode cX4_isGreater 35 = .ok (.aload_n 0, 1) := by decide +kernel
theorem dX4_isGreater_36 : decode cX4_isGreater 36 = .ok (.getfield 15, 3) := by decide +kernel
theorem dX4_isGreater_39 : decode cX4_isGreater 39 = .ok (.ifCond .ge 5, 3) := by decide +kernel
theorem dX4_isGreater_42 : decode cX4_isGreater 42 = .ok (.iconst 0, 1) := by decide +kernel
theorem dX4_isGreater_43 : decode cX4_isGreater 43 = .ok (.ireturn, 1) := by decide +kernel
theorem dX4_isGreater_44 : decode cX4_isGreater 44 = .ok (.aload_n 0, 1) := by decide +kernel
theorem dX4_isGreater_45 : decode cX4_isGreater 45 = .ok (.getfield 15, 3) := by decide +kernel
theorem dX4_isGreater_48 : decode cX4_isGreater 48 = .ok (.ifCond .gt 15, 3) := by decide +kernel
theorem dX4_isGreater_51 : decode cX4_isGreater 51 = .ok (.aload_n 0, 1) := by decide +kernel
theorem dX4_isGreater_52 : decode cX4_isGreater 52 = .ok (.getfield 25, 3) := by decide +kernel
theorem dX4_isGreater_55 : decode cX4_isGreater 55 = .ok (.iload 4, 2) := by decide +kernel
theorem dX4_isGreater_57 : decode cX4_isGreater 57 = .ok (.invokevirtual 37, 3) := by decide +kernel
theorem dX4_isGreater_60 : decode cX4_isGreater 60 = .ok (.ifCond .eq 5, 3) := by decide +kernel
theorem dX4_isGreater_63 : decode cX4_isGreater 63 = .ok (.iconst 1, 1) := by decide +kernel
theorem dX4_isGreater_64 : decode cX4_isGreater 64 = .ok (.ireturn, 1) := by decide +kernel
theorem dX4_isGreater_65 : decode cX4_isGreater 65 = .ok (.aload_n 0, 1) := by decide +kernel
theorem dX4_isGreater_66 : decode cX4_isGreater 66 = .ok (.getfield 25, 3) := by decide +kernel
theorem dX4_isGreater_69 : decode cX4_isGreater 69 = .ok (.iload_n 3, 1) := by decide +kernel
theorem dX4_isGreater_70 : decode cX4_isGreater 70 = .ok (.invokevirtual 37, 3) := by decide +kernel
theorem dX4_isGreater_73 : decode cX4_isGreater 73 = .ok (.ifCond .eq 5, 3) := by decide +kernel
theorem dX4_isGreater_76 : decode cX4_isGreater 76 = .ok (.iconst 0, 1) := by decide +kernel
theorem dX4_isGreater_77 : decode cX4_isGreater 77 = .ok (.ireturn, 1) := by decide +kernel
theorem dX4_isGreater_78 : decode cX4_isGreater 78 = .ok (.aload_n 0, 1) := by decide +kernel
theorem dX4_isGreater_79 : decode cX4_isGreater 79 = .ok (.getfield 25, 3) := by decide +kernel
theorem dX4_isGreater_82 : decode cX4_isGreater 82 = .ok (.getfield 43, 3) := by decide +kernel
theorem dX4_isGreater_85 : decode cX4_isGreater 85 = .ok (.iload_n 3, 1) := by decide +kernel
theorem dX4_isGreater_86 : decode cX4_isGreater 86 = .ok (.iaload, 1) := by decide +kernel
theorem dX4_isGreater_87 : decode cX4_isGreater 87 = .ok (.aload_n 0, 1) := by decide +kernel
theorem dX4_isGreater_88 : decode cX4_isGreater 88 = .ok (.getfield 25, 3) := by decide +kernel
theorem dX4_isGreater_91 : decode cX4_isGreater 91 = .ok (.getfield 43, 3) := by decide +kernel
theorem dX4_isGreater_94 : decode cX4_isGreater 94 = .ok (.iload 4, 2) := by decide +kernel
theorem dX4_isGreater_96 : decode cX4_isGreater 96 = .ok (.iaload, 1) := by decide +kernel
theorem dX4_isGreater_97 : decode cX4_isGreater 97 = .ok (.if_icmp .eq 31, 3) := by decide +kernel
theorem dX4_isGreater_100 : decode cX4_isGreater 100 = .ok (.aload_n 0, 1) := by decide +kernel
theorem dX4_isGreater_101 : decode cX4_isGreater 101 = .ok (.getfield 25, 3) := by decide +kernel
theorem dX4_isGreater_104 : decode cX4_isGreater 104 = .ok (.getfield 43, 3) := by decide +kernel
theorem dX4_isGreater_107 : decode cX4_isGreater 107 = .ok (.iload_n 3, 1) := by decide +kernel
theorem dX4_isGreater_108 : decode cX4_isGreater 108 = .ok (.iaload, 1) := by decide +kernel
theorem dX4_isGreater_109 : decode cX4_isGreater 109 = .ok (.aload_n 0, 1) := by decide +kernel
theorem dX4_isGreater_110 : decode cX4_isGreater 110 = .ok (.getfield 25, 3) := by decide +kernel
theorem dX4_isGreater_113 : decode cX4_isGreater 113 = .ok (.getfield 43, 3) := by decide +kernel
theorem dX4_isGreater_116 : decode cX4_isGreater 116 = .ok (.iload 4, 2) := by decide +kernel
theorem dX4_isGreater_118 : decode cX4_isGreater 118 = .ok (.iaload, 1) := by decide +kernel
theorem dX4_isGreater_119 : decode cX4_isGreater 119 = .ok (.if_icmp .le 7, 3) := by decide +kernel
theorem dX4_isGreater_122 : decode cX4_isGreater 122 = .ok (.iconst 1, 1) := by decide +kernel
theorem dX4_isGreater_123 : decode cX4_isGreater 123 = .ok (.goto 4, 3) := by decide +kernel
theorem dX4_isGreater_126 : decode cX4_isGreater 126 = .ok (.iconst 0, 1) := by decide +kernel
theorem dX4_isGreater_127 : decode cX4_isGreater 127 = .ok (.ireturn, 1) := by decide +kernel
theorem dX4_isGreater_128 : decode cX4_isGreater 128 = .ok (.aload_n 0, 1) := by decide +kernel
theorem dX4_isGreater_129 : decode cX4_isGreater 129 = .ok (.iload_n 3, 1) := by decide +kernel
theorem dX4_isGreater_130 : decode cX4_isGreater 130 = .ok (.iload 4, 2) := by decide +kernel
theorem dX4_isGreater_132 : decode cX4_isGreater 132 = .ok (.invokevirtual 46, 3) := by decide +kernel
theorem dX4_isGreater_135 : decode cX4_isGreater 135 = .ok (.istore 6, 2) := by decide +kernel
theorem dX4_isGreater_137 : decode cX4_isGreater 137 = .ok (.aload_n 0, 1) := by decide +kernel
theorem dX4_isGreater_138 : decode cX4_isGreater 138 = .ok (.getfield 25, 3) := by decide +kernel
theorem dX4_isGreater_141 : decode cX4_isGreater 141 = .ok (.iload_n 3, 1) := by decide +kernel
theorem dX4_isGreater_142 : decode cX4_isGreater 142 = .ok (.iload 6, 2) := by decide +kernel
theorem dX4_isGreater_144 : decode cX4_isGreater 144 = .ok (.invokevirtual 50, 3) := by decide +kernel
theorem dX4_isGreater_147 : decode cX4_isGreater 147 = .ok (.istore_n 3, 1) := by decide +kernel
theorem dX4_isGreater_148 : decode cX4_isGreater 148 = .ok (.aload_n 0, 1) := by decide +kernel
theorem dX4_isGreater_149 : decode cX4_isGreater 149 = .ok (.getfield 25, 3) := by decide +kernel
theorem dX4_isGreater_152 : decode cX4_isGreater 152 = .ok (.iload 4, 2) := by decide +kernel
theorem dX4_isGreater_154 : decode cX4_isGreater 154 = .ok (.iload 6, 2) := by decide +kernel
theorem dX4_isGreater_156 : decode cX4_isGreater 156 = .ok (.invokevirtual 50, 3) := by decide +kernel
theorem dX4_isGreater_159 : decode cX4_isGreater 159 = .ok (.istore 4, 2) := by decide +kernel
theorem dX4_isGreater_161 : decode cX4_isGreater 161 = .ok (.iinc 5 1, 3) := by decide +kernel
theorem dX4_isGreater_164 : decode cX4_isGreater 164 = .ok (.goto (-156), 3) := by decide +kernel
theorem dX4_isGreater_167 : decode cX4_isGreater 167 = .ok (.iconst 0, 1) := by decide +kernel
theorem dX4_isGreater_168 : decode cX4_isGreater 168 = .ok (.ireturn, 1) := by decide +kernel
theorem dX4_weighBoth_0 : decode cX4_weighBoth 0 = .ok (.aload_n 0, 1) := by decide +kernel
theorem dX4_weighBoth_1 : decode cX4_weighBoth 1 = .ok (.getfield 9, 3) := by decide +kernel
theorem dX4_weighBoth_4 : decode cX4_weighBoth 4 = .ok (.iconst 0, 1) := by decide +kernel
theorem dX4_weighBoth_5 : decode cX4_weighBoth 5 = .ok (.invokestatic 53, 3) := by decide +kernel
theorem dX4_weighBoth_8 : decode cX4_weighBoth 8 = .ok (.aload_n 0, 1) := by decide +kernel
theorem dX4_weighBoth_9 : decode cX4_weighBoth 9 = .ok (.iconst 0, 1) := by decide +kernel
theorem dX4_weighBoth_10 : decode cX4_weighBoth 10 = .ok (.putfield 15, 3) := by decide +kernel
theorem dX4_weighBoth_13 : decode cX4_weighBoth 13 = .ok (.aload_n 0, 1) := by decide +kernel
theorem dX4_weighBoth_14 : decode cX4_weighBoth 14 = .ok (.iload_n 1, 1) := by decide +kernel
theorem dX4_weighBoth_15 : decode cX4_weighBoth 15 = .ok (.iconst 1, 1) := by decide +kernel
theorem dX4_weighBoth_16 : decode cX4_weighBoth 16 = .ok (.iconst 1, 1) := by decide +kernel
theorem dX4_weighBoth_17 : decode cX4_weighBoth 17 = .ok (.invokevirtual 59, 3) := by decide +kernel
theorem dX4_weighBoth_20 : decode cX4_weighBoth 20 = .ok (.aload_n 0, 1) := by decide +kernel
theorem dX4_weighBoth_21 : decode cX4_weighBoth 21 = .ok (.iload_n 2, 1) := by decide +kernel
theorem dX4_weighBoth_22 : decode cX4_weighBoth 22 = .ok (.iconst (-1), 1) := by decide +kernel
theorem dX4_weighBoth_23 : decode cX4_weighBoth 23 = .ok (.iconst 1, 1) := by decide +kernel
theorem dX4_weighBoth_24 : decode cX4_weighBoth 24 = .ok (.invokevirtual 59, 3) := by decide +kernel
theorem dX4_weighBoth_27 : decode cX4_weighBoth 27 = .ok (.return_, 1) := by decide +kernel
theorem dX4_weigh_0 : decode cX4_weigh 0 = .ok (.iload_n 3, 1) := by decide +kernel
theorem dX4_weigh_1 : decode cX4_weigh 1 = .ok (.bipush 6, 2) := by decide +kernel
theorem dX4_weigh_3 : decode cX4_weigh 3 = .ok (.if_icmp .le 4, 3) := by decide +kernel
theorem dX4_weigh_6 : decode cX4_weigh 6 = .ok (.return_, 1) := by decide +kernel
theorem dX4_weigh_7 : decode cX4_weigh 7 = .ok (.aload_n 0, 1) := by decide +kernel
theorem dX4_weigh_8 : decode cX4_weigh 8 = .ok (.getfield 25, 3) := by decide +kernel
theorem dX4_weigh_11 : decode cX4_weigh 11 = .ok (.getfield 43, 3) := by decide +kernel
theorem dX4_weigh_14 : decode cX4_weigh 14 = .ok (.iload_n 1, 1) := by decide +kernel
theorem dX4_weigh_15 : decode cX4_weigh 15 = .ok (.iaload, 1) := by decide +kernel
theorem dX4_weigh_16 : decode cX4_weigh 16 = .ok (.istore 4, 2) := by decide +kernel
theorem dX4_weigh_18 : decode cX4_weigh 18 = .ok (.iload 4, 2) := by decide +kernel
theorem dX4_weigh_20 : decode cX4_weigh 20 = .ok (.ifCond .ge 27, 3) := by decide +kernel
theorem dX4_weigh_23 : decode cX4_weigh 23 = .ok (.aload_n 0, 1) := by decide +kernel
theorem dX4_weigh_24 : decode cX4_weigh 24 = .ok (.getfield 9, 3) := by decide +kernel
theorem dX4_weigh_27 : decode cX4_weigh 27 = .ok (.iload 4, 2) := by decide +kernel
theorem dX4_weigh_29 : decode cX4_weigh 29 = .ok (.iconst (-1), 1) := by decide +kernel
theorem dX4_weigh_30 : decode cX4_weigh 30 = .ok (.ixor, 1) := by decide +kernel
theorem dX4_weigh_31 : decode cX4_weigh 31 = .ok (.dup2, 1) := by decide +kernel
theorem dX4_weigh_32 : decode cX4_weigh 32 = .ok (.iaload, 1) := by decide +kernel
theorem dX4_weigh_33 : decode cX4_weigh 33 = .ok (.iload_n 2, 1) := by decide +kernel
theorem dX4_weigh_34 : decode cX4_weigh 34 = .ok (.iadd, 1) := by decide +kernel
theorem dX4_weigh_35 : decode cX4_weigh 35 = .ok (.iastore, 1) := by decide +kernel
theorem dX4_weigh_36 : decode cX4_weigh 36 = .ok (.aload_n 0, 1) := by decide +kernel
theorem dX4_weigh_37 : decode cX4_weigh 37 = .ok (.dup, 1) := by decide +kernel
theorem dX4_weigh_38 : decode cX4_weigh 38 = .ok (.getfield 15, 3) := by decide +kernel
theorem dX4_weigh_41 : decode cX4_weigh 41 = .ok (.iload_n 2, 1) := by decide +kernel
theorem dX4_weigh_42 : decode cX4_weigh 42 = .ok (.iadd, 1) := by decide +kernel
theorem dX4_weigh_43 : decode cX4_weigh 43 = .ok (.putfield 15, 3) := by decide +kernel
theorem dX4_weigh_46 : decode cX4_weigh 46 = .ok (.return_, 1) := by decide +kernel
theorem dX4_weigh_47 : decode cX4_weigh 47 = .ok (.aload_n 0, 1) := by decide +kernel
theorem dX4_weigh_48 : decode cX4_weigh 48 = .ok (.dup, 1) := by decide +kernel
theorem dX4_weigh_49 : decode cX4_weigh 49 = .ok (.getfield 15, 3) := by decide +kernel
theorem dX4_weigh_52 : decode cX4_weigh 52 = .ok (.iload_n 2, 1) := by decide +kernel
theorem dX4_weigh_53 : decode cX4_weigh 53 = .ok (.iload 4, 2) := by decide +kernel
theorem dX4_weigh_55 : decode cX4_weigh 55 = .ok (.aload_n 0, 1) := by decide +kernel
theorem dX4_weigh_56 : decode cX4_weigh 56 = .ok (.getfield 19, 3) := by decide +kernel
theorem dX4_weigh_59 : decode cX4_weigh 59 = .ok (.if_icmp .ne 10, 3) := by decide +kernel
theorem dX4_weigh_62 : decode cX4_weigh 62 = .ok (.aload_n 0, 1) := by decide +kernel
theorem dX4_weigh_63 : decode cX4_weigh 63 = .ok (.getfield 22, 3) := by decide +kernel
theorem dX4_weigh_66 : decode cX4_weigh 66 = .ok (.goto 16, 3) := by decide +kernel
theorem dX4_weigh_69 : decode cX4_weigh 69 = .ok (.aload_n 0, 1) := by decide +kernel
theorem dX4_weigh_70 : decode cX4_weigh 70 = .ok (.getfield 25, 3) := by decide +kernel
theorem dX4_weigh_73 : decode cX4_weigh 73 = .ok (.getfield 63, 3) := by decide +kernel
theorem dX4_weigh_76 : decode cX4_weigh 76 = .ok (.getfield 67, 3) := by decide +kernel
theorem dX4_weigh_79 : decode cX4_weigh 79 = .ok (.iload 4, 2) := by decide +kernel
theorem dX4_weigh_81 : decode cX4_weigh 81 = .ok (.iaload, 1) := by decide +kernel
theorem dX4_weigh_82 : decode cX4_weigh 82 = .ok (.imul, 1) := by decide +kernel
theorem dX4_weigh_83 : decode cX4_weigh 83 = .ok (.iadd, 1) := by decide +kernel
theorem dX4_weigh_84 : decode cX4_weigh 84 = .ok (.putfield 15, 3) := by decide +kernel
theorem dX4_weigh_87 : decode cX4_weigh 87 = .ok (.iconst 0, 1) := by decide +kernel
theorem dX4_weigh_88 : decode cX4_weigh 88 = .ok (.istore 5, 2) := by decide +kernel
theorem dX4_weigh_90 : decode cX4_weigh 90 = .ok (.iload 5, 2) := by decide +kernel
theorem dX4_weigh_92 : decode cX4_weigh 92 = .ok (.aload_n 0, 1) := by decide +kernel
theorem dX4_weigh_93 : decode cX4_weigh 93 = .ok (.getfield 25, 3) := by decide +kernel
theorem dX4_weigh_96 : decode cX4_weigh 96 = .ok (.getfield 72, 3) := by decide +kernel
theorem dX4_weigh_99 : decode cX4_weigh 99 = .ok (.iload_n 1, 1) := by decide +kernel
theorem dX4_weigh_100 : decode cX4_weigh 100 = .ok (.iaload, 1) := by decide +kernel
theorem dX4_weigh_101 : decode cX4_weigh 101 = .ok (.if_icmp .ge 27, 3) := by decide +kernel
theorem dX4_weigh_104 : decode cX4_weigh 104 = .ok (.aload_n 0, 1) := by decide +kernel
theorem dX4_weigh_105 : decode cX4_weigh 105 = .ok (.aload_n 0, 1) := by decide +kernel
theorem dX4_weigh_106 : decode cX4_weigh 106 = .ok (.getfield 25, 3) := by decide +kernel
theorem dX4_weigh_109 : decode cX4_weigh 109 = .ok (.iload_n 1, 1) := by decide +kernel
theorem dX4_weigh_110 : decode cX4_weigh 110 = .ok (.iload 5, 2) := by decide +kernel
theorem dX4_weigh_112 : decode cX4_weigh 112 = .ok (.invokevirtual 50, 3) := by decide +kernel
theorem dX4_weigh_115 : decode cX4_weigh 115 = .ok (.iload_n 2, 1) := by decide +kernel
theorem dX4_weigh_116 : decode cX4_weigh 116 = .ok (.iload_n 3, 1) := by decide +kernel
theorem dX4_weigh_117 : decode cX4_weigh 117 = .ok (.iconst 1, 1) := by decide +kernel
theorem dX4_weigh_118 : decode cX4_weigh 118 = .ok (.iadd, 1) := by decide +kernel
theorem dX4_weigh_119 : decode cX4_weigh 119 = .ok (.invokevirtual 59, 3) := by decide +kernel
theorem dX4_weigh_122 : decode cX4_weigh 122 = .ok (.iinc 5 1, 3) := by decide +kernel
theorem dX4_weigh_125 : decode cX4_weigh 125 = .ok (.goto (-35), 3) := by decide +kernel
theorem dX4_weigh_128 : decode cX4_weigh 128 = .ok (.return_, 1) := by decide +kernel
theorem dX4_lacksVariable_0 : decode cX4_lacksVariable 0 = .ok (.iconst 0, 1) := by decide +kernel
theorem dX4_lacksVariable_1 : decode cX4_lacksVariable 1 = .ok (.istore_n 1, 1) := by decide +kernel
theorem dX4_lacksVariable_2 : decode cX4_lacksVariable 2 = .ok (.iload_n 1, 1) := by decide +kernel
theorem dX4_lacksVariable_3 : decode cX4_lacksVariable 3 = .ok (.bipush 8, 2) := by decide +kernel
theorem dX4_lacksVariable_5 : decode cX4_lacksVariable 5 = .ok (.if_icmp .ge 20, 3) := by decide +kernel
theorem dX4_lacksVariable_8 : decode cX4_lacksVariable 8 = .ok (.aload_n 0, 1) := by decide +kernel
theorem dX4_lacksVariable_9 : decode cX4_lacksVariable 9 = .ok (.getfield 9, 3) := by decide +kernel
theorem dX4_lacksVariable_12 : decode cX4_lacksVariable 12 = .ok (.iload_n 1, 1) := by decide +kernel
theorem dX4_lacksVariable_13 : decode cX4_lacksVariable 13 = .ok (.iaload, 1) := by decide +kernel
theorem dX4_lacksVariable_14 : decode cX4_lacksVariable 14 = .ok (.ifCond .ge 5, 3) := by decide +kernel
theorem dX4_lacksVariable_17 : decode cX4_lacksVariable 17 = .ok (.iconst 1, 1) := by decide +kernel
theorem dX4_lacksVariable_18 : decode cX4_lacksVariable 18 = .ok (.ireturn, 1) := by decide +kernel
theorem dX4_lacksVariable_19 : decode cX4_lacksVariable 19 = .ok (.iinc 1 1, 3) := by decide +kernel
theorem dX4_lacksVariable_22 : decode cX4_lacksVariable 22 = .ok (.goto (-20), 3) := by decide +kernel
theorem dX4_lacksVariable_25 : decode cX4_lacksVariable 25 = .ok (.iconst 0, 1) := by decide +kernel
theorem dX4_lacksVariable_26 : decode cX4_lacksVariable 26 = .ok (.ireturn, 1) := by decide +kernel
theorem dX4_firstUnlike_0 : decode cX4_firstUnlike 0 = .ok (.aload_n 0, 1) := by decide +kernel
theorem dX4_firstUnlike_1 : decode cX4_firstUnlike 1 = .ok (.getfield 25, 3) := by decide +kernel
theorem dX4_firstUnlike_4 : decode cX4_firstUnlike 4 = .ok (.getfield 72, 3) := by decide +kernel
theorem dX4_firstUnlike_7 : decode cX4_firstUnlike 7 = .ok (.iload_n 1, 1) := by decide +kernel
theorem dX4_firstUnlike_8 : decode cX4_firstUnlike 8 = .ok (.iaload, 1) := by decide +kernel
theorem dX4_firstUnlike_9 : decode cX4_firstUnlike 9 = .ok (.iconst 1, 1) := by decide +kernel
theorem dX4_firstUnlike_10 : decode cX4_firstUnlike 10 = .ok (.isub, 1) := by decide +kernel
theorem dX4_firstUnlike_11 : decode cX4_firstUnlike 11 = .ok (.istore_n 3, 1) := by decide +kernel
theorem dX4_firstUnlike_12 : decode cX4_firstUnlike 12 = .ok (.iconst 0, 1) := by decide +kernel
theorem dX4_firstUnlike_13 : decode cX4_firstUnlike 13 = .ok (.istore 4, 2) := by decide +kernel
theorem dX4_firstUnlike_15 : decode cX4_firstUnlike 15 = .ok (.iload 4, 2) := by decide +kernel
theorem dX4_firstUnlike_17 : decode cX4_firstUnlike 17 = .ok (.iload_n 3, 1) := by decide +kernel
theorem dX4_firstUnlike_18 : decode cX4_firstUnlike 18 = .ok (.if_icmp .ge 35, 3) := by decide +kernel
theorem dX4_firstUnlike_21 : decode cX4_firstUnlike 21 = .ok (.aload_n 0, 1) := by decide +kernel
theorem dX4_firstUnlike_22 : decode cX4_firstUnlike 22 = .ok (.getfield 25, 3) := by decide +kernel
theorem dX4_firstUnlike_25 : decode cX4_firstUnlike 25 = .ok (.iload_n 1, 1) := by decide +kernel
theorem dX4_firstUnlike_26 : decode cX4_firstUnlike 26 = .ok (.iload 4, 2) := by decide +kernel
theorem dX4_firstUnlike_28 : decode cX4_firstUnlike 28 = .ok (.invokevirtual 50, 3) := by decide +kernel
theorem dX4_firstUnlike_31 : decode cX4_firstUnlike 31 = .ok (.aload_n 0, 1) := by decide +kernel
theorem dX4_firstUnlike_32 : decode cX4_firstUnlike 32 = .ok (.getfield 25, 3) := by decide +kernel
theorem dX4_firstUnlike_35 : decode cX4_firstUnlike 35 = .ok (.iload_n 2, 1) := by decide +kernel
theorem dX4_firstUnlike_36 : decode cX4_firstUnlike 36 = .ok (.iload 4, 2) := by decide +kernel
theorem dX4_firstUnlike_38 : decode cX4_firstUnlike 38 = .ok (.invokevirtual 50, 3) := by decide +kernel
theorem dX4_firstUnlike_41 : decode cX4_firstUnlike 41 = .ok (.if_icmp .eq 6, 3) := by decide +kernel
theorem dX4_firstUnlike_44 : decode cX4_firstUnlike 44 = .ok (.iload 4, 2) := by decide +kernel
theorem dX4_firstUnlike_46 : decode cX4_firstUnlike 46 = .ok (.ireturn, 1) := by decide +kernel
theorem dX4_firstUnlike_47 : decode cX4_firstUnlike 47 = .ok (.iinc 4 1, 3) := by decide +kernel
theorem dX4_firstUnlike_50 : decode cX4_firstUnlike 50 = .ok (.goto (-35), 3) := by decide +kernel
theorem dX4_firstUnlike_53 : decode cX4_firstUnlike 53 = .ok (.iload_n 3, 1) := by decide +kernel
theorem dX4_firstUnlike_54 : decode cX4_firstUnlike 54 = .ok (.iconst 0, 1) := by decide +kernel
theorem dX4_firstUnlike_55 : decode cX4_firstUnlike 55 = .ok (.invokestatic 75, 3) := by decide +kernel
theorem dX4_firstUnlike_58 : decode cX4_firstUnlike 58 = .ok (.ireturn, 1) := by decide +kernel
theorem dX5_init_0 : decode cX5_init 0 = .ok (.aload_n 0, 1) := by decide +kernel
theorem dX5_init_1 : decode cX5_init 1 = .ok (.invokespecial 3, 3) := by decide +kernel
theorem dX5_init_4 : decode cX5_init 4 = .ok (.aload_n 0, 1) := by decide +kernel
theorem dX5_init_5 : decode cX5_init 5 = .ok (.iconst 0, 1) := by decide +kernel
theorem dX5_init_6 : decode cX5_init 6 = .ok (.putfield 9, 3) := by decide +kernel
theorem dX5_init_9 : decode cX5_init 9 = .ok (.aload_n 0, 1) := by decide +kernel
theorem dX5_init_10 : decode cX5_init 10 = .ok (.iconst 0, 1) := by decide +kernel
theorem dX5_init_11 : decode cX5_init 11 = .ok (.putfield 15, 3) := by decide +kernel
theorem dX5_init_14 : decode cX5_init 14 = .ok (.aload_n 0, 1) := by decide +kernel
theorem dX5_init_15 : decode cX5_init 15 = .ok (.iconst 0, 1) := by decide +kernel
theorem dX5_init_16 : decode cX5_init 16 = .ok (.putfield 18, 3) := by decide +kernel
theorem dX5_init_19 : decode cX5_init 19 = .ok (.aload_n 0, 1) := by decide +kernel
theorem dX5_init_20 : decode cX5_init 20 = .ok (.iconst 0, 1) := by decide +kernel
theorem dX5_init_21 : decode cX5_init 21 = .ok (.putfield 21, 3) := by decide +kernel
theorem dX5_init_24 : decode cX5_init 24 = .ok (.aload_n 0, 1) := by decide +kernel
theorem dX5_init_25 : decode cX5_init 25 = .ok (.iconst 0, 1) := by decide +kernel
theorem dX5_init_26 : decode cX5_init 26 = .ok (.putfield 24, 3) := by decide +kernel
theorem dX5_init_29 : decode cX5_init 29 = .ok (.aload_n 0, 1) := by decide +kernel
theorem dX5_init_30 : decode cX5_init 30 = .ok (.iconst (-1), 1) := by decide +kernel
theorem dX5_init_31 : decode cX5_init 31 = .ok (.putfield 27, 3) := by decide +kernel
theorem dX5_init_34 : decode cX5_init 34 = .ok (.aload_n 0, 1) := by decide +kernel
theorem dX5_init_35 : decode cX5_init 35 = .ok (.iconst 0, 1) := by decide +kernel
theorem dX5_init_36 : decode cX5_init 36 = .ok (.putfield 30, 3) := by decide +kernel
theorem dX5_init_39 : decode cX5_init 39 = .ok (.aload_n 0, 1) := by decide +kernel
theorem dX5_init_40 : decode cX5_init 40 = .ok (.aload_n 1, 1) := by decide +kernel
theorem dX5_init_41 : decode cX5_init 41 = .ok (.putfield 34, 3) := by decide +kernel
theorem dX5_init_44 : decode cX5_init 44 = .ok (.aload_n 0, 1) := by decide +kernel
theorem dX5_init_45 : decode cX5_init 45 = .ok (.aload_n 2, 1) := by decide +kernel
theorem dX5_init_46 : decode cX5_init 46 = .ok (.putfield 38, 3) := by decide +kernel
theorem dX5_init_49 : decode cX5_init 49 = .ok (.aload_n 0, 1) := by decide +kernel
theorem dX5_init_50 : decode cX5_init 50 = .ok (.aload_n 2, 1) := by decide +kernel
theorem dX5_init_51 : decode cX5_init 51 = .ok (.getfield 42, 3) := by decide +kernel
theorem dX5_init_54 : decode cX5_init 54 = .ok (.getfield 48, 3) := by decide +kernel
theorem dX5_init_57 : decode cX5_init 57 = .ok (.putfield 54, 3) := by decide +kernel
theorem dX5_init_60 : decode cX5_init 60 = .ok (.aload_n 0, 1) := by decide +kernel
theorem dX5_init_61 : decode cX5_init 61 = .ok (.aload_n 3, 1) := by decide +kernel
theorem dX5_init_62 : decode cX5_init 62 = .ok (.putfield 55, 3) := by decide +kernel
theorem dX5_init_65 : decode cX5_init 65 = .ok (.return_, 1) := by decide +kernel
theorem dX5_faultPlace_0 : decode cX5_faultPlace 0 = .ok (.aload_n 0, 1) := by decide +kernel
theorem dX5_faultPlace_1 : decode cX5_faultPlace 1 = .ok (.getfield 27, 3) := by decide +kernel
theorem dX5_faultPlace_4 : decode cX5_faultPlace 4 = .ok (.ireturn, 1) := by decide +kernel
theorem dX5_readBank_0 : decode cX5_readBank 0 = .ok (.aload_n 0, 1) := by decide +kernel
theorem dX5_readBank_1 : decode cX5_readBank 1 = .ok (.iload_n 1, 1) := by decide +kernel
theorem dX5_readBank_2 : decode cX5_readBank 2 = .ok (.aload_n 0, 1) := by decide +kernel
theorem dX5_readBank_3 : decode cX5_readBank 3 = .ok (.getfield 34, 3) := by decide +kernel
theorem dX5_readBank_6 : decode cX5_readBank 6 = .ok (.arraylength, 1) := by decide +kernel
theorem dX5_readBank_7 : decode cX5_readBank 7 = .ok (.invokestatic 59, 3) := by decide +kernel
theorem dX5_readBank_10 : decode cX5_readBank 10 = .ok (.putfield 9, 3) := by decide +kernel
theorem dX5_readBank_13 : decode cX5_readBank 13 = .ok (.aload_n 0, 1) := by decide +kernel
theorem dX5_readBank_14 : decode cX5_readBank 14 = .ok (.iconst 0, 1) := by decide +kernel
theorem dX5_readBank_15 : decode cX5_readBank 15 = .ok (.putfield 21, 3) := by decide +kernel
theorem dX5_readBank_18 : decode cX5_readBank 18 = .ok (.aload_n 0, 1) := by decide +kernel
theorem dX5_readBank_19 : decode cX5_readBank 19 = .ok (.iconst 0, 1) := by decide +kernel
theorem dX5_readBank_20 : decode cX5_readBank 20 = .ok (.putfield 24, 3) := by decide +kernel
theorem dX5_readBank_23 : decode cX5_readBank 23 = .ok (.aload_n 0, 1) := by decide +kernel
theorem dX5_readBank_24 : decode cX5_readBank 24 = .ok (.iconst (-1), 1) := by decide +kernel
theorem dX5_readBank_25 : decode cX5_readBank 25 = .ok (.putfield 27, 3) := by decide +kernel
theorem dX5_readBank_28 : decode cX5_readBank 28 = .ok (.aload_n 0, 1) := by decide +kernel
theorem dX5_readBank_29 : decode cX5_readBank 29 = .ok (.iconst 0, 1) := by decide +kernel
theorem dX5_readBank_30 : decode cX5_readBank 30 = .ok (.putfield 30, 3) := by decide +kernel
theorem dX5_readBank_33 : decode cX5_readBank 33 = .ok (.aload_n 0, 1) := by decide +kernel
theorem dX5_readBank_34 : decode cX5_readBank 34 = .ok (.invokevirtual 65, 3) := by decide +kernel
theorem dX5_readBank_37 : decode cX5_readBank 37 = .ok (.iconst 0, 1) := by decide +kernel
theorem dX5_readBank_38 : decode cX5_readBank 38 = .ok (.istore_n 2, 1) := by decide +kernel
theorem dX5_readBank_39 : decode cX5_readBank 39 = .ok (.iload_n 2, 1) := by decide +kernel
theorem dX5_readBank_40 : decode cX5_readBank 40 = .ok (.sipush 700, 3) := by decide +kernel
theorem dX5_readBank_43 : decode cX5_readBank 43 = .ok (.if_icmp .ge 109, 3) := by decide +kernel
theorem dX5_readBank_46 : decode cX5_readBank 46 = .ok (.aload_n 0, 1) := by decide +kernel
theorem dX5_readBank_47 : decode cX5_readBank 47 = .ok (.getfield 15, 3) := by decide +kernel
theorem dX5_readBank_50 : decode cX5_readBank 50 = .ok (.ifCond .eq 102, 3) := by decide +kernel
theorem dX5_readBank_53 : decode cX5_readBank 53 = .ok (.aload_n 0, 1) := by decide +kernel
theorem dX5_readBank_54 : decode cX5_readBank 54 = .ok (.getfield 24, 3) := by decide +kernel
theorem dX5_readBank_57 : decode cX5_readBank 57 = .ok (.ifCond .ne 95, 3) := by decide +kernel
theorem dX5_readBank_60 : decode cX5_readBank 60 = .ok (.aload_n 0, 1) := by decide +kernel
theorem dX5_readBank_61 : decode cX5_readBank 61 = .ok (.ldc 68, 2) := by decide +kernel
theorem dX5_readBank_63 : decode cX5_readBank 63 = .ok (.invokevirtual 70, 3) := by decide +kernel
theorem dX5_readBank_66 : decode cX5_readBank 66 = .ok (.ifCond .eq 10, 3) := by decide +kernel
theorem dX5_readBank_69 : decode cX5_readBank 69 = .ok (.aload_n 0, 1) := by decide +kernel
theorem dX5_readBank_70 : decode cX5_readBank 70 = .ok (.invokevirtual 74, 3) := by decide +kernel
theorem dX5_readBank_73 : decode cX5_readBank 73 = .ok (.goto 73, 3) := by decide +kernel
theorem dX5_readBank_76 : decode cX5_readBank 76 = .ok (.aload_n 0, 1) := by decide +kernel
theorem dX5_readBank_77 : decode cX5_readBank 77 = .ok (.ldc 77, 2) := by decide +kernel
theorem dX5_readBank_79 : decode cX5_readBank 79 = .ok (.invokevirtual 70, 3) := by decide +kernel
theorem dX5_readBank_82 : decode cX5_readBank 82 = .ok (.ifCond .eq 10, 3) := by decide +kernel
theorem dX5_readBank_85 : decode cX5_readBank 85 = .ok (.aload_n 0, 1) := by decide +kernel
theorem dX5_readBank_86 : decode cX5_readBank 86 = .ok (.invokevirtual 79, 3) := by decide +kernel
theorem dX5_readBank_89 : decode cX5_readBank 89 = .ok (.goto 57, 3) := by decide +kernel
theorem dX5_readBank_92 : decode cX5_readBank 92 = .ok (.aload_n 0, 1) := by decide +kernel
theorem dX5_readBank_93 : decode cX5_readBank 93 = .ok (.ldc 82, 2) := by decide +kernel
theorem dX5_readBank_95 : decode cX5_readBank 95 = .ok (.invokevirtual 70, 3) := by decide +kernel
theorem dX5_readBank_98 : decode cX5_readBank 98 = .ok (.ifCond .eq 10, 3) := by decide +kernel
theorem dX5_readBank_101 : decode cX5_readBank 101 = .ok (.aload_n 0, 1) := by decide +kernel
theorem dX5_readBank_102 : decode cX5_readBank 102 = .ok (.invokevirtual 84, 3) := by decide +kernel
theorem dX5_readBank_105 : decode cX5_readBank 105 = .ok (.goto 41, 3) := by decide +kernel
theorem dX5_readBank_108 : decode cX5_readBank 108 = .ok (.aload_n 0, 1) := by decide +kernel
theorem dX5_readBank_109 : decode cX5_readBank 109 = .ok (.ldc 87, 2) := by decide +kernel
theorem dX5_readBank_111 : decode cX5_readBank 111 = .ok (.invokevirtual 70, 3) := by decide +kernel
theorem dX5_readBank_114 : decode cX5_readBank 114 = .ok (.ifCond .eq 10, 3) := by decide +kernel
theorem dX5_readBank_117 : decode cX5_readBank 117 = .ok (.aload_n 0, 1) := by decide +kernel
theorem dX5_readBank_118 : decode cX5_readBank 118 = .ok (.invokevirtual 89, 3) := by decide +kernel
theorem dX5_readBank_121 : decode cX5_readBank 121 = .ok (.goto 25, 3) := by decide +kernel
theorem dX5_readBank_124 : decode cX5_readBank 124 = .ok (.aload_n 0, 1) := by decide +kernel
theorem dX5_readBank_125 : decode cX5_readBank 125 = .ok (.ldc 92, 2) := by decide +kernel
theorem dX5_readBank_127 : decode cX5_readBank 127 = .ok (.invokevirtual 70, 3) := by decide +kernel
theorem dX5_readBank_130 : decode cX5_readBank 130 = .ok (.ifCond .eq 10, 3) := by decide +kernel
theorem dX5_readBank_133 : decode cX5_readBank 133 = .ok (.aload_n 0, 1) := by decide +kernel
theorem dX5_readBank_134 : decode cX5_readBank 134 = .ok (.invokevirtual 94, 3) := by decide +kernel
theorem dX5_readBank_137 : decode cX5_readBank 137 = .ok (.goto 9, 3) := by decide +kernel
theorem dX5_readBank_140 : decode cX5_readBank 140 = .ok (.aload_n 0, 1) := by decide +kernel
theorem dX5_readBank_141 : decode cX5_readBank 141 = .ok (.iconst 1, 1) := by decide +kernel
theorem dX5_readBank_142 : decode cX5_readBank 142 = .ok (.invokevirtual 97, 3) := by decide +kernel
theorem dX5_readBank_145 : decode cX5_readBank 145 = .ok (.pop, 1) := by decide +kernel
theorem dX5_readBank_146 : decode cX5_readBank 146 = .ok (.iinc 2 1, 3) := by decide +kernel
theorem dX5_readBank_149 : decode cX5_readBank 149 = .ok (.goto (-110), 3) := by decide +kernel
theorem dX5_readBank_152 : decode cX5_readBank 152 = .ok (.aload_n 0, 1) := by decide +kernel
theorem dX5_readBank_153 : decode cX5_readBank 153 = .ok (.getfield 24, 3) := by decide +kernel
theorem dX5_readBank_156 : decode cX5_readBank 156 = .ok (.ireturn, 1) := by decide +kernel
theorem dX5_next_0 : decode cX5_next 0 = .ok (.aload_n 0, 1) := by decide +kernel
theorem dX5_next_1 : decode cX5_next 1 = .ok (.aload_n 0, 1) := by decide +kernel
theorem dX5_next_2 : decode cX5_next 2 = .ok (.getfield 21, 3) := by decide +kernel
theorem dX5_next_5 : decode cX5_next 5 = .ok (.putfield 18, 3) := by decide +kernel
theorem dX5_next_8 : decode cX5_next 8 = .ok (.aload_n 0, 1) := by decide +kernel
theorem dX5_next_9 : decode cX5_next 9 = .ok (.getfield 18, 3) := by decide +kernel
theorem dX5_next_12 : decode cX5_next 12 = .ok (.aload_n 0, 1) := by decide +kernel
theorem dX5_next_13 : decode cX5_next 13 = .ok (.getfield 9, 3) := by decide +kernel
theorem dX5_next_16 : decode cX5_next 16 = .ok (.if_icmp .ge 44, 3) := by decide +kernel
theorem dX5_next_19 : decode cX5_next 19 = .ok (.aload_n 0, 1) := by decide +kernel
theorem dX5_next_20 : decode cX5_next 20 = .ok (.getfield 34, 3) := by decide +kernel
theorem dX5_next_23 : decode cX5_next 23 = .ok (.aload_n 0, 1) := by decide +kernel
theorem dX5_next_24 : decode cX5_next 24 = .ok (.getfield 18, 3) := by decide +kernel
theorem dX5_next_27 : decode cX5_next 27 = .ok (.iaload, 1) := by decide +kernel
theorem dX5_next_28 : decode cX5_next 28 = .ok (.bipush 32, 2) := by decide +kernel
theorem dX5_next_30 : decode cX5_next 30 = .ok (.if_icmp .eq 17, 3) := by decide +kernel
theorem dX5_next_33 : decode cX5_next 33 = .ok (.aload_n 0, 1) := by decide +kernel
theorem dX5_next_34 : decode cX5_next 34 = .ok (.getfield 34, 3) := by decide +kernel
theorem dX5_next_37 : decode cX5_next 37 = .ok (.aload_n 0, 1) := by decide +kernel
theorem dX5_next_38 : decode cX5_next 38 = .ok (.getfield 18, 3) := by decide +kernel
theorem dX5_next_41 : decode cX5_next 41 = .ok (.iaload, 1) := by decide +kernel
theorem dX5_next_42 : decode cX5_next 42 = .ok (.bipush 10, 2) := by decide +kernel
theorem dX5_next_44 : decode cX5_next 44 = .ok (.if_icmp .ne 16, 3) := by decide +kernel
theorem dX5_next_47 : decode cX5_next 47 = .ok (.aload_n 0, 1) := by decide +kernel
theorem dX5_next_48 : decode cX5_next 48 = .ok (.dup, 1) := by decide +kernel
theorem dX5_next_49 : decode cX5_next 49 = .ok (.getfield 18, 3) := by decide +kernel
theorem dX5_next_52 : decode cX5_next 52 = .ok (.iconst 1, 1) := by decide +kernel
theorem dX5_next_53 : decode cX5_next 53 = .ok (.iadd, 1) := by decide +kernel
theorem dX5_next_54 : decode cX5_next 54 = .ok (.putfield 18, 3) := by decide +kernel
theorem dX5_next_57 : decode cX5_next 57 = .ok (.goto (-49), 3) := by decide +kernel
theorem dX5_next_60 : decode cX5_next 60 = .ok (.aload_n 0, 1) := by decide +kernel
theorem dX5_next_61 : decode cX5_next 61 = .ok (.aload_n 0, 1) := by decide +kernel
theorem dX5_next_62 : decode cX5_next 62 = .ok (.getfield 18, 3) := by decide +kernel
theorem dX5_next_65 : decode cX5_next 65 = .ok (.aload_n 0, 1) := by decide +kernel
theorem dX5_next_66 : decode cX5_next 66 = .ok (.getfield 9, 3) := by decide +kernel
theorem dX5_next_69 : decode cX5_next 69 = .ok (.if_icmp .ge 18, 3) := by decide +kernel
theorem dX5_next_72 : decode cX5_next 72 = .ok (.aload_n 0, 1) := by decide +kernel
theorem dX5_next_73 : decode cX5_next 73 = .ok (.getfield 34, 3) := by decide +kernel
theorem dX5_next_76 : decode cX5_next 76 = .ok (.aload_n 0, 1) := by decide +kernel
theorem dX5_next_77 : decode cX5_next 77 = .ok (.getfield 18, 3) := by decide +kernel
theorem dX5_next_80 : decode cX5_next 80 = .ok (.iaload, 1) := by decide +kernel
theorem dX5_next_81 : decode cX5_next 81 = .ok (.invokestatic 101, 3) := by decide +kernel
theorem dX5_next_84 : decode cX5_next 84 = .ok (.goto 4, 3) := by decide +kernel
theorem dX5_next_87 : decode cX5_next 87 = .ok (.iconst 0, 1) := by decide +kernel
theorem dX5_next_88 : decode cX5_next 88 = .ok (.putfield 15, 3) := by decide +kernel
theorem dX5_next_91 : decode cX5_next 91 = .ok (.aload_n 0, 1) := by decide +kernel
theorem dX5_next_92 : decode cX5_next 92 = .ok (.aload_n 0, 1) := by decide +kernel
theorem dX5_next_93 : decode cX5_next 93 = .ok (.getfield 18, 3) := by decide +kernel
theorem dX5_next_96 : decode cX5_next 96 = .ok (.iconst 1, 1) := by decide +kernel
theorem dX5_next_97 : decode cX5_next 97 = .ok (.iadd, 1) := by decide +kernel
theorem dX5_next_98 : decode cX5_next 98 = .ok (.aload_n 0, 1) := by decide +kernel
theorem dX5_next_99 : decode cX5_next 99 = .ok (.getfield 9, 3) := by decide +kernel
theorem dX5_next_102 : decode cX5_next 102 = .ok (.invokestatic 59, 3) := by decide +kernel
theorem dX5_next_105 : decode cX5_next 105 = .ok (.putfield 21, 3) := by decide +kernel
theorem dX5_next_108 : decode cX5_next 108 = .ok (.aload_n 0, 1) := by decide +kernel
theorem dX5_next_109 : decode cX5_next 109 = .ok (.getfield 15, 3) := by decide +kernel
theorem dX5_next_112 : decode cX5_next 112 = .ok (.iconst 2, 1) := by decide +kernel
theorem dX5_next_113 : decode cX5_next 113 = .ok (.if_icmp .eq 11, 3) := by decide +kernel
theorem dX5_next_116 : decode cX5_next 116 = .ok (.aload_n 0, 1) := by decide +kernel
theorem dX5_next_117 : decode cX5_next 117 = .ok (.getfield 15, 3) := by decide +kernel
theorem dX5_next_120 : decode cX5_next 120 = .ok (.iconst 3, 1) := by decide +kernel
theorem dX5_next_121 : decode cX5_next 121 = .ok (.if_icmp .ne 46, 3) := by decide +kernel
theorem dX5_next_124 : decode cX5_next 124 = .ok (.aload_n 0, 1) := by decide +kernel
theorem dX5_next_125 : decode cX5_next 125 = .ok (.getfield 21, 3) := by decide +kernel
theorem dX5_next_128 : decode cX5_next 128 = .ok (.aload_n 0, 1) := by decide +kernel
theorem dX5_next_129 : decode cX5_next 129 = .ok (.getfield 9, 3) := by decide +kernel
theorem dX5_next_132 : decode cX5_next 132 = .ok (.if_icmp .ge 35, 3) := by decide +kernel
theorem dX5_next_135 : decode cX5_next 135 = .ok (.aload_n 0, 1) := by decide +kernel
theorem dX5_next_136 : decode cX5_next 136 = .ok (.getfield 34, 3) := by decide +kernel
theorem dX5_next_139 : decode cX5_next 139 = .ok (.aload_n 0, 1) := by decide +kernel
theorem dX5_next_140 : decode cX5_next 140 = .ok (.getfield 21, 3) := by decide +kernel
theorem dX5_next_143 : decode cX5_next 143 = .ok (.iaload, 1) := by decide +kernel
theorem dX5_next_144 : decode cX5_next 144 = .ok (.invokestatic 101, 3) := by decide +kernel
theorem dX5_next_147 : decode cX5_next 147 = .ok (.aload_n 0, 1) := by decide +kernel
theorem dX5_next_148 : decode cX5_next 148 = .ok (.getfield 15, 3) := by decide +kernel
theorem dX5_next_151 : decode cX5_next 151 = .ok (.if_icmp .ne 16, 3) := by decide +kernel
theorem dX5_next_154 : decode cX5_next 154 = .ok (.aload_n 0, 1) := by decide +kernel
theorem dX5_next_155 : decode cX5_next 155 = .ok (.dup, 1) := by decide +kernel
theorem dX5_next_156 : decode cX5_next 156 = .ok (.getfield 21, 3) := by decide +kernel
theorem dX5_next_159 : decode cX5_next 159 = .ok (.iconst 1, 1) := by decide +kernel
theorem dX5_next_160 : decode cX5_next 160 = .ok (.iadd, 1) := by decide +kernel
theorem dX5_next_161 : decode cX5_next 161 = .ok (.putfield 21, 3) := by decide +kernel
theorem dX5_next_164 : decode cX5_next 164 = .ok (.goto (-56), 3) := by decide +kernel
theorem dX5_next_167 : decode cX5_next 167 = .ok (.return_, 1) := by decide +kernel
theorem dX5_kindOf_0 : decode cX5_kindOf 0 = .ok (.iload_n 0, 1) := by decide +kernel
theorem dX5_kindOf_1 : decode cX5_kindOf 1 = .ok (.bipush 97, 2) := by decide +kernel
theorem dX5_kindOf_3 : decode cX5_kindOf 3 = .ok (.if_icmp .lt 11, 3) := by decide +kernel
theorem dX5_kindOf_6 : decode cX5_kindOf 6 = .ok (.iload_n 0, 1) := by decide +kernel
theorem dX5_kindOf_7 : decode cX5_kindOf 7 = .ok (.bipush 122, 2) := by decide +kernel
theorem dX5_kindOf_9 : decode cX5_kindOf 9 = .ok (.if_icmp .gt 5, 3) := by decide +kernel
theorem dX5_kindOf_12 : decode cX5_kindOf 12 = .ok (.iconst 2, 1) := by decide +kernel
theorem dX5_kindOf_13 : decode cX5_kindOf 13 = .ok (.ireturn, 1) := by decide +kernel
theorem dX5_kindOf_14 : decode cX5_kindOf 14 = .ok (.iload_n 0, 1) := by decide +kernel
theorem dX5_kindOf_15 : decode cX5_kindOf 15 = .ok (.bipush 48, 2) := by decide +kernel
theorem dX5_kindOf_17 : decode cX5_kindOf 17 = .ok (.if_icmp .lt 11, 3) := by decide +kernel
theorem dX5_kindOf_20 : decode cX5_kindOf 20 = .ok (.iload_n 0, 1) := by decide +kernel
theorem dX5_kindOf_21 : decode cX5_kindOf 21 = .ok (.bipush 57, 2) := by decide +kernel
theorem dX5_kindOf_23 : decode cX5_kindOf 23 = .ok (.if_icmp .gt 5, 3) := by decide +kernel
theorem dX5_kindOf_26 : decode cX5_kindOf 26 = .ok (.iconst 3, 1) := by decide +kernel
theorem dX5_kindOf_27 : decode cX5_kindOf 27 = .ok (.ireturn, 1) := by decide +kernel
theorem dX5_kindOf_28 : decode cX5_kindOf 28 = .ok (.iload_n 0, 1) := by decide +kernel
theorem dX5_kindOf_29 : decode cX5_kindOf 29 = .ok (.bipush 63, 2) := by decide +kernel
theorem dX5_kindOf_31 : decode cX5_kindOf 31 = .ok (.if_icmp .eq 27, 3) := by decide +kernel
theorem dX5_kindOf_34 : decode cX5_kindOf 34 = .ok (.iload_n 0, 1) := by decide +kernel
theorem dX5_kindOf_35 : decode cX5_kindOf 35 = .ok (.bipush 40, 2) := by decide +kernel
theorem dX5_kindOf_37 : decode cX5_kindOf 37 = .ok (.if_icmp .eq 21, 3) := by decide +kernel
theorem dX5_kindOf_40 : decode cX5_kindOf 40 = .ok (.iload_n 0, 1) := by decide +kernel
theorem dX5_kindOf_41 : decode cX5_kindOf 41 = .ok (.bipush 41, 2) := by decide +kernel
theorem dX5_kindOf_43 : decode cX5_kindOf 43 = .ok (.if_icmp .eq 15, 3) := by decide +kernel
theorem dX5_kindOf_46 : decode cX5_kindOf 46 = .ok (.iload_n 0, 1) := by decide +kernel
theorem dX5_kindOf_47 : decode cX5_kindOf 47 = .ok (.bipush 44, 2) := by decide +kernel
theorem dX5_kindOf_49 : decode cX5_kindOf 49 = .ok (.if_icmp .eq 9, 3) := by decide +kernel
theorem dX5_kindOf_52 : decode cX5_kindOf 52 = .ok (.iload_n 0, 1) := by decide +kernel
theorem dX5_kindOf_53 : decode cX5_kindOf 53 = .ok (.bipush 59, 2) := by decide +kernel
theorem dX5_kindOf_55 : decode cX5_kindOf 55 = .ok (.if_icmp .ne 7, 3) := by decide +kernel
theorem dX5_kindOf_58 : decode cX5_kindOf 58 = .ok (.iconst 1, 1) := by decide +kernel
theorem dX5_kindOf_59 : decode cX5_kindOf 59 = .ok (.goto 4, 3) := by decide +kernel
theorem dX5_kindOf_62 : decode cX5_kindOf 62 = .ok (.iconst 0, 1) := by decide +kernel
theorem dX5_kindOf_63 : decode cX5_kindOf 63 = .ok (.istore_n 1, 1) := by decide +kernel
theorem dX5_kindOf_64 : decode cX5_kindOf 64 = .ok (.iload_n 1, 1) := by decide +kernel
theorem dX5_kindOf_65 : decode cX5_kindOf 65 = .ok (.ifCond .eq 7, 3) := by decide +kernel
theorem dX5_kindOf_68 : decode cX5_kindOf 68 = .ok (.iload_n 0, 1) := by decide +kernel
theorem dX5_kindOf_69 : decode cX5_kindOf 69 = .ok (.goto 4, 3) := by decide +kernel
theorem dX5_kindOf_72 : decode cX5_kindOf 72 = .ok (.iconst 1, 1) := by decide +kernel
theorem dX5_kindOf_73 : decode cX5_kindOf 73 = .ok (.ireturn, 1) := by decide +kernel
theorem dX5_fail_0 : decode cX5_fail 0 = .ok (.aload_n 0, 1) := by decide +kernel
theorem dX5_fail_1 : decode cX5_fail 1 = .ok (.getfield 24, 3) := by decide +kernel
theorem dX5_fail_4 : decode cX5_fail 4 = .ok (.ifCond .ne 16, 3) := by decide +kernel
theorem dX5_fail_7 : decode cX5_fail 7 = .ok (.aload_n 0, 1) := by decide +kernel
theorem dX5_fail_8 : decode cX5_fail 8 = .ok (.iload_n 1, 1) := by decide +kernel
theorem dX5_fail_9 : decode cX5_fail 9 = .ok (.putfield 24, 3) := by decide +kernel
theorem dX5_fail_12 : decode cX5_fail 12 = .ok (.aload_n 0, 1) := by decide +kernel
theorem dX5_fail_13 : decode cX5_fail 13 = .ok (.aload_n 0, 1) := by decide +kernel
theorem dX5_fail_14 : decode cX5_fail 14 = .ok (.getfield 18, 3) := by decide +kernel
theorem dX5_fail_17 : decode cX5_fail 17 = .ok (.putfield 27, 3) := by decide +kernel
theorem dX5_fail_20 : decode cX5_fail 20 = .ok (.iconst (-1), 1) := by decide +kernel
theorem dX5_fail_21 : decode cX5_fail 21 = .ok (.ireturn, 1) := by decide +kernel
theorem dX5_isWord_0 : decode cX5_isWord 0 = .ok (.aload_n 0, 1) := by decide +kernel
theorem dX5_isWord_1 : decode cX5_isWord 1 = .ok (.getfield 15, 3) := by decide +kernel
theorem dX5_isWord_4 : decode cX5_isWord 4 = .ok (.iconst 2, 1) := by decide +kernel
theorem dX5_isWord_5 : decode cX5_isWord 5 = .ok (.if_icmp .ne 19, 3) := by decide +kernel
theorem dX5_isWord_8 : decode cX5_isWord 8 = .ok (.aload_n 0, 1) := by decide +kernel
theorem dX5_isWord_9 : decode cX5_isWord 9 = .ok (.getfield 21, 3) := by decide +kernel
theorem dX5_isWord_12 : decode cX5_isWord 12 = .ok (.aload_n 0, 1) := by decide +kernel
theorem dX5_isWord_13 : decode cX5_isWord 13 = .ok (.getfield 18, 3) := by decide +kernel
theorem dX5_isWord_16 : decode cX5_isWord 16 = .ok (.isub, 1) := by decide +kernel
theorem dX5_isWord_17 : decode cX5_isWord 17 = .ok (.aload_n 1, 1) := by decide +kernel
theorem dX5_isWord_18 : decode cX5_isWord 18 = .ok (.invokevirtual 104, 3) := by decide +kernel
theorem dX5_isWord_21 : decode cX5_isWord 21 = .ok (.if_icmp .eq 5, 3) := by decide +kernel
theorem dX5_isWord_24 : decode cX5_isWord 24 = .ok (.iconst 0, 1) := by decide +kernel
theorem dX5_isWord_25 : decode cX5_isWord 25 = .ok (.ireturn, 1) := by decide +kernel
theorem dX5_isWord_26 : decode cX5_isWord 26 = .ok (.iconst 0, 1) := by decide +kernel
theorem dX5_isWord_27 : decode cX5_isWord 27 = .ok (.istore_n 2, 1) := by decide +kernel
theorem dX5_isWord_28 : decode cX5_isWord 28 = .ok (.iload_n 2, 1) := by decide +kernel
theorem dX5_isWord_29 : decode cX5_isWord 29 = .ok (.aload_n 1, 1) := by decide +kernel
theorem dX5_isWord_30 : decode cX5_isWord 30 = .ok (.invokevirtual 104, 3) := by decide +kernel
theorem dX5_isWord_33 : decode cX5_isWord 33 = .ok (.if_icmp .ge 30, 3) := by decide +kernel
theorem dX5_isWord_36 : decode cX5_isWord 36 = .ok (.aload_n 0, 1) := by decide +kernel
theorem dX5_isWord_37 : decode cX5_isWord 37 = .ok (.getfield 34, 3) := by decide +kernel
theorem dX5_isWord_40 : decode cX5_isWord 40 = .ok (.aload_n 0, 1) := by decide +kernel
theorem dX5_isWord_41 : decode cX5_isWord 41 = .ok (.getfield 18, 3) := by decide +kernel
theorem dX5_isWord_44 : decode cX5_isWord 44 = .ok (.iload_n 2, 1) := by decide +kernel
theorem dX5_isWord_45 : decode cX5_isWord 45 = .ok (.iadd, 1) := by decide +kernel
theorem dX5_isWord_46 : decode cX5_isWord 46 = .ok (.iaload, 1) := by decide +kernel
theorem dX5_isWord_47 : decode cX5_isWord 47 = .ok (.aload_n 1, 1) := by decide +kernel
theorem dX5_isWord_48 : decode cX5_isWord 48 = .ok (.iload_n 2, 1) := by decide +kernel
theorem dX5_isWord_49 : decode cX5_isWord 49 = .ok (.invokevirtual 109, 3) := by decide +kernel
theorem dX5_isWord_52 : decode cX5_isWord 52 = .ok (.if_icmp .eq 5, 3) := by decide +kernel
theorem dX5_isWord_55 : decode cX5_isWord 55 = .ok (.iconst 0, 1) := by decide +kernel
theorem dX5_isWord_56 : decode cX5_isWord 56 = .ok (.ireturn, 1) := by decide +kernel
theorem dX5_isWord_57 : decode cX5_isWord 57 = .ok (.iinc 2 1, 3) := by decide +kernel
theorem dX5_isWord_60 : decode cX5_isWord 60 = .ok (.goto (-32), 3) := by decide +kernel
theorem dX5_isWord_63 : decode cX5_isWord 63 = .ok (.iconst 1, 1) := by decide +kernel
theorem dX5_isWord_64 : decode cX5_isWord 64 = .ok (.ireturn, 1) := by decide +kernel
theorem dX5_pass_0 : decode cX5_pass 0 = .ok (.aload_n 0, 1) := by decide +kernel
theorem dX5_pass_1 : decode cX5_pass 1 = .ok (.getfield 24, 3) := by decide +kernel
theorem dX5_pass_4 : decode cX5_pass 4 = .ok (.ifCond .eq 4, 3) := by decide +kernel
theorem dX5_pass_7 : decode cX5_pass 7 = .ok (.return_, 1) := by decide +kernel
theorem dX5_pass_8 : decode cX5_pass 8 = .ok (.aload_n 0, 1) := by decide +kernel
theorem dX5_pass_9 : decode cX5_pass 9 = .ok (.getfield 15, 3) := by decide +kernel
theorem dX5_pass_12 : decode cX5_pass 12 = .ok (.iload_n 1, 1) := by decide +kernel
theorem dX5_pass_13 : decode cX5_pass 13 = .ok (.if_icmp .eq 10, 3) := by decide +kernel
theorem dX5_pass_16 : decode cX5_pass 16 = .ok (.aload_n 0, 1) := by decide +kernel
theorem dX5_pass_17 : decode cX5_pass 17 = .ok (.iconst 1, 1) := by decide +kernel
theorem dX5_pass_18 : decode cX5_pass 18 = .ok (.invokevirtual 97, 3) := by decide +kernel
theorem dX5_pass_21 : decode cX5_pass 21 = .ok (.pop, 1) := by decide +kernel
theorem dX5_pass_22 : decode cX5_pass 22 = .ok (.return_, 1) := by decide +kernel
theorem dX5_pass_23 : decode cX5_pass 23 = .ok (.aload_n 0, 1) := by decide +kernel
theorem dX5_pass_24 : decode cX5_pass 24 = .ok (.invokevirtual 65, 3) := by decide +kernel
theorem dX5_pass_27 : decode cX5_pass 27 = .ok (.return_, 1) := by decide +kernel
theorem dX5_readLoneTerm_0 : decode cX5_readLoneTerm 0 = .ok (.aload_n 0, 1) := by decide +kernel
theorem dX5_readLoneTerm_1 : decode cX5_readLoneTerm 1 = .ok (.invokevirtual 65, 3) := by decide +kernel
theorem dX5_readLoneTerm_4 : decode cX5_readLoneTerm 4 = .ok (.aload_n 0, 1) := by decide +kernel
theorem dX5_readLoneTerm_5 : decode cX5_readLoneTerm 5 = .ok (.iconst 1, 1) := by decide +kernel
theorem dX5_readLoneTerm_6 : decode cX5_readLoneTerm 6 = .ok (.invokevirtual 113, 3) := by decide +kernel
theorem dX5_readLoneTerm_9 : decode cX5_readLoneTerm 9 = .ok (.pop, 1) := by decide +kernel
theorem dX5_readLoneTerm_10 : decode cX5_readLoneTerm 10 = .ok (.aload_n 0, 1) := by decide +kernel
theorem dX5_readLoneTerm_11 : decode cX5_readLoneTerm 11 = .ok (.bipush 59, 2) := by decide +kernel
theorem dX5_readLoneTerm_13 : decode cX5_readLoneTerm 13 = .ok (.invokevirtual 116, 3) := by decide +kernel
theorem dX5_readLoneTerm_16 : decode cX5_readLoneTerm 16 = .ok (.return_, 1) := by decide +kernel
theorem dX5_readSymbol_0 : decode cX5_readSymbol 0 = .ok (.aload_n 0, 1) := by decide +kernel
theorem dX5_readSymbol_1 : decode cX5_readSymbol 1 = .ok (.getfield 54, 3) := by decide +kernel
theorem dX5_readSymbol_4 : decode cX5_readSymbol 4 = .ok (.getfield 120, 3) := by decide +kernel
theorem dX5_readSymbol_7 : decode cX5_readSymbol 7 = .ok (.bipush 10, 2) := by decide +kernel
theorem dX5_readSymbol_9 : decode cX5_readSymbol 9 = .ok (.if_icmp .lt 10, 3) := by decide +kernel
theorem dX5_readSymbol_12 : decode cX5_readSymbol 12 = .ok (.aload_n 0, 1) := by decide +kernel
theorem dX5_readSymbol_13 : decode cX5_readSymbol 13 = .ok (.iconst 2, 1) := by decide +kernel
theorem dX5_readSymbol_14 : decode cX5_readSymbol 14 = .ok (.invokevirtual 97, 3) := by decide +kernel
theorem dX5_readSymbol_17 : decode cX5_readSymbol 17 = .ok (.pop, 1) := by decide +kernel
theorem dX5_readSymbol_18 : decode cX5_readSymbol 18 = .ok (.return_, 1) := by decide +kernel
theorem dX5_readSymbol_19 : decode cX5_readSymbol 19 = .ok (.aload_n 0, 1) := by decide +kernel
theorem dX5_readSymbol_20 : decode cX5_readSymbol 20 = .ok (.invokevirtual 65, 3) := by decide +kernel
theorem dX5_readSymbol_23 : decode cX5_readSymbol 23 = .ok (.aload_n 0, 1) := by decide +kernel
theorem dX5_readSymbol_24 : decode cX5_readSymbol 24 = .ok (.invokevirtual 125, 3) := by decide +kernel
theorem dX5_readSymbol_27 : decode cX5_readSymbol 27 = .ok (.istore_n 1, 1) := by decide +kernel
theorem dX5_readSymbol_28 : decode cX5_readSymbol 28 = .ok (.aload_n 0, 1) := by decide +kernel
theorem dX5_readSymbol_29 : decode cX5_readSymbol 29 = .ok (.iconst 0, 1) := by decide +kernel
theorem dX5_readSymbol_30 : decode cX5_readSymbol 30 = .ok (.iconst 3, 1) := by decide +kernel
theorem dX5_readSymbol_31 : decode cX5_readSymbol 31 = .ok (.invokevirtual 128, 3) := by decide +kernel
theorem dX5_readSymbol_34 : decode cX5_readSymbol 34 = .ok (.istore_n 2, 1) := by decide +kernel
theorem dX5_readSymbol_35 : decode cX5_readSymbol 35 = .ok (.aload_n 0, 1) := by decide +kernel
theorem dX5_readSymbol_36 : decode cX5_readSymbol 36 = .ok (.iconst 1, 1) := by decide +kernel
theorem dX5_readSymbol_37 : decode cX5_readSymbol 37 = .ok (.bipush 9, 2) := by decide +kernel
theorem dX5_readSymbol_39 : decode cX5_readSymbol 39 = .ok (.invokevirtual 128, 3) := by decide +kernel
theorem dX5_readSymbol_42 : decode cX5_readSymbol 42 = .ok (.istore_n 3, 1) := by decide +kernel
theorem dX5_readSymbol_43 : decode cX5_readSymbol 43 = .ok (.aload_n 0, 1) := by decide +kernel
theorem dX5_readSymbol_44 : decode cX5_readSymbol 44 = .ok (.bipush 59, 2) := by decide +kernel
theorem dX5_readSymbol_46 : decode cX5_readSymbol 46 = .ok (.invokevirtual 116, 3) := by decide +kernel
theorem dX5_readSymbol_49 : decode cX5_readSymbol 49 = .ok (.aload_n 0, 1) := by decide +kernel
theorem dX5_readSymbol_50 : decode cX5_readSymbol 50 = .ok (.getfield 24, 3) := by decide +kernel
theorem dX5_readSymbol_53 : decode cX5_readSymbol 53 = .ok (.ifCond .ne 13, 3) := by decide +kernel
theorem dX5_readSymbol_56 : decode cX5_readSymbol 56 = .ok (.aload_n 0, 1) := by decide +kernel
theorem dX5_readSymbol_57 : decode cX5_readSymbol 57 = .ok (.getfield 54, 3) := by decide +kernel
theorem dX5_readSymbol_60 : decode cX5_readSymbol 60 = .ok (.iload_n 1, 1) := by decide +kernel
theorem dX5_readSymbol_61 : decode cX5_readSymbol 61 = .ok (.iload_n 2, 1) := by decide +kernel
theorem dX5_readSymbol_62 : decode cX5_readSymbol 62 = .ok (.iload_n 3, 1) := by decide +kernel
theorem dX5_readSymbol_63 : decode cX5_readSymbol 63 = .ok (.invokevirtual 131, 3) := by decide +kernel
theorem dX5_readSymbol_66 : decode cX5_readSymbol 66 = .ok (.return_, 1) := by decide +kernel
theorem dX5_readNewName_0 : decode cX5_readNewName 0 = .ok (.aload_n 0, 1) := by decide +kernel
theorem dX5_readNewName_1 : decode cX5_readNewName 1 = .ok (.getfield 15, 3) := by decide +kernel
theorem dX5_readNewName_4 : decode cX5_readNewName 4 = .ok (.iconst 2, 1) := by decide +kernel
theorem dX5_readNewName_5 : decode cX5_readNewName 5 = .ok (.if_icmp .eq 9, 3) := by decide +kernel
theorem dX5_readNewName_8 : decode cX5_readNewName 8 = .ok (.aload_n 0, 1) := by decide +kernel
theorem dX5_readNewName_9 : decode cX5_readNewName 9 = .ok (.iconst 1, 1) := by decide +kernel
theorem dX5_readNewName_10 : decode cX5_readNewName 10 = .ok (.invokevirtual 97, 3) := by decide +kernel
theorem dX5_readNewName_13 : decode cX5_readNewName 13 = .ok (.ireturn, 1) := by decide +kernel
theorem dX5_readNewName_14 : decode cX5_readNewName 14 = .ok (.aload_n 0, 1) := by decide +kernel
theorem dX5_readNewName_15 : decode cX5_readNewName 15 = .ok (.getfield 21, 3) := by decide +kernel
theorem dX5_readNewName_18 : decode cX5_readNewName 18 = .ok (.aload_n 0, 1) := by decide +kernel
theorem dX5_readNewName_19 : decode cX5_readNewName 19 = .ok (.getfield 18, 3) := by decide +kernel
theorem dX5_readNewName_22 : decode cX5_readNewName 22 = .ok (.isub, 1) := by decide +kernel
theorem dX5_readNewName_23 : decode cX5_readNewName 23 = .ok (.iconst 1, 1) := by decide +kernel
theorem dX5_readNewName_24 : decode cX5_readNewName 24 = .ok (.if_icmp .le 9, 3) := by decide +kernel
theorem dX5_readNewName_27 : decode cX5_readNewName 27 = .ok (.aload_n 0, 1) := by decide +kernel
theorem dX5_readNewName_28 : decode cX5_readNewName 28 = .ok (.iconst 2, 1) := by decide +kernel
theorem dX5_readNewName_29 : decode cX5_readNewName 29 = .ok (.invokevirtual 97, 3) := by decide +kernel
theorem dX5_readNewName_32 : decode cX5_readNewName 32 = .ok (.ireturn, 1) := by decide +kernel
theorem dX5_readNewName_33 : decode cX5_readNewName 33 = .ok (.aload_n 0, 1) := by decide +kernel
theorem dX5_readNewName_34 : decode cX5_readNewName 34 = .ok (.getfield 34, 3) := by decide +kernel
theorem dX5_readNewName_37 : decode cX5_readNewName 37 = .ok (.aload_n 0, 1) := by decide +kernel
theorem dX5_readNewName_38 : decode cX5_readNewName 38 = .ok (.getfield 18, 3) := by decide +kernel
theorem dX5_readNewName_41 : decode cX5_readNewName 41 = .ok (.iaload, 1) := by decide +kernel
theorem dX5_readNewName_42 : decode cX5_readNewName 42 = .ok (.istore_n 1, 1) := by decide +kernel
theorem dX5_readNewName_43 : decode cX5_readNewName 43 = .ok (.aload_n 0, 1) := by decide +kernel
theorem dX5_readNewName_44 : decode cX5_readNewName 44 = .ok (.getfield 54, 3) := by decide +kernel
theorem dX5_readNewName_47 : decode cX5_readNewName 47 = .ok (.iload_n 1, 1) := by decide +kernel
theorem dX5_readNewName_48 : decode cX5_readNewName 48 = .ok (.invokevirtual 135, 3) := by decide +kernel
theorem dX5_readNewName_51 : decode cX5_readNewName 51 = .ok (.iconst (-1), 1) := by decide +kernel
theorem dX5_readNewName_52 : decode cX5_readNewName 52 = .ok (.if_icmp .eq 9, 3) := by decide +kernel
theorem dX5_readNewName_55 : decode cX5_readNewName 55 = .ok (.aload_n 0, 1) := by decide +kernel
theorem dX5_readNewName_56 : decode cX5_readNewName 56 = .ok (.iconst 4, 1) := by decide +kernel
theorem dX5_readNewName_57 : decode cX5_readNewName 57 = .ok (.invokevirtual 97, 3) := by decide +kernel
theorem dX5_readNewName_60 : decode cX5_readNewName 60 = .ok (.ireturn, 1) := by decide +kernel
theorem dX5_readNewName_61 : decode cX5_readNewName 61 = .ok (.aload_n 0, 1) := by decide +kernel
theorem dX5_readNewName_62 : decode cX5_readNewName 62 = .ok (.invokevirtual 65, 3) := by decide +kernel
theorem dX5_readNewName_65 : decode cX5_readNewName 65 = .ok (.iload_n 1, 1) := by decide +kernel
theorem dX5_readNewName_66 : decode cX5_readNewName 66 = .ok (.ireturn, 1) := by decide +kernel
theorem dX5_readNumber_0 : decode cX5_readNumber 0 = .ok (.aload_n 0, 1) := by decide +kernel
theorem dX5_readNumber_1 : decode cX5_readNumber 1 = .ok (.getfield 24, 3) := by decide +kernel
theorem dX5_readNumber_4 : decode cX5_readNumber 4 = .ok (.ifCond .eq 5, 3) := by decide +kernel
theorem dX5_readNumber_7 : decode cX5_readNumber 7 = .ok (.iconst (-1), 1) := by decide +kernel
theorem dX5_readNumber_8 : decode cX5_readNumber 8 = .ok (.ireturn, 1) := by decide +kernel
theorem dX5_readNumber_9 : decode cX5_readNumber 9 = .ok (.aload_n 0, 1) := by decide +kernel
theorem dX5_readNumber_10 : decode cX5_readNumber 10 = .ok (.getfield 15, 3) := by decide +kernel
theorem dX5_readNumber_13 : decode cX5_readNumber 13 = .ok (.iconst 3, 1) := by decide +kernel
theorem dX5_readNumber_14 : decode cX5_readNumber 14 = .ok (.if_icmp .eq 9, 3) := by decide +kernel
theorem dX5_readNumber_17 : decode cX5_readNumber 17 = .ok (.aload_n 0, 1) := by decide +kernel
theorem dX5_readNumber_18 : decode cX5_readNumber 18 = .ok (.iconst 1, 1) := by decide +kernel
theorem dX5_readNumber_19 : decode cX5_readNumber 19 = .ok (.invokevirtual 97, 3) := by decide +kernel
theorem dX5_readNumber_22 : decode cX5_readNumber 22 = .ok (.ireturn, 1) := by decide +kernel
theorem dX5_readNumber_23 : decode cX5_readNumber 23 = .ok (.aload_n 0, 1) := by decide +kernel
theorem dX5_readNumber_24 : decode cX5_readNumber 24 = .ok (.getfield 34, 3) := by decide +kernel
theorem dX5_readNumber_27 : decode cX5_readNumber 27 = .ok (.aload_n 0, 1) := by decide +kernel
theorem dX5_readNumber_28 : decode cX5_readNumber 28 = .ok (.getfield 18, 3) := by decide +kernel
theorem dX5_readNumber_31 : decode cX5_readNumber 31 = .ok (.iaload, 1) := by decide +kernel
theorem dX5_readNumber_32 : decode cX5_readNumber 32 = .ok (.bipush 48, 2) := by decide +kernel
theorem dX5_readNumber_34 : decode cX5_readNumber 34 = .ok (.isub, 1) := by decide +kernel
theorem dX5_readNumber_35 : decode cX5_readNumber 35 = .ok (.istore_n 3, 1) := by decide +kernel
theorem dX5_readNumber_36 : decode cX5_readNumber 36 = .ok (.aload_n 0, 1) := by decide +kernel
theorem dX5_readNumber_37 : decode cX5_readNumber 37 = .ok (.getfield 21, 3) := by decide +kernel
theorem dX5_readNumber_40 : decode cX5_readNumber 40 = .ok (.aload_n 0, 1) := by decide +kernel
theorem dX5_readNumber_41 : decode cX5_readNumber 41 = .ok (.getfield 18, 3) := by decide +kernel
theorem dX5_readNumber_44 : decode cX5_readNumber 44 = .ok (.isub, 1) := by decide +kernel
theorem dX5_readNumber_45 : decode cX5_readNumber 45 = .ok (.iconst 1, 1) := by decide +kernel
theorem dX5_readNumber_46 : decode cX5_readNumber 46 = .ok (.if_icmp .gt 13, 3) := by decide +kernel
theorem dX5_readNumber_49 : decode cX5_readNumber 49 = .ok (.iload_n 3, 1) := by decide +kernel
theorem dX5_readNumber_50 : decode cX5_readNumber 50 = .ok (.iload_n 1, 1) := by decide +kernel
theorem dX5_readNumber_51 : decode cX5_readNumber 51 = .ok (.if_icmp .lt 8, 3) := by decide +kernel
theorem dX5_readNumber_54 : decode cX5_readNumber 54 = .ok (.iload_n 3, 1) := by decide +kernel
theorem dX5_readNumber_55 : decode cX5_readNumber 55 = .ok (.iload_n 2, 1) := by decide +kernel
theorem dX5_readNumber_56 : decode cX5_readNumber 56 = .ok (.if_icmp .le 9, 3) := by decide +kernel
theorem dX5_readNumber_59 : decode cX5_readNumber 59 = .ok (.aload_n 0, 1) := by decide +kernel
theorem dX5_readNumber_60 : decode cX5_readNumber 60 = .ok (.iconst 2, 1) := by decide +kernel
theorem dX5_readNumber_61 : decode cX5_readNumber 61 = .ok (.invokevirtual 97, 3) := by decide +kernel
theorem dX5_readNumber_64 : decode cX5_readNumber 64 = .ok (.ireturn, 1) := by decide +kernel
theorem dX5_readNumber_65 : decode cX5_readNumber 65 = .ok (.aload_n 0, 1) := by decide +kernel
theorem dX5_readNumber_66 : decode cX5_readNumber 66 = .ok (.invokevirtual 65, 3) := by decide +kernel
theorem dX5_readNumber_69 : decode cX5_readNumber 69 = .ok (.iload_n 3, 1) := by decide +kernel
theorem dX5_readNumber_70 : decode cX5_readNumber 70 = .ok (.ireturn, 1) := by decide +kernel
theorem dX5_readRule_0 : decode cX5_readRule 0 = .ok (.aload_n 0, 1) := by decide +kernel
theorem dX5_readRule_1 : decode cX5_readRule 1 = .ok (.getfield 38, 3) := by decide +kernel
theorem dX5_readRule_4 : decode cX5_readRule 4 = .ok (.getfield 138, 3) := by decide +kernel
theorem dX5_readRule_7 : decode cX5_readRule 7 = .ok (.getfield 142, 3) := by decide +kernel
theorem dX5_readRule_10 : decode cX5_readRule 10 = .ok (.iconst 4, 1) := by decide +kernel
theorem dX5_readRule_11 : decode cX5_readRule 11 = .ok (.iaload, 1) := by decide +kernel
theorem dX5_readRule_12 : decode cX5_readRule 12 = .ok (.bipush 8, 2) := by decide +kernel
theorem dX5_readRule_14 : decode cX5_readRule 14 = .ok (.if_icmp .lt 10, 3) := by decide +kernel
theorem dX5_readRule_17 : decode cX5_readRule 17 = .ok (.aload_n 0, 1) := by decide +kernel
theorem dX5_readRule_18 : decode cX5_readRule 18 = .ok (.iconst 2, 1) := by decide +kernel
theorem dX5_readRule_19 : decode cX5_readRule 19 = .ok (.invokevirtual 97, 3) := by decide +kernel
theorem dX5_readRule_22 : decode cX5_readRule 22 = .ok (.pop, 1) := by decide +kernel
theorem dX5_readRule_23 : decode cX5_readRule 23 = .ok (.return_, 1) := by decide +kernel
theorem dX5_readRule_24 : decode cX5_readRule 24 = .ok (.aload_n 0, 1) := by decide +kernel
theorem dX5_readRule_25 : decode cX5_readRule 25 = .ok (.invokevirtual 65, 3) := by decide +kernel
theorem dX5_readRule_28 : decode cX5_readRule 28 = .ok (.aload_n 0, 1) := by decide +kernel
theorem dX5_readRule_29 : decode cX5_readRule 29 = .ok (.iconst 1, 1) := by decide +kernel
theorem dX5_readRule_30 : decode cX5_readRule 30 = .ok (.invokevirtual 113, 3) := by decide +kernel
theorem dX5_readRule_33 : decode cX5_readRule 33 = .ok (.istore_n 1, 1) := by decide +kernel
theorem dX5_readRule_34 : decode cX5_readRule 34 = .ok (.aload_n 0, 1) := by decide +kernel
theorem dX5_readRule_35 : decode cX5_readRule 35 = .ok (.invokevirtual 147, 3) := by decide +kernel
theorem dX5_readRule_38 : decode cX5_readRule 38 = .ok (.aload_n 0, 1) := by decide +kernel
theorem dX5_readRule_39 : decode cX5_readRule 39 = .ok (.iconst 1, 1) := by decide +kernel
theorem dX5_readRule_40 : decode cX5_readRule 40 = .ok (.invokevirtual 113, 3) := by decide +kernel
theorem dX5_readRule_43 : decode cX5_readRule 43 = .ok (.istore_n 2, 1) := by decide +kernel
theorem dX5_readRule_44 : decode cX5_readRule 44 = .ok (.aload_n 0, 1) := by decide +kernel
theorem dX5_readRule_45 : decode cX5_readRule 45 = .ok (.getfield 24, 3) := by decide +kernel
theorem dX5_readRule_48 : decode cX5_readRule 48 = .ok (.ifCond .ne 30, 3) := by decide +kernel
theorem dX5_readRule_51 : decode cX5_readRule 51 = .ok (.aload_n 0, 1) := by decide +kernel
theorem dX5_readRule_52 : decode cX5_readRule 52 = .ok (.getfield 15, 3) := by decide +kernel
theorem dX5_readRule_55 : decode cX5_readRule 55 = .ok (.bipush 59, 2) := by decide +kernel
theorem dX5_readRule_57 : decode cX5_readRule 57 = .ok (.if_icmp .ne 21, 3) := by decide +kernel
theorem dX5_readRule_60 : decode cX5_readRule 60 = .ok (.aload_n 0, 1) := by decide +kernel
theorem dX5_readRule_61 : decode cX5_readRule 61 = .ok (.getfield 55, 3) := by decide +kernel
theorem dX5_readRule_64 : decode cX5_readRule 64 = .ok (.iload_n 1, 1) := by decide +kernel
theorem dX5_readRule_65 : decode cX5_readRule 65 = .ok (.iload_n 2, 1) := by decide +kernel
theorem dX5_readRule_66 : decode cX5_readRule 66 = .ok (.invokevirtual 150, 3) := by decide +kernel
theorem dX5_readRule_69 : decode cX5_readRule 69 = .ok (.ifCond .ne 9, 3) := by decide +kernel
theorem dX5_readRule_72 : decode cX5_readRule 72 = .ok (.aload_n 0, 1) := by decide +kernel
theorem dX5_readRule_73 : decode cX5_readRule 73 = .ok (.iconst 5, 1) := by decide +kernel
theorem dX5_readRule_74 : decode cX5_readRule 74 = .ok (.invokevirtual 97, 3) := by decide +kernel
theorem dX5_readRule_77 : decode cX5_readRule 77 = .ok (.pop, 1) := by decide +kernel
theorem dX5_readRule_78 : decode cX5_readRule 78 = .ok (.aload_n 0, 1) := by decide +kernel
theorem dX5_readRule_79 : decode cX5_readRule 79 = .ok (.bipush 59, 2) := by decide +kernel
theorem dX5_readRule_81 : decode cX5_readRule 81 = .ok (.invokevirtual 116, 3) := by decide +kernel
theorem dX5_readRule_84 : decode cX5_readRule 84 = .ok (.aload_n 0, 1) := by decide +kernel
theorem dX5_readRule_85 : decode cX5_readRule 85 = .ok (.getfield 24, 3) := by decide +kernel
theorem dX5_readRule_88 : decode cX5_readRule 88 = .ok (.ifCond .ne 15, 3) := by decide +kernel
theorem dX5_readRule_91 : decode cX5_readRule 91 = .ok (.aload_n 0, 1) := by decide +kernel
theorem dX5_readRule_92 : decode cX5_readRule 92 = .ok (.getfield 38, 3) := by decide +kernel
theorem dX5_readRule_95 : decode cX5_readRule 95 = .ok (.getfield 138, 3) := by decide +kernel
theorem dX5_readRule_98 : decode cX5_readRule 98 = .ok (.iload_n 1, 1) := by decide +kernel
theorem dX5_readRule_99 : decode cX5_readRule 99 = .ok (.iload_n 2, 1) := by decide +kernel
theorem dX5_readRule_100 : decode cX5_readRule 100 = .ok (.invokevirtual 156, 3) := by decide +kernel
theorem dX5_readRule_103 : decode cX5_readRule 103 = .ok (.return_, 1) := by decide +kernel
theorem dX5_passTo_0 : decode cX5_passTo 0 = .ok (.aload_n 0, 1) := by decide +kernel
theorem dX5_passTo_1 : decode cX5_passTo 1 = .ok (.getfield 24, 3) := by decide +kernel
theorem dX5_passTo_4 : decode cX5_passTo 4 = .ok (.ifCond .eq 4, 3) := by decide +kernel
theorem dX5_passTo_7 : decode cX5_passTo 7 = .ok (.return_, 1) := by decide +kernel
theorem dX5_passTo_8 : decode cX5_passTo 8 = .ok (.aload_n 0, 1) := by decide +kernel
theorem dX5_passTo_9 : decode cX5_passTo 9 = .ok (.ldc 160, 2) := by decide +kernel
theorem dX5_passTo_11 : decode cX5_passTo 11 = .ok (.invokevirtual 70, 3) := by decide +kernel
theorem dX5_passTo_14 : decode cX5_passTo 14 = .ok (.ifCond .ne 10, 3) := by decide +kernel
theorem dX5_passTo_17 : decode cX5_passTo 17 = .ok (.aload_n 0, 1) := by decide +kernel
theorem dX5_passTo_18 : decode cX5_passTo 18 = .ok (.iconst 1, 1) := by decide +kernel
theorem dX5_passTo_19 : decode cX5_passTo 19 = .ok (.invokevirtual 97, 3) := by decide +kernel
theorem dX5_passTo_22 : decode cX5_passTo 22 = .ok (.pop, 1) := by decide +kernel
theorem dX5_passTo_23 : decode cX5_passTo 23 = .ok (.return_, 1) := by decide +kernel
theorem dX5_passTo_24 : decode cX5_passTo 24 = .ok (.aload_n 0, 1) := by decide +kernel
theorem dX5_passTo_25 : decode cX5_passTo 25 = .ok (.invokevirtual 65, 3) := by decide +kernel
theorem dX5_passTo_28 : decode cX5_passTo 28 = .ok (.return_, 1) := by decide +kernel
theorem dX5_readEntry_0 : decode cX5_readEntry 0 = .ok (.aload_n 0, 1) := by decide +kernel
theorem dX5_readEntry_1 : decode cX5_readEntry 1 = .ok (.getfield 38, 3) := by decide +kernel
theorem dX5_readEntry_4 : decode cX5_readEntry 4 = .ok (.getfield 138, 3) := by decide +kernel
theorem dX5_readEntry_7 : decode cX5_readEntry 7 = .ok (.getfield 142, 3) := by decide +kernel
theorem dX5_readEntry_10 : decode cX5_readEntry 10 = .ok (.iconst 5, 1) := by decide +kernel
theorem dX5_readEntry_11 : decode cX5_readEntry 11 = .ok (.iaload, 1) := by decide +kernel
theorem dX5_readEntry_12 : decode cX5_readEntry 12 = .ok (.bipush 12, 2) := by decide +kernel
theorem dX5_readEntry_14 : decode cX5_readEntry 14 = .ok (.if_icmp .lt 10, 3) := by decide +kernel
theorem dX5_readEntry_17 : decode cX5_readEntry 17 = .ok (.aload_n 0, 1) := by decide +kernel
theorem dX5_readEntry_18 : decode cX5_readEntry 18 = .ok (.iconst 2, 1) := by decide +kernel
theorem dX5_readEntry_19 : decode cX5_readEntry 19 = .ok (.invokevirtual 97, 3) := by decide +kernel
theorem dX5_readEntry_22 : decode cX5_readEntry 22 = .ok (.pop, 1) := by decide +kernel
theorem dX5_readEntry_23 : decode cX5_readEntry 23 = .ok (.return_, 1) := by decide +kernel
theorem dX5_readEntry_24 : decode cX5_readEntry 24 = .ok (.aload_n 0, 1) := by decide +kernel
theorem dX5_readEntry_25 : decode cX5_readEntry 25 = .ok (.invokevirtual 65, 3) := by decide +kernel
theorem dX5_readEntry_28 : decode cX5_readEntry 28 = .ok (.aload_n 0, 1) := by decide +kernel
theorem dX5_readEntry_29 : decode cX5_readEntry 29 = .ok (.iconst 1, 1) := by decide +kernel
theorem dX5_readEntry_30 : decode cX5_readEntry 30 = .ok (.invokevirtual 113, 3) := by decide +kernel
theorem dX5_readEntry_33 : decode cX5_readEntry 33 = .ok (.istore_n 1, 1) := by decide +kernel
theorem dX5_readEntry_34 : decode cX5_readEntry 34 = .ok (.aload_n 0, 1) := by decide +kernel
theorem dX5_readEntry_35 : decode cX5_readEntry 35 = .ok (.getfield 24, 3) := by decide +kernel
theorem dX5_readEntry_38 : decode cX5_readEntry 38 = .ok (.ifCond .ne 33, 3) := by decide +kernel
theorem dX5_readEntry_41 : decode cX5_readEntry 41 = .ok (.aload_n 0, 1) := by decide +kernel
theorem dX5_readEntry_42 : decode cX5_readEntry 42 = .ok (.getfield 15, 3) := by decide +kernel
theorem dX5_readEntry_45 : decode cX5_readEntry 45 = .ok (.bipush 59, 2) := by decide +kernel
theorem dX5_readEntry_47 : decode cX5_readEntry 47 = .ok (.if_icmp .ne 24, 3) := by decide +kernel
theorem dX5_readEntry_50 : decode cX5_readEntry 50 = .ok (.aload_n 0, 1) := by decide +kernel
theorem dX5_readEntry_51 : decode cX5_readEntry 51 = .ok (.getfield 38, 3) := by decide +kernel
theorem dX5_readEntry_54 : decode cX5_readEntry 54 = .ok (.getfield 138, 3) := by decide +kernel
theorem dX5_readEntry_57 : decode cX5_readEntry 57 = .ok (.iload_n 1, 1) := by decide +kernel
theorem dX5_readEntry_58 : decode cX5_readEntry 58 = .ok (.invokevirtual 162, 3) := by decide +kernel
theorem dX5_readEntry_61 : decode cX5_readEntry 61 = .ok (.iconst (-1), 1) := by decide +kernel
theorem dX5_readEntry_62 : decode cX5_readEntry 62 = .ok (.if_icmp .eq 9, 3) := by decide +kernel
theorem dX5_readEntry_65 : decode cX5_readEntry 65 = .ok (.aload_n 0, 1) := by decide +kernel
theorem dX5_readEntry_66 : decode cX5_readEntry 66 = .ok (.iconst 5, 1) := by decide +kernel
theorem dX5_readEntry_67 : decode cX5_readEntry 67 = .ok (.invokevirtual 97, 3) := by decide +kernel
theorem dX5_readEntry_70 : decode cX5_readEntry 70 = .ok (.pop, 1) := by decide +kernel
theorem dX5_readEntry_71 : decode cX5_readEntry 71 = .ok (.aload_n 0, 1) := by decide +kernel
theorem dX5_readEntry_72 : decode cX5_readEntry 72 = .ok (.bipush 59, 2) := by decide +kernel
theorem dX5_readEntry_74 : decode cX5_readEntry 74 = .ok (.invokevirtual 116, 3) := by decide +kernel
theorem dX5_readEntry_77 : decode cX5_readEntry 77 = .ok (.aload_n 0, 1) := by decide +kernel
theorem dX5_readEntry_78 : decode cX5_readEntry 78 = .ok (.getfield 24, 3) := by decide +kernel
theorem dX5_readEntry_81 : decode cX5_readEntry 81 = .ok (.ifCond .ne 14, 3) := by decide +kernel
theorem dX5_readEntry_84 : decode cX5_readEntry 84 = .ok (.aload_n 0, 1) := by decide +kernel
theorem dX5_readEntry_85 : decode cX5_readEntry 85 = .ok (.getfield 38, 3) := by decide +kernel
theorem dX5_readEntry_88 : decode cX5_readEntry 88 = .ok (.getfield 138, 3) := by decide +kernel
theorem dX5_readEntry_91 : decode cX5_readEntry 91 = .ok (.iload_n 1, 1) := by decide +kernel
theorem dX5_readEntry_92 : decode cX5_readEntry 92 = .ok (.invokevirtual 165, 3) := by decide +kernel
theorem dX5_readEntry_95 : decode cX5_readEntry 95 = .ok (.return_, 1) := by decide +kernel
theorem dX5_readRoom_0 : decode cX5_readRoom 0 = .ok (.aload_n 0, 1) := by decide +kernel
theorem dX5_readRoom_1 : decode cX5_readRoom 1 = .ok (.getfield 30, 3) := by decide +kernel
theorem dX5_readRoom_4 : decode cX5_readRoom 4 = .ok (.ifCond .eq 10, 3) := by decide +kernel
theorem dX5_readRoom_7 : decode cX5_readRoom 7 = .ok (.aload_n 0, 1) := by decide +kernel
theorem dX5_readRoom_8 : decode cX5_readRoom 8 = .ok (.iconst 4, 1) := by decide +kernel
theorem dX5_readRoom_9 : decode cX5_readRoom 9 = .ok (.invokevirtual 97, 3) := by decide +kernel
theorem dX5_readRoom_12 : decode cX5_readRoom 12 = .ok (.pop, 1) := by decide +kernel
theorem dX5_readRoom_13 : decode cX5_readRoom 13 = .ok (.return_, 1) := by decide +kernel
theorem dX5_readRoom_14 : decode cX5_readRoom 14 = .ok (.aload_n 0, 1) := by decide +kernel
theorem dX5_readRoom_15 : decode cX5_readRoom 15 = .ok (.invokevirtual 65, 3) := by decide +kernel
theorem dX5_readRoom_18 : decode cX5_readRoom 18 = .ok (.aload_n 0, 1) := by decide +kernel
theorem dX5_readRoom_19 : decode cX5_readRoom 19 = .ok (.iconst 0, 1) := by decide +kernel
theorem dX5_readRoom_20 : decode cX5_readRoom 20 = .ok (.bipush 9, 2) := by decide +kernel
theorem dX5_readRoom_22 : decode cX5_readRoom 22 = .ok (.invokevirtual 128, 3) := by decide +kernel
theorem dX5_readRoom_25 : decode cX5_readRoom 25 = .ok (.istore_n 1, 1) := by decide +kernel
theorem dX5_readRoom_26 : decode cX5_readRoom 26 = .ok (.aload_n 0, 1) := by decide +kernel
theorem dX5_readRoom_27 : decode cX5_readRoom 27 = .ok (.bipush 59, 2) := by decide +kernel
theorem dX5_readRoom_29 : decode cX5_readRoom 29 = .ok (.invokevirtual 116, 3) := by decide +kernel
theorem dX5_readRoom_32 : decode cX5_readRoom 32 = .ok (.aload_n 0, 1) := by decide +kernel
theorem dX5_readRoom_33 : decode cX5_readRoom 33 = .ok (.getfield 24, 3) := by decide +kernel
theorem dX5_readRoom_36 : decode cX5_readRoom 36 = .ok (.ifCond .ne 19, 3) := by decide +kernel
theorem dX5_readRoom_39 : decode cX5_readRoom 39 = .ok (.aload_n 0, 1) := by decide +kernel
theorem dX5_readRoom_40 : decode cX5_readRoom 40 = .ok (.getfield 38, 3) := by decide +kernel
theorem dX5_readRoom_43 : decode cX5_readRoom 43 = .ok (.getfield 138, 3) := by decide +kernel
theorem dX5_readRoom_46 : decode cX5_readRoom 46 = .ok (.iload_n 1, 1) := by decide +kernel
theorem dX5_readRoom_47 : decode cX5_readRoom 47 = .ok (.invokevirtual 168, 3) := by decide +kernel
theorem dX5_readRoom_50 : decode cX5_readRoom 50 = .ok (.aload_n 0, 1) := by decide +kernel
theorem dX5_readRoom_51 : decode cX5_readRoom 51 = .ok (.iconst 1, 1) := by decide +kernel
theorem dX5_readRoom_52 : decode cX5_readRoom 52 = .ok (.putfield 30, 3) := by decide +kernel
theorem dX5_readRoom_55 : decode cX5_readRoom 55 = .ok (.return_, 1) := by decide +kernel
theorem dX5_readTerm_0 : decode cX5_readTerm 0 = .ok (.aload_n 0, 1) := by decide +kernel
theorem dX5_readTerm_1 : decode cX5_readTerm 1 = .ok (.getfield 24, 3) := by decide +kernel
theorem dX5_readTerm_4 : decode cX5_readTerm 4 = .ok (.ifCond .eq 5, 3) := by decide +kernel
theorem dX5_readTerm_7 : decode cX5_readTerm 7 = .ok (.iconst (-1), 1) := by decide +kernel
theorem dX5_readTerm_8 : decode cX5_readTerm 8 = .ok (.ireturn, 1) := by decide +kernel
theorem dX5_readTerm_9 : decode cX5_readTerm 9 = .ok (.aload_n 0, 1) := by decide +kernel
theorem dX5_readTerm_10 : decode cX5_readTerm 10 = .ok (.getfield 15, 3) := by decide +kernel
theorem dX5_readTerm_13 : decode cX5_readTerm 13 = .ok (.bipush 63, 2) := by decide +kernel
theorem dX5_readTerm_15 : decode cX5_readTerm 15 = .ok (.if_icmp .eq 17, 3) := by decide +kernel
theorem dX5_readTerm_18 : decode cX5_readTerm 18 = .ok (.aload_n 0, 1) := by decide +kernel
theorem dX5_readTerm_19 : decode cX5_readTerm 19 = .ok (.getfield 15, 3) := by decide +kernel
theorem dX5_readTerm_22 : decode cX5_readTerm 22 = .ok (.iconst 2, 1) := by decide +kernel
theorem dX5_readTerm_23 : decode cX5_readTerm 23 = .ok (.if_icmp .eq 9, 3) := by decide +kernel
theorem dX5_readTerm_26 : decode cX5_readTerm 26 = .ok (.aload_n 0, 1) := by decide +kernel
theorem dX5_readTerm_27 : decode cX5_readTerm 27 = .ok (.iconst 1, 1) := by decide +kernel
theorem dX5_readTerm_28 : decode cX5_readTerm 28 = .ok (.invokevirtual 97, 3) := by decide +kernel
theorem dX5_readTerm_31 : decode cX5_readTerm 31 = .ok (.ireturn, 1) := by decide +kernel
theorem dX5_readTerm_32 : decode cX5_readTerm 32 = .ok (.iload_n 1, 1) := by decide +kernel
theorem dX5_readTerm_33 : decode cX5_readTerm 33 = .ok (.bipush 6, 2) := by decide +kernel
theorem dX5_readTerm_35 : decode cX5_readTerm 35 = .ok (.if_icmp .le 9, 3) := by decide +kernel
theorem dX5_readTerm_38 : decode cX5_readTerm 38 = .ok (.aload_n 0, 1) := by decide +kernel
theorem dX5_readTerm_39 : decode cX5_readTerm 39 = .ok (.iconst 2, 1) := by decide +kernel
theorem dX5_readTerm_40 : decode cX5_readTerm 40 = .ok (.invokevirtual 97, 3) := by decide +kernel
theorem dX5_readTerm_43 : decode cX5_readTerm 43 = .ok (.ireturn, 1) := by decide +kernel
theorem dX5_readTerm_44 : decode cX5_readTerm 44 = .ok (.aload_n 0, 1) := by decide +kernel
theorem dX5_readTerm_45 : decode cX5_readTerm 45 = .ok (.getfield 15, 3) := by decide +kernel
theorem dX5_readTerm_48 : decode cX5_readTerm 48 = .ok (.bipush 63, 2) := by decide +kernel
theorem dX5_readTerm_50 : decode cX5_readTerm 50 = .ok (.if_icmp .ne 10, 3) := by decide +kernel
theorem dX5_readTerm_53 : decode cX5_readTerm 53 = .ok (.aload_n 0, 1) := by decide +kernel
theorem dX5_readTerm_54 : decode cX5_readTerm 54 = .ok (.invokevirtual 171, 3) := by decide +kernel
theorem dX5_readTerm_57 : decode cX5_readTerm 57 = .ok (.goto 8, 3) := by decide +kernel
theorem dX5_readTerm_60 : decode cX5_readTerm 60 = .ok (.aload_n 0, 1) := by decide +kernel
theorem dX5_readTerm_61 : decode cX5_readTerm 61 = .ok (.iload_n 1, 1) := by decide +kernel
theorem dX5_readTerm_62 : decode cX5_readTerm 62 = .ok (.invokevirtual 174, 3) := by decide +kernel
theorem dX5_readTerm_65 : decode cX5_readTerm 65 = .ok (.ireturn, 1) := by decide +kernel
theorem dX5_readVariable_0 : decode cX5_readVariable 0 = .ok (.aload_n 0, 1) := by decide +kernel
theorem dX5_readVariable_1 : decode cX5_readVariable 1 = .ok (.invokevirtual 65, 3) := by decide +kernel
theorem dX5_readVariable_4 : decode cX5_readVariable 4 = .ok (.aload_n 0, 1) := by decide +kernel
theorem dX5_readVariable_5 : decode cX5_readVariable 5 = .ok (.iconst 0, 1) := by decide +kernel
theorem dX5_readVariable_6 : decode cX5_readVariable 6 = .ok (.bipush 7, 2) := by decide +kernel
theorem dX5_readVariable_8 : decode cX5_readVariable 8 = .ok (.invokevirtual 128, 3) := by decide +kernel
theorem dX5_readVariable_11 : decode cX5_readVariable 11 = .ok (.istore_n 1, 1) := by decide +kernel
theorem dX5_readVariable_12 : decode cX5_readVariable 12 = .ok (.aload_n 0, 1) := by decide +kernel
theorem dX5_readVariable_13 : decode cX5_readVariable 13 = .ok (.getfield 24, 3) := by decide +kernel
theorem dX5_readVariable_16 : decode cX5_readVariable 16 = .ok (.ifCond .ne 21, 3) := by decide +kernel
theorem dX5_readVariable_19 : decode cX5_readVariable 19 = .ok (.aload_n 0, 1) := by decide +kernel
theorem dX5_readVariable_20 : decode cX5_readVariable 20 = .ok (.aload_n 0, 1) := by decide +kernel
theorem dX5_readVariable_21 : decode cX5_readVariable 21 = .ok (.getfield 38, 3) := by decide +kernel
theorem dX5_readVariable_24 : decode cX5_readVariable 24 = .ok (.getfield 42, 3) := by decide +kernel
theorem dX5_readVariable_27 : decode cX5_readVariable 27 = .ok (.iload_n 1, 1) := by decide +kernel
theorem dX5_readVariable_28 : decode cX5_readVariable 28 = .ok (.invokevirtual 177, 3) := by decide +kernel
theorem dX5_readVariable_31 : decode cX5_readVariable 31 = .ok (.invokevirtual 180, 3) := by decide +kernel
theorem dX5_readVariable_34 : decode cX5_readVariable 34 = .ok (.goto 4, 3) := by decide +kernel
theorem dX5_readVariable_37 : decode cX5_readVariable 37 = .ok (.iconst (-1), 1) := by decide +kernel
theorem dX5_readVariable_38 : decode cX5_readVariable 38 = .ok (.ireturn, 1) := by decide +kernel
theorem dX5_readCompound_0 : decode cX5_readCompound 0 = .ok (.aload_n 0, 1) := by decide +kernel
theorem dX5_readCompound_1 : decode cX5_readCompound 1 = .ok (.getfield 21, 3) := by decide +kernel
theorem dX5_readCompound_4 : decode cX5_readCompound 4 = .ok (.aload_n 0, 1) := by decide +kernel
theorem dX5_readCompound_5 : decode cX5_readCompound 5 = .ok (.getfield 18, 3) := by decide +kernel
theorem dX5_readCompound_8 : decode cX5_readCompound 8 = .ok (.isub, 1) := by decide +kernel
theorem dX5_readCompound_9 : decode cX5_readCompound 9 = .ok (.iconst 1, 1) := by decide +kernel
theorem dX5_readCompound_10 : decode cX5_readCompound 10 = .ok (.if_icmp .le 9, 3) := by decide +kernel
theorem dX5_readCompound_13 : decode cX5_readCompound 13 = .ok (.aload_n 0, 1) := by decide +kernel
theorem dX5_readCompound_14 : decode cX5_readCompound 14 = .ok (.iconst 2, 1) := by decide +kernel
theorem dX5_readCompound_15 : decode cX5_readCompound 15 = .ok (.invokevirtual 97, 3) := by decide +kernel
theorem dX5_readCompound_18 : decode cX5_readCompound 18 = .ok (.ireturn, 1) := by decide +kernel
theorem dX5_readCompound_19 : decode cX5_readCompound 19 = .ok (.aload_n 0, 1) := by decide +kernel
theorem dX5_readCompound_20 : decode cX5_readCompound 20 = .ok (.getfield 54, 3) := by decide +kernel
theorem dX5_readCompound_23 : decode cX5_readCompound 23 = .ok (.aload_n 0, 1) := by decide +kernel
theorem dX5_readCompound_24 : decode cX5_readCompound 24 = .ok (.getfield 34, 3) := by decide +kernel
theorem dX5_readCompound_27 : decode cX5_readCompound 27 = .ok (.aload_n 0, 1) := by decide +kernel
theorem dX5_readCompound_28 : decode cX5_readCompound 28 = .ok (.getfield 18, 3) := by decide +kernel
theorem dX5_readCompound_31 : decode cX5_readCompound 31 = .ok (.iaload, 1) := by decide +kernel
theorem dX5_readCompound_32 : decode cX5_readCompound 32 = .ok (.invokevirtual 135, 3) := by decide +kernel
theorem dX5_readCompound_35 : decode cX5_readCompound 35 = .ok (.istore_n 2, 1) := by decide +kernel
theorem dX5_readCompound_36 : decode cX5_readCompound 36 = .ok (.iload_n 2, 1) := by decide +kernel
theorem dX5_readCompound_37 : decode cX5_readCompound 37 = .ok (.iconst (-1), 1) := by decide +kernel
theorem dX5_readCompound_38 : decode cX5_readCompound 38 = .ok (.if_icmp .ne 9, 3) := by decide +kernel
theorem dX5_readCompound_41 : decode cX5_readCompound 41 = .ok (.aload_n 0, 1) := by decide +kernel
theorem dX5_readCompound_42 : decode cX5_readCompound 42 = .ok (.iconst 3, 1) := by decide +kernel
theorem dX5_readCompound_43 : decode cX5_readCompound 43 = .ok (.invokevirtual 97, 3) := by decide +kernel
theorem dX5_readCompound_46 : decode cX5_readCompound 46 = .ok (.ireturn, 1) := by decide +kernel
theorem dX5_readCompound_47 : decode cX5_readCompound 47 = .ok (.aload_n 0, 1) := by decide +kernel
theorem dX5_readCompound_48 : decode cX5_readCompound 48 = .ok (.invokevirtual 65, 3) := by decide +kernel
theorem dX5_readCompound_51 : decode cX5_readCompound 51 = .ok (.aload_n 0, 1) := by decide +kernel
theorem dX5_readCompound_52 : decode cX5_readCompound 52 = .ok (.getfield 54, 3) := by decide +kernel
theorem dX5_readCompound_55 : decode cX5_readCompound 55 = .ok (.getfield 183, 3) := by decide +kernel
theorem dX5_readCompound_58 : decode cX5_readCompound 58 = .ok (.iload_n 2, 1) := by decide +kernel
theorem dX5_readCompound_59 : decode cX5_readCompound 59 = .ok (.iaload, 1) := by decide +kernel
theorem dX5_readCompound_60 : decode cX5_readCompound 60 = .ok (.istore_n 3, 1) := by decide +kernel
theorem dX5_readCompound_61 : decode cX5_readCompound 61 = .ok (.iload_n 3, 1) := by decide +kernel
theorem dX5_readCompound_62 : decode cX5_readCompound 62 = .ok (.iconst 1, 1) := by decide +kernel
theorem dX5_readCompound_63 : decode cX5_readCompound 63 = .ok (.if_icmp .ge 7, 3) := by decide +kernel
theorem dX5_readCompound_66 : decode cX5_readCompound 66 = .ok (.iconst (-1), 1) := by decide +kernel
theorem dX5_readCompound_67 : decode cX5_readCompound 67 = .ok (.goto 10, 3) := by decide +kernel
theorem dX5_readCompound_70 : decode cX5_readCompound 70 = .ok (.aload_n 0, 1) := by decide +kernel
theorem dX5_readCompound_71 : decode cX5_readCompound 71 = .ok (.bipush 40, 2) := by decide +kernel
theorem dX5_readCompound_73 : decode cX5_readCompound 73 = .ok (.iload_n 1, 1) := by decide +kernel
theorem dX5_readCompound_74 : decode cX5_readCompound 74 = .ok (.invokevirtual 186, 3) := by decide +kernel
theorem dX5_readCompound_77 : decode cX5_readCompound 77 = .ok (.istore 4, 2) := by decide +kernel
theorem dX5_readCompound_79 : decode cX5_readCompound 79 = .ok (.iload_n 3, 1) := by decide +kernel
theorem dX5_readCompound_80 : decode cX5_readCompound 80 = .ok (.iconst 2, 1) := by decide +kernel
theorem dX5_readCompound_81 : decode cX5_readCompound 81 = .ok (.if_icmp .ge 7, 3) := by decide +kernel
theorem dX5_readCompound_84 : decode cX5_readCompound 84 = .ok (.iconst (-1), 1) := by decide +kernel
theorem dX5_readCompound_85 : decode cX5_readCompound 85 = .ok (.goto 10, 3) := by decide +kernel
theorem dX5_readCompound_88 : decode cX5_readCompound 88 = .ok (.aload_n 0, 1) := by decide +kernel
theorem dX5_readCompound_89 : decode cX5_readCompound 89 = .ok (.bipush 44, 2) := by decide +kernel
theorem dX5_readCompound_91 : decode cX5_readCompound 91 = .ok (.iload_n 1, 1) := by decide +kernel
theorem dX5_readCompound_92 : decode cX5_readCompound 92 = .ok (.invokevirtual 186, 3) := by decide +kernel
theorem dX5_readCompound_95 : decode cX5_readCompound 95 = .ok (.istore 5, 2) := by decide +kernel
theorem dX5_readCompound_97 : decode cX5_readCompound 97 = .ok (.iload_n 3, 1) := by decide +kernel
theorem dX5_readCompound_98 : decode cX5_readCompound 98 = .ok (.iconst 3, 1) := by decide +kernel
theorem dX5_readCompound_99 : decode cX5_readCompound 99 = .ok (.if_icmp .ge 7, 3) := by decide +kernel
theorem dX5_readCompound_102 : decode cX5_readCompound 102 = .ok (.iconst (-1), 1) := by decide +kernel
theorem dX5_readCompound_103 : decode cX5_readCompound 103 = .ok (.goto 10, 3) := by decide +kernel
theorem dX5_readCompound_106 : decode cX5_readCompound 106 = .ok (.aload_n 0, 1) := by decide +kernel
theorem dX5_readCompound_107 : decode cX5_readCompound 107 = .ok (.bipush 44, 2) := by decide +kernel
theorem dX5_readCompound_109 : decode cX5_readCompound 109 = .ok (.iload_n 1, 1) := by decide +kernel
theorem dX5_readCompound_110 : decode cX5_readCompound 110 = .ok (.invokevirtual 186, 3) := by decide +kernel
theorem dX5_readCompound_113 : decode cX5_readCompound 113 = .ok (.istore 6, 2) := by decide +kernel
theorem dX5_readCompound_115 : decode cX5_readCompound 115 = .ok (.iload_n 3, 1) := by decide +kernel
theorem dX5_readCompound_116 : decode cX5_readCompound 116 = .ok (.ifCond .le 9, 3) := by decide +kernel
theorem dX5_readCompound_119 : decode cX5_readCompound 119 = .ok (.aload_n 0, 1) := by decide +kernel
theorem dX5_readCompound_120 : decode cX5_readCompound 120 = .ok (.bipush 41, 2) := by decide +kernel
theorem dX5_readCompound_122 : decode cX5_readCompound 122 = .ok (.invokevirtual 116, 3) := by decide +kernel
theorem dX5_readCompound_125 : decode cX5_readCompound 125 = .ok (.aload_n 0, 1) := by decide +kernel
theorem dX5_readCompound_126 : decode cX5_readCompound 126 = .ok (.getfield 24, 3) := by decide +kernel
theorem dX5_readCompound_129 : decode cX5_readCompound 129 = .ok (.ifCond .ne 27, 3) := by decide +kernel
theorem dX5_readCompound_132 : decode cX5_readCompound 132 = .ok (.aload_n 0, 1) := by decide +kernel
theorem dX5_readCompound_133 : decode cX5_readCompound 133 = .ok (.aload_n 0, 1) := by decide +kernel
theorem dX5_readCompound_134 : decode cX5_readCompound 134 = .ok (.getfield 38, 3) := by decide +kernel
theorem dX5_readCompound_137 : decode cX5_readCompound 137 = .ok (.getfield 42, 3) := by decide +kernel
theorem dX5_readCompound_140 : decode cX5_readCompound 140 = .ok (.iload_n 2, 1) := by decide +kernel
theorem dX5_readCompound_141 : decode cX5_readCompound 141 = .ok (.iload 4, 2) := by decide +kernel
theorem dX5_readCompound_143 : decode cX5_readCompound 143 = .ok (.iload 5, 2) := by decide +kernel
theorem dX5_readCompound_145 : decode cX5_readCompound 145 = .ok (.iload 6, 2) := by decide +kernel
theorem dX5_readCompound_147 : decode cX5_readCompound 147 = .ok (.invokevirtual 189, 3) := by decide +kernel
theorem dX5_readCompound_150 : decode cX5_readCompound 150 = .ok (.invokevirtual 180, 3) := by decide +kernel
theorem dX5_readCompound_153 : decode cX5_readCompound 153 = .ok (.goto 4, 3) := by decide +kernel
theorem dX5_readCompound_156 : decode cX5_readCompound 156 = .ok (.iconst (-1), 1) := by decide +kernel
theorem dX5_readCompound_157 : decode cX5_readCompound 157 = .ok (.ireturn, 1) := by decide +kernel
theorem dX5_readArgument_0 : decode cX5_readArgument 0 = .ok (.aload_n 0, 1) := by decide +kernel
theorem dX5_readArgument_1 : decode cX5_readArgument 1 = .ok (.iload_n 1, 1) := by decide +kernel
theorem dX5_readArgument_2 : decode cX5_readArgument 2 = .ok (.invokevirtual 116, 3) := by decide +kernel
theorem dX5_readArgument_5 : decode cX5_readArgument 5 = .ok (.aload_n 0, 1) := by decide +kernel
theorem dX5_readArgument_6 : decode cX5_readArgument 6 = .ok (.iload_n 2, 1) := by decide +kernel
theorem dX5_readArgument_7 : decode cX5_readArgument 7 = .ok (.iconst 1, 1) := by decide +kernel
theorem dX5_readArgument_8 : decode cX5_readArgument 8 = .ok (.iadd, 1) := by decide +kernel
theorem dX5_readArgument_9 : decode cX5_readArgument 9 = .ok (.invokevirtual 113, 3) := by decide +kernel
theorem dX5_readArgument_12 : decode cX5_readArgument 12 = .ok (.ireturn, 1) := by decide +kernel
theorem dX5_held_0 : decode cX5_held 0 = .ok (.iload_n 1, 1) := by decide +kernel
theorem dX5_held_1 : decode cX5_held 1 = .ok (.ifCond .ge 11, 3) := by decide +kernel
theorem dX5_held_4 : decode cX5_held 4 = .ok (.aload_n 0, 1) := by decide +kernel
theorem dX5_held_5 : decode cX5_held 5 = .ok (.iconst 2, 1) := by decide +kernel
theorem dX5_held_6 : decode cX5_held 6 = .ok (.invokevirtual 97, 3) := by decide +kernel
theorem dX5_held_9 : decode cX5_held 9 = .ok (.goto 4, 3) := by decide +kernel
theorem dX5_held_12 : decode cX5_held 12 = .ok (.iload_n 1, 1) := by decide +kernel
theorem dX5_held_13 : decode cX5_held 13 = .ok (.ireturn, 1) := by decide +kernel
