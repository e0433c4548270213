section
theorem dX4_init_0 : decode cX4_init 0 = .ok (.aload_n 0, 1) := by decide +kernel
theorem dX4_init_1 : decode cX4_init 1 = .ok (.invokespecial 3, 3) := by decide +kernel
theorem dX4_init_4 : decode cX4_init 4 = .ok (.aload_n 0, 1) := by decide +kernel
theorem dX4_init_5 : decode cX4_init 5 = .ok (.bipush 8, 2) := by decide +kernel
theorem dX4_init_7 : decode cX4_init 7 = .ok (.newarray .int, 2) := by decide +kernel
theorem dX4_init_9 : decode cX4_init 9 = .ok (.putfield 9, 3) := by decide +kernel
theorem dX4_init_12 : decode cX4_init 12 = .ok (.aload_n 0, 1) := by decide +kernel
theorem dX4_init_13 : decode cX4_init 13 = .ok (.iconst 0, 1) := by decide +kernel
theorem dX4_init_14 : decode cX4_init 14 = .ok (.putfield 15, 3) := by decide +kernel
theorem dX4_init_17 : decode cX4_init 17 = .ok (.aload_n 0, 1) := by decide +kernel
theorem dX4_init_18 : decode cX4_init 18 = .ok (.iconst (-1), 1) := by decide +kernel
theorem dX4_init_19 : decode cX4_init 19 = .ok (.putfield 19, 3) := by decide +kernel
theorem dX4_init_22 : decode cX4_init 22 = .ok (.aload_n 0, 1) := by decide +kernel
theorem dX4_init_23 : decode cX4_init 23 = .ok (.iconst 0, 1) := by decide +kernel
theorem dX4_init_24 : decode cX4_init 24 = .ok (.putfield 22, 3) := by decide +kernel
theorem dX4_init_27 : decode cX4_init 27 = .ok (.aload_n 0, 1) := by decide +kernel
theorem dX4_init_28 : decode cX4_init 28 = .ok (.aload_n 1, 1) := by decide +kernel
theorem dX4_init_29 : decode cX4_init 29 = .ok (.putfield 25, 3) := by decide +kernel
theorem dX4_init_32 : decode cX4_init 32 = .ok (.return_, 1) := by decide +kernel
theorem dX4_tryWeight_0 : decode cX4_tryWeight 0 = .ok (.aload_n 0, 1) := by decide +kernel
theorem dX4_tryWeight_1 : decode cX4_tryWeight 1 = .ok (.iload_n 1, 1) := by decide +kernel
theorem dX4_tryWeight_2 : decode cX4_tryWeight 2 = .ok (.putfield 19, 3) := by decide +kernel
theorem dX4_tryWeight_5 : decode cX4_tryWeight 5 = .ok (.aload_n 0, 1) := by decide +kernel
theorem dX4_tryWeight_6 : decode cX4_tryWeight 6 = .ok (.iload_n 2, 1) := by decide +kernel
theorem dX4_tryWeight_7 : decode cX4_tryWeight 7 = .ok (.putfield 22, 3) := by decide +kernel
theorem dX4_tryWeight_10 : decode cX4_tryWeight 10 = .ok (.return_, 1) := by decide +kernel
theorem dX4_tryNothing_0 : decode cX4_tryNothing 0 = .ok (.aload_n 0, 1) := by decide +kernel
theorem dX4_tryNothing_1 : decode cX4_tryNothing 1 = .ok (.iconst (-1), 1) := by decide +kernel
theorem dX4_tryNothing_2 : decode cX4_tryNothing 2 = .ok (.putfield 19, 3) := by decide +kernel
theorem dX4_tryNothing_5 : decode cX4_tryNothing 5 = .ok (.return_, 1) := by decide +kernel
theorem dX4_isGreater_0 : decode cX4_isGreater 0 = .ok (.iload_n 1, 1) := by decide +kernel
theorem dX4_isGreater_1 : decode cX4_isGreater 1 = .ok (.istore_n 3, 1) := by decide +kernel
theorem dX4_isGreater_2 : decode cX4_isGreater 2 = .ok (.iload_n 2, 1) := by decide +kernel
theorem dX4_isGreater_3 : decode cX4_isGreater 3 = .ok (.istore 4, 2) := by decide +kernel
theorem dX4_isGreater_5 : decode cX4_isGreater 5 = .ok (.iconst 0, 1) := by decide +kernel
theorem dX4_isGreater_6 : decode cX4_isGreater 6 = .ok (.istore 5, 2) := by decide +kernel
theorem dX4_isGreater_8 : decode cX4_isGreater 8 = .ok (.iload 5, 2) := by decide +kernel
theorem dX4_isGreater_10 : decode cX4_isGreater 10 = .ok (.bipush 6, 2) := by decide +kernel
theorem dX4_isGreater_12 : decode cX4_isGreater 12 = .ok (.if_icmp .ge 155, 3) := by decide +kernel
theorem dX4_isGreater_15 : decode cX4_isGreater 15 = .ok (.iload_n 3, 1) := by decide +kernel
theorem dX4_isGreater_16 : decode cX4_isGreater 16 = .ok (.iload 4, 2) := by decide +kernel
theorem dX4_isGreater_18 : decode cX4_isGreater 18 = .ok (.if_icmp .eq 149, 3) := by decide +kernel
theorem dX4_isGreater_21 : decode cX4_isGreater 21 = .ok (.aload_n 0, 1) := by decide +kernel
theorem dX4_isGreater_22 : decode cX4_isGreater 22 = .ok (.iload_n 3, 1) := by decide +kernel
theorem dX4_isGreater_23 : decode cX4_isGreater 23 = .ok (.iload 4, 2) := by decide +kernel
theorem dX4_isGreater_25 : decode cX4_isGreater 25 = .ok (.invokevirtual 29, 3) := by decide +kernel
theorem dX4_isGreater_28 : decode cX4_isGreater 28 = .ok (.aload_n 0, 1) := by decide +kernel
theorem dX4_isGreater_29 : decode cX4_isGreater 29 = .ok (.invokevirtual 33, 3) := by decide +kernel
theorem dX4_isGreater_32 : decode cX4_isGreater 32 = .ok (.ifCond .ne 10, 3) := by decide +kernel
theorem dX4_isGreater_35 : decode cX4_isGreater 35 = .ok (.aload_n 0, 1) := by decide +kernel
theorem dX4_isGreater_36 : decode cX4_isGreater 36 = .ok (.getfield 15, 3) := by decide +kernel
theorem dX4_isGreater_39 : decode cX4_isGreater 39 = .ok (.ifCond .ge 5, 3) := by decide +kernel
theorem dX4_isGreater_42 : decode cX4_isGreater 42 = .ok (.iconst 0, 1) := by decide +kernel
theorem dX4_isGreater_43 : decode cX4_isGreater 43 = .ok (.ireturn, 1) := by decide +kernel
theorem dX4_isGreater_44 : decode cX4_isGreater 44 = .ok (.aload_n 0, 1) := by decide +kernel
theorem dX4_isGreater_45 : decode cX4_isGreater 45 = .ok (.getfield 15, 3) := by decide +kernel
theorem dX4_isGreater_48 : decode cX4_isGreater 48 = .ok (.ifCond .gt 15, 3) := by decide +kernel
theorem dX4_isGreater_51 : decode cX4_isGreater 51 = .ok (.aload_n 0, 1) := by decide +kernel
theorem dX4_isGreater_52 : decode cX4_isGreater 52 = .ok (.getfield 25, 3) := by decide +kernel
theorem dX4_isGreater_55 : decode cX4_isGreater 55 = .ok (.iload 4, 2) := by decide +kernel
theorem dX4_isGreater_57 : decode cX4_isGreater 57 = .ok (.invokevirtual 37, 3) := by decide +kernel
theorem dX4_isGreater_60 : decode cX4_isGreater 60 = .ok (.ifCond .eq 5, 3) := by decide +kernel
theorem dX4_isGreater_63 : decode cX4_isGreater 63 = .ok (.iconst 1, 1) := by decide +kernel
theorem dX4_isGreater_64 : decode cX4_isGreater 64 = .ok (.ireturn, 1) := by decide +kernel
theorem dX4_isGreater_65 : decode cX4_isGreater 65 = .ok (.aload_n 0, 1) := by decide +kernel
theorem dX4_isGreater_66 : decode cX4_isGreater 66 = .ok (.getfield 25, 3) := by decide +kernel
theorem dX4_isGreater_69 : decode cX4_isGreater 69 = .ok (.iload_n 3, 1) := by decide +kernel
theorem dX4_isGreater_70 : decode cX4_isGreater 70 = .ok (.invokevirtual 37, 3) := by decide +kernel
theorem dX4_isGreater_73 : decode cX4_isGreater 73 = .ok (.ifCond .eq 5, 3) := by decide +kernel
theorem dX4_isGreater_76 : decode cX4_isGreater 76 = .ok (.iconst 0, 1) := by decide +kernel
theorem dX4_isGreater_77 : decode cX4_isGreater 77 = .ok (.ireturn, 1) := by decide +kernel
theorem dX4_isGreater_78 : decode cX4_isGreater 78 = .ok (.aload_n 0, 1) := by decide +kernel
theorem dX4_isGreater_79 : decode cX4_isGreater 79 = .ok (.getfield 25, 3) := by decide +kernel
theorem dX4_isGreater_82 : decode cX4_isGreater 82 = .ok (.getfield 43, 3) := by decide +kernel
theorem dX4_isGreater_85 : decode cX4_isGreater 85 = .ok (.iload_n 3, 1) := by decide +kernel
theorem dX4_isGreater_86 : decode cX4_isGreater 86 = .ok (.iaload, 1) := by decide +kernel
theorem dX4_isGreater_87 : decode cX4_isGreater 87 = .ok (.aload_n 0, 1) := by decide +kernel
theorem dX4_isGreater_88 : decode cX4_isGreater 88 = .ok (.getfield 25, 3) := by decide +kernel
theorem dX4_isGreater_91 : decode cX4_isGreater 91 = .ok (.getfield 43, 3) := by decide +kernel
theorem dX4_isGreater_94 : decode cX4_isGreater 94 = .ok (.iload 4, 2) := by decide +kernel
theorem dX4_isGreater_96 : decode cX4_isGreater 96 = .ok (.iaload, 1) := by decide +kernel
theorem dX4_isGreater_97 : decode cX4_isGreater 97 = .ok (.if_icmp .eq 31, 3) := by decide +kernel
theorem dX4_isGreater_100 : decode cX4_isGreater 100 = .ok (.aload_n 0, 1) := by decide +kernel
theorem dX4_isGreater_101 : decode cX4_isGreater 101 = .ok (.getfield 25, 3) := by decide +kernel
theorem dX4_isGreater_104 : decode cX4_isGreater 104 = .ok (.getfield 43, 3) := by decide +kernel
theorem dX4_isGreater_107 : decode cX4_isGreater 107 = .ok (.iload_n 3, 1) := by decide +kernel
theorem dX4_isGreater_108 : decode cX4_isGreater 108 = .ok (.iaload, 1) := by decide +kernel
theorem dX4_isGreater_109 : decode cX4_isGreater 109 = .ok (.aload_n 0, 1) := by decide +kernel
theorem dX4_isGreater_110 : decode cX4_isGreater 110 = .ok (.getfield 25, 3) := by decide +kernel
theorem dX4_isGreater_113 : decode cX4_isGreater 113 = .ok (.getfield 43, 3) := by decide +kernel
theorem dX4_isGreater_116 : decode cX4_isGreater 116 = .ok (.iload 4, 2) := by decide +kernel
theorem dX4_isGreater_118 : decode cX4_isGreater 118 = .ok (.iaload, 1) := by decide +kernel
theorem dX4_isGreater_119 : decode cX4_isGreater 119 = .ok (.if_icmp .le 7, 3) := by decide +kernel
theorem dX4_isGreater_122 : decode cX4_isGreater 122 = .ok (.iconst 1, 1) := by decide +kernel
theorem dX4_isGreater_123 : decode cX4_isGreater 123 = .ok (.goto 4, 3) := by decide +kernel
theorem dX4_isGreater_126 : decode cX4_isGreater 126 = .ok (.iconst 0, 1) := by decide +kernel
theorem dX4_isGreater_127 : decode cX4_isGreater 127 = .ok (.ireturn, 1) := by decide +kernel
theorem dX4_isGreater_128 : decode cX4_isGreater 128 = .ok (.aload_n 0, 1) := by decide +kernel
theorem dX4_isGreater_129 : decode cX4_isGreater 129 = .ok (.iload_n 3, 1) := by decide +kernel
theorem dX4_isGreater_130 : decode cX4_isGreater 130 = .ok (.iload 4, 2) := by decide +kernel
theorem dX4_isGreater_132 : decode cX4_isGreater 132 = .ok (.invokevirtual 46, 3) := by decide +kernel
theorem dX4_isGreater_135 : decode cX4_isGreater 135 = .ok (.istore 6, 2) := by decide +kernel
theorem dX4_isGreater_137 : decode cX4_isGreater 137 = .ok (.aload_n 0, 1) := by decide +kernel
theorem dX4_isGreater_138 : decode cX4_isGreater 138 = .ok (.getfield 25, 3) := by decide +kernel
theorem dX4_isGreater_141 : decode cX4_isGreater 141 = .ok (.iload_n 3, 1) := by decide +kernel
theorem dX4_isGreater_142 : decode cX4_isGreater 142 = .ok (.iload 6, 2) := by decide +kernel
theorem dX4_isGreater_144 : decode cX4_isGreater 144 = .ok (.invokevirtual 50, 3) := by decide +kernel
theorem dX4_isGreater_147 : decode cX4_isGreater 147 = .ok (.istore_n 3, 1) := by decide +kernel
theorem dX4_isGreater_148 : decode cX4_isGreater 148 = .ok (.aload_n 0, 1) := by decide +kernel
theorem dX4_isGreater_149 : decode cX4_isGreater 149 = .ok (.getfield 25, 3) := by decide +kernel
theorem dX4_isGreater_152 : decode cX4_isGreater 152 = .ok (.iload 4, 2) := by decide +kernel
theorem dX4_isGreater_154 : decode cX4_isGreater 154 = .ok (.iload 6, 2) := by decide +kernel
theorem dX4_isGreater_156 : decode cX4_isGreater 156 = .ok (.invokevirtual 50, 3) := by decide +kernel
theorem dX4_isGreater_159 : decode cX4_isGreater 159 = .ok (.istore 4, 2) := by decide +kernel
theorem dX4_isGreater_161 : decode cX4_isGreater 161 = .ok (.iinc 5 1, 3) := by decide +kernel
theorem dX4_isGreater_164 : decode cX4_isGreater 164 = .ok (.goto (-156), 3) := by decide +kernel
theorem dX4_isGreater_167 : decode cX4_isGreater 167 = .ok (.iconst 0, 1) := by decide +kernel
theorem dX4_isGreater_168 : decode cX4_isGreater 168 = .ok (.ireturn, 1) := by decide +kernel
theorem dX4_weighBoth_0 : decode cX4_weighBoth 0 = .ok (.aload_n 0, 1) := by decide +kernel
theorem dX4_weighBoth_1 : decode cX4_weighBoth 1 = .ok (.getfield 9, 3) := by decide +kernel
theorem dX4_weighBoth_4 : decode cX4_weighBoth 4 = .ok (.iconst 0, 1) := by decide +kernel
theorem dX4_weighBoth_5 : decode cX4_weighBoth 5 = .ok (.invokestatic 53, 3) := by decide +kernel
theorem dX4_weighBoth_8 : decode cX4_weighBoth 8 = .ok (.aload_n 0, 1) := by decide +kernel
theorem dX4_weighBoth_9 : decode cX4_weighBoth 9 = .ok (.iconst 0, 1) := by decide +kernel
theorem dX4_weighBoth_10 : decode cX4_weighBoth 10 = .ok (.putfield 15, 3) := by decide +kernel
theorem dX4_weighBoth_13 : decode cX4_weighBoth 13 = .ok (.aload_n 0, 1) := by decide +kernel
theorem dX4_weighBoth_14 : decode cX4_weighBoth 14 = .ok (.iload_n 1, 1) := by decide +kernel
theorem dX4_weighBoth_15 : decode cX4_weighBoth 15 = .ok (.iconst 1, 1) := by decide +kernel
theorem dX4_weighBoth_16 : decode cX4_weighBoth 16 = .ok (.iconst 1, 1) := by decide +kernel
theorem dX4_weighBoth_17 : decode cX4_weighBoth 17 = .ok (.invokevirtual 59, 3) := by decide +kernel
theorem dX4_weighBoth_20 : decode cX4_weighBoth 20 = .ok (.aload_n 0, 1) := by decide +kernel
theorem dX4_weighBoth_21 : decode cX4_weighBoth 21 = .ok (.iload_n 2, 1) := by decide +kernel
theorem dX4_weighBoth_22 : decode cX4_weighBoth 22 = .ok (.iconst (-1), 1) := by decide +kernel
theorem dX4_weighBoth_23 : decode cX4_weighBoth 23 = .ok (.iconst 1, 1) := by decide +kernel
theorem dX4_weighBoth_24 : decode cX4_weighBoth 24 = .ok (.invokevirtual 59, 3) := by decide +kernel
theorem dX4_weighBoth_27 : decode cX4_weighBoth 27 = .ok (.return_, 1) := by decide +kernel
theorem dX4_weigh_0 : decode cX4_weigh 0 = .ok (.iload_n 3, 1) := by decide +kernel
theorem dX4_weigh_1 : decode cX4_weigh 1 = .ok (.bipush 6, 2) := by decide +kernel
theorem dX4_weigh_3 : decode cX4_weigh 3 = .ok (.if_icmp .le 4, 3) := by decide +kernel
theorem dX4_weigh_6 : decode cX4_weigh 6 = .ok (.return_, 1) := by decide +kernel
theorem dX4_weigh_7 : decode cX4_weigh 7 = .ok (.aload_n 0, 1) := by decide +kernel
theorem dX4_weigh_8 : decode cX4_weigh 8 = .ok (.getfield 25, 3) := by decide +kernel
theorem dX4_weigh_11 : decode cX4_weigh 11 = .ok (.getfield 43, 3) := by decide +kernel
theorem dX4_weigh_14 : decode cX4_weigh 14 = .ok (.iload_n 1, 1) := by decide +kernel
theorem dX4_weigh_15 : decode cX4_weigh 15 = .ok (.iaload, 1) := by decide +kernel
theorem dX4_weigh_16 : decode cX4_weigh 16 = .ok (.istore 4, 2) := by decide +kernel
theorem dX4_weigh_18 : decode cX4_weigh 18 = .ok (.iload 4, 2) := by decide +kernel
theorem dX4_weigh_20 : decode cX4_weigh 20 = .ok (.ifCond .ge 27, 3) := by decide +kernel
theorem dX4_weigh_23 : decode cX4_weigh 23 = .ok (.aload_n 0, 1) := by decide +kernel
theorem dX4_weigh_24 : decode cX4_weigh 24 = .ok (.getfield 9, 3) := by decide +kernel
theorem dX4_weigh_27 : decode cX4_weigh 27 = .ok (.iload 4, 2) := by decide +kernel
theorem dX4_weigh_29 : decode cX4_weigh 29 = .ok (.iconst (-1), 1) := by decide +kernel
theorem dX4_weigh_30 : decode cX4_weigh 30 = .ok (.ixor, 1) := by decide +kernel
theorem dX4_weigh_31 : decode cX4_weigh 31 = .ok (.dup2, 1) := by decide +kernel
theorem dX4_weigh_32 : decode cX4_weigh 32 = .ok (.iaload, 1) := by decide +kernel
theorem dX4_weigh_33 : decode cX4_weigh 33 = .ok (.iload_n 2, 1) := by decide +kernel
theorem dX4_weigh_34 : decode cX4_weigh 34 = .ok (.iadd, 1) := by decide +kernel
theorem dX4_weigh_35 : decode cX4_weigh 35 = .ok (.iastore, 1) := by decide +kernel
theorem dX4_weigh_36 : decode cX4_weigh 36 = .ok (.aload_n 0, 1) := by decide +kernel
theorem dX4_weigh_37 : decode cX4_weigh 37 = .ok (.dup, 1) := by decide +kernel
theorem dX4_weigh_38 : decode cX4_weigh 38 = .ok (.getfield 15, 3) := by decide +kernel
theorem dX4_weigh_41 : decode cX4_weigh 41 = .ok (.iload_n 2, 1) := by decide +kernel
theorem dX4_weigh_42 : decode cX4_weigh 42 = .ok (.iadd, 1) := by decide +kernel
theorem dX4_weigh_43 : decode cX4_weigh 43 = .ok (.putfield 15, 3) := by decide +kernel
theorem dX4_weigh_46 : decode cX4_weigh 46 = .ok (.return_, 1) := by decide +kernel
theorem dX4_weigh_47 : decode cX4_weigh 47 = .ok (.aload_n 0, 1) := by decide +kernel
theorem dX4_weigh_48 : decode cX4_weigh 48 = .ok (.dup, 1) := by decide +kernel
theorem dX4_weigh_49 : decode cX4_weigh 49 = .ok (.getfield 15, 3) := by decide +kernel
theorem dX4_weigh_52 : decode cX4_weigh 52 = .ok (.iload_n 2, 1) := by decide +kernel
theorem dX4_weigh_53 : decode cX4_weigh 53 = .ok (.iload 4, 2) := by decide +kernel
theorem dX4_weigh_55 : decode cX4_weigh 55 = .ok (.aload_n 0, 1) := by decide +kernel
theorem dX4_weigh_56 : decode cX4_weigh 56 = .ok (.getfield 19, 3) := by decide +kernel
theorem dX4_weigh_59 : decode cX4_weigh 59 = .ok (.if_icmp .ne 10, 3) := by decide +kernel
theorem dX4_weigh_62 : decode cX4_weigh 62 = .ok (.aload_n 0, 1) := by decide +kernel
theorem dX4_weigh_63 : decode cX4_weigh 63 = .ok (.getfield 22, 3) := by decide +kernel
theorem dX4_weigh_66 : decode cX4_weigh 66 = .ok (.goto 16, 3) := by decide +kernel
theorem dX4_weigh_69 : decode cX4_weigh 69 = .ok (.aload_n 0, 1) := by decide +kernel
theorem dX4_weigh_70 : decode cX4_weigh 70 = .ok (.getfield 25, 3) := by decide +kernel
theorem dX4_weigh_73 : decode cX4_weigh 73 = .ok (.getfield 63, 3) := by decide +kernel
theorem dX4_weigh_76 : decode cX4_weigh 76 = .ok (.getfield 67, 3) := by decide +kernel
theorem dX4_weigh_79 : decode cX4_weigh 79 = .ok (.iload 4, 2) := by decide +kernel
theorem dX4_weigh_81 : decode cX4_weigh 81 = .ok (.iaload, 1) := by decide +kernel
theorem dX4_weigh_82 : decode cX4_weigh 82 = .ok (.imul, 1) := by decide +kernel
theorem dX4_weigh_83 : decode cX4_weigh 83 = .ok (.iadd, 1) := by decide +kernel
theorem dX4_weigh_84 : decode cX4_weigh 84 = .ok (.putfield 15, 3) := by decide +kernel
theorem dX4_weigh_87 : decode cX4_weigh 87 = .ok (.iconst 0, 1) := by decide +kernel
theorem dX4_weigh_88 : decode cX4_weigh 88 = .ok (.istore 5, 2) := by decide +kernel
theorem dX4_weigh_90 : decode cX4_weigh 90 = .ok (.iload 5, 2) := by decide +kernel
theorem dX4_weigh_92 : decode cX4_weigh 92 = .ok (.aload_n 0, 1) := by decide +kernel
theorem dX4_weigh_93 : decode cX4_weigh 93 = .ok (.getfield 25, 3) := by decide +kernel
theorem dX4_weigh_96 : decode cX4_weigh 96 = .ok (.getfield 72, 3) := by decide +kernel
theorem dX4_weigh_99 : decode cX4_weigh 99 = .ok (.iload_n 1, 1) := by decide +kernel
theorem dX4_weigh_100 : decode cX4_weigh 100 = .ok (.iaload, 1) := by decide +kernel
theorem dX4_weigh_101 : decode cX4_weigh 101 = .ok (.if_icmp .ge 27, 3) := by decide +kernel
theorem dX4_weigh_104 : decode cX4_weigh 104 = .ok (.aload_n 0, 1) := by decide +kernel
theorem dX4_weigh_105 : decode cX4_weigh 105 = .ok (.aload_n 0, 1) := by decide +kernel
theorem dX4_weigh_106 : decode cX4_weigh 106 = .ok (.getfield 25, 3) := by decide +kernel
theorem dX4_weigh_109 : decode cX4_weigh 109 = .ok (.iload_n 1, 1) := by decide +kernel
theorem dX4_weigh_110 : decode cX4_weigh 110 = .ok (.iload 5, 2) := by decide +kernel
theorem dX4_weigh_112 : decode cX4_weigh 112 = .ok (.invokevirtual 50, 3) := by decide +kernel
theorem dX4_weigh_115 : decode cX4_weigh 115 = .ok (.iload_n 2, 1) := by decide +kernel
theorem dX4_weigh_116 : decode cX4_weigh 116 = .ok (.iload_n 3, 1) := by decide +kernel
theorem dX4_weigh_117 : decode cX4_weigh 117 = .ok (.iconst 1, 1) := by decide +kernel
theorem dX4_weigh_118 : decode cX4_weigh 118 = .ok (.iadd, 1) := by decide +kernel
theorem dX4_weigh_119 : decode cX4_weigh 119 = .ok (.invokevirtual 59, 3) := by decide +kernel
theorem dX4_weigh_122 : decode cX4_weigh 122 = .ok (.iinc 5 1, 3) := by decide +kernel
theorem dX4_weigh_125 : decode cX4_weigh 125 = .ok (.goto (-35), 3) := by decide +kernel
theorem dX4_weigh_128 : decode cX4_weigh 128 = .ok (.return_, 1) := by decide +kernel
theorem dX4_lacksVariable_0 : decode cX4_lacksVariable 0 = .ok (.iconst 0, 1) := by decide +kernel
theorem dX4_lacksVariable_1 : decode cX4_lacksVariable 1 = .ok (.istore_n 1, 1) := by decide +kernel
theorem dX4_lacksVariable_2 : decode cX4_lacksVariable 2 = .ok (.iload_n 1, 1) := by decide +kernel
theorem dX4_lacksVariable_3 : decode cX4_lacksVariable 3 = .ok (.bipush 8, 2) := by decide +kernel
theorem dX4_lacksVariable_5 : decode cX4_lacksVariable 5 = .ok (.if_icmp .ge 20, 3) := by decide +kernel
theorem dX4_lacksVariable_8 : decode cX4_lacksVariable 8 = .ok (.aload_n 0, 1) := by decide +kernel
theorem dX4_lacksVariable_9 : decode cX4_lacksVariable 9 = .ok (.getfield 9, 3) := by decide +kernel
theorem dX4_lacksVariable_12 : decode cX4_lacksVariable 12 = .ok (.iload_n 1, 1) := by decide +kernel
theorem dX4_lacksVariable_13 : decode cX4_lacksVariable 13 = .ok (.iaload, 1) := by decide +kernel
theorem dX4_lacksVariable_14 : decode cX4_lacksVariable 14 = .ok (.ifCond .ge 5, 3) := by decide +kernel
theorem dX4_lacksVariable_17 : decode cX4_lacksVariable 17 = .ok (.iconst 1, 1) := by decide +kernel
theorem dX4_lacksVariable_18 : decode cX4_lacksVariable 18 = .ok (.ireturn, 1) := by decide +kernel
theorem dX4_lacksVariable_19 : decode cX4_lacksVariable 19 = .ok (.iinc 1 1, 3) := by decide +kernel
theorem dX4_lacksVariable_22 : decode cX4_lacksVariable 22 = .ok (.goto (-20), 3) := by decide +kernel
theorem dX4_lacksVariable_25 : decode cX4_lacksVariable 25 = .ok (.iconst 0, 1) := by decide +kernel
theorem dX4_lacksVariable_26 : decode cX4_lacksVariable 26 = .ok (.ireturn, 1) := by decide +kernel
theorem dX4_firstUnlike_0 : decode cX4_firstUnlike 0 = .ok (.aload_n 0, 1) := by decide +kernel
theorem dX4_firstUnlike_1 : decode cX4_firstUnlike 1 = .ok (.getfield 25, 3) := by decide +kernel
theorem dX4_firstUnlike_4 : decode cX4_firstUnlike 4 = .ok (.getfield 72, 3) := by decide +kernel
theorem dX4_firstUnlike_7 : decode cX4_firstUnlike 7 = .ok (.iload_n 1, 1) := by decide +kernel
theorem dX4_firstUnlike_8 : decode cX4_firstUnlike 8 = .ok (.iaload, 1) := by decide +kernel
theorem dX4_firstUnlike_9 : decode cX4_firstUnlike 9 = .ok (.iconst 1, 1) := by decide +kernel
theorem dX4_firstUnlike_10 : decode cX4_firstUnlike 10 = .ok (.isub, 1) := by decide +kernel
theorem dX4_firstUnlike_11 : decode cX4_firstUnlike 11 = .ok (.istore_n 3, 1) := by decide +kernel
theorem dX4_firstUnlike_12 : decode cX4_firstUnlike 12 = .ok (.iconst 0, 1) := by decide +kernel
theorem dX4_firstUnlike_13 : decode cX4_firstUnlike 13 = .ok (.istore 4, 2) := by decide +kernel
theorem dX4_firstUnlike_15 : decode cX4_firstUnlike 15 = .ok (.iload 4, 2) := by decide +kernel
theorem dX4_firstUnlike_17 : decode cX4_firstUnlike 17 = .ok (.iload_n 3, 1) := by decide +kernel
theorem dX4_firstUnlike_18 : decode cX4_firstUnlike 18 = .ok (.if_icmp .ge 35, 3) := by decide +kernel
theorem dX4_firstUnlike_21 : decode cX4_firstUnlike 21 = .ok (.aload_n 0, 1) := by decide +kernel
theorem dX4_firstUnlike_22 : decode cX4_firstUnlike 22 = .ok (.getfield 25, 3) := by decide +kernel
theorem dX4_firstUnlike_25 : decode cX4_firstUnlike 25 = .ok (.iload_n 1, 1) := by decide +kernel
theorem dX4_firstUnlike_26 : decode cX4_firstUnlike 26 = .ok (.iload 4, 2) := by decide +kernel
theorem dX4_firstUnlike_28 : decode cX4_firstUnlike 28 = .ok (.invokevirtual 50, 3) := by decide +kernel
theorem dX4_firstUnlike_31 : decode cX4_firstUnlike 31 = .ok (.aload_n 0, 1) := by decide +kernel
theorem dX4_firstUnlike_32 : decode cX4_firstUnlike 32 = .ok (.getfield 25, 3) := by decide +kernel
theorem dX4_firstUnlike_35 : decode cX4_firstUnlike 35 = .ok (.iload_n 2, 1) := by decide +kernel
theorem dX4_firstUnlike_36 : decode cX4_firstUnlike 36 = .ok (.iload 4, 2) := by decide +kernel
theorem dX4_firstUnlike_38 : decode cX4_firstUnlike 38 = .ok (.invokevirtual 50, 3) := by decide +kernel
theorem dX4_firstUnlike_41 : decode cX4_firstUnlike 41 = .ok (.if_icmp .eq 6, 3) := by decide +kernel
theorem dX4_firstUnlike_44 : decode cX4_firstUnlike 44 = .ok (.iload 4, 2) := by decide +kernel
theorem dX4_firstUnlike_46 : decode cX4_firstUnlike 46 = .ok (.ireturn, 1) := by decide +kernel
theorem dX4_firstUnlike_47 : decode cX4_firstUnlike 47 = .ok (.iinc 4 1, 3) := by decide +kernel
theorem dX4_firstUnlike_50 : decode cX4_firstUnlike 50 = .ok (.goto (-35), 3) := by decide +kernel
theorem dX4_firstUnlike_53 : decode cX4_firstUnlike 53 = .ok (.iload_n 3, 1) := by decide +kernel
theorem dX4_firstUnlike_54 : decode cX4_firstUnlike 54 = .ok (.iconst 0, 1) := by decide +kernel
theorem dX4_firstUnlike_55 : decode cX4_firstUnlike 55 = .ok (.invokestatic 75, 3) := by decide +kernel
theorem dX4_firstUnlike_58 : decode cX4_firstUnlike 58 = .ok (.ireturn, 1) := by decide +kernel
theorem dX5_init_0 : decode cX5_init 0 = .ok (.aload_n 0, 1) := by decide +kernel
theorem dX5_init_1 : decode cX5_init 1 = .ok (.invokespecial 3, 3) := by decide +kernel
theorem dX5_init_4 : decode cX5_init 4 = .ok (.aload_n 0, 1) := by decide +kernel
theorem dX5_init_5 : decode cX5_init 5 = .ok (.iconst 0, 1) := by decide +kernel
theorem dX5_init_6 : decode cX5_init 6 = .ok (.putfield 9, 3) := by decide +kernel
theorem dX5_init_9 : decode cX5_init 9 = .ok (.aload_n 0, 1) := by decide +kernel
theorem dX5_init_10 : decode cX5_init 10 = .ok (.iconst 0, 1) := by decide +kernel
theorem dX5_init_11 : decode cX5_init 11 = .ok (.putfield 15, 3) := by decide +kernel
theorem dX5_init_14 : decode cX5_init 14 = .ok (.aload_n 0, 1) := by decide +kernel
theorem dX5_init_15 : decode cX5_init 15 = .ok (.iconst 0, 1) := by decide +kernel
theorem dX5_init_16 : decode cX5_init 16 = .ok (.putfield 18, 3) := by decide +kernel
theorem dX5_init_19 : decode cX5_init 19 = .ok (.aload_n 0, 1) := by decide +kernel
theorem dX5_init_20 : decode cX5_init 20 = .ok (.iconst 0, 1) := by decide +kernel
theorem dX5_init_21 : decode cX5_init 21 = .ok (.putfield 21, 3) := by decide +kernel
theorem dX5_init_24 : decode cX5_init 24 = .ok (.aload_n 0, 1) := by decide +kernel
theorem dX5_init_25 : decode cX5_init 25 = .ok (.iconst 0, 1) := by decide +kernel
theorem dX5_init_26 : decode cX5_init 26 = .ok (.putfield 24, 3) := by decide +kernel
theorem dX5_init_29 : decode cX5_init 29 = .ok (.aload_n 0, 1) := by decide +kernel
theorem dX5_init_30 : decode cX5_init 30 = .ok (.iconst (-1), 1) := by decide +kernel
theorem dX5_init_31 : decode cX5_init 31 = .ok (.putfield 27, 3) := by decide +kernel
theorem dX5_init_34 : decode cX5_init 34 = .ok (.aload_n 0, 1) := by decide +kernel
theorem dX5_init_35 : decode cX5_init 35 = .ok (.iconst 0, 1) := by decide +kernel
theorem dX5_init_36 : decode cX5_init 36 = .ok (.putfield 30, 3) := by decide +kernel
theorem dX5_init_39 : decode cX5_init 39 = .ok (.aload_n 0, 1) := by decide +kernel
theorem dX5_init_40 : decode cX5_init 40 = .ok (.aload_n 1, 1) := by decide +kernel
theorem dX5_init_41 : decode cX5_init 41 = .ok (.putfield 34, 3) := by decide +kernel
theorem dX5_init_44 : decode cX5_init 44 = .ok (.aload_n 0, 1) := by decide +kernel
theorem dX5_init_45 : decode cX5_init 45 = .ok (.aload_n 2, 1) := by decide +kernel
theorem dX5_init_46 : decode cX5_init 46 = .ok (.putfield 38, 3) := by decide +kernel
theorem dX5_init_49 : decode cX5_init 49 = .ok (.aload_n 0, 1) := by decide +kernel
theorem dX5_init_50 : decode cX5_init 50 = .ok (.aload_n 2, 1) := by decide +kernel
theorem dX5_init_51 : decode cX5_init 51 = .ok (.getfield 42, 3) := by decide +kernel
theorem dX5_init_54 : decode cX5_init 54 = .ok (.getfield 48, 3) := by decide +kernel
theorem dX5_init_57 : decode cX5_init 57 = .ok (.putfield 54, 3) := by decide +kernel
theorem dX5_init_60 : decode cX5_init 60 = .ok (.aload_n 0, 1) := by decide +kernel
theorem dX5_init_61 : decode cX5_init 61 = .ok (.aload_n 3, 1) := by decide +kernel
theorem dX5_init_62 : decode cX5_init 62 = .ok (.putfield 55, 3) := by decide +kernel
theorem dX5_init_65 : decode cX5_init 65 = .ok (.return_, 1) := by decide +kernel
theorem dX5_faultPlace_0 : decode cX5_faultPlace 0 = .ok (.aload_n 0, 1) := by decide +kernel
theorem dX5_faultPlace_1 : decode cX5_faultPlace 1 = .ok (.getfield 27, 3) := by decide +kernel
theorem dX5_faultPlace_4 : decode cX5_faultPlace 4 = .ok (.ireturn, 1) := by decide +kernel
theorem dX5_readBank_0 : decode cX5_readBank 0 = .ok (.aload_n 0, 1) := by decide +kernel
theorem dX5_readBank_1 : decode cX5_readBank 1 = .ok (.iload_n 1, 1) := by decide +kernel
theorem dX5_readBank_2 : decode cX5_readBank 2 = .ok (.aload_n 0, 1) := by decide +kernel
theorem dX5_readBank_3 : decode cX5_readBank 3 = .ok (.getfield 34, 3) := by decide +kernel
theorem dX5_readBank_6 : decode cX5_readBank 6 = .ok (.arraylength, 1) := by decide +kernel
theorem dX5_readBank_7 : decode cX5_readBank 7 = .ok (.invokestatic 59, 3) := by decide +kernel
theorem dX5_readBank_10 : decode cX5_readBank 10 = .ok (.putfield 9, 3) := by decide +kernel
theorem dX5_readBank_13 : decode cX5_readBank 13 = .ok (.aload_n 0, 1) := by decide +kernel
theorem dX5_readBank_14 : decode cX5_readBank 14 = .ok (.iconst 0, 1) := by decide +kernel
theorem dX5_readBank_15 : decode cX5_readBank 15 = .ok (.putfield 21, 3) := by decide +kernel
theorem dX5_readBank_18 : decode cX5_readBank 18 = .ok (.aload_n 0, 1) := by decide +kernel
theorem dX5_readBank_19 : decode cX5_readBank 19 = .ok (.iconst 0, 1) := by decide +kernel
theorem dX5_readBank_20 : decode cX5_readBank 20 = .ok (.putfield 24, 3) := by decide +kernel
theorem dX5_readBank_23 : decode cX5_readBank 23 = .ok (.aload_n 0, 1) := by decide +kernel
theorem dX5_readBank_24 : decode cX5_readBank 24 = .ok (.iconst (-1), 1) := by decide +kernel
theorem dX5_readBank_25 : decode cX5_readBank 25 = .ok (.putfield 27, 3) := by decide +kernel
theorem dX5_readBank_28 : decode cX5_readBank 28 = .ok (.aload_n 0, 1) := by decide +kernel
theorem dX5_readBank_29 : decode cX5_readBank 29 = .ok (.iconst 0, 1) := by decide +kernel
theorem dX5_readBank_30 : decode cX5_readBank 30 = .ok (.putfield 30, 3) := by decide +kernel
theorem dX5_readBank_33 : decode cX5_readBank 33 = .ok (.aload_n 0, 1) := by decide +kernel
theorem dX5_readBank_34 : decode cX5_readBank 34 = .ok (.invokevirtual 65, 3) := by decide +kernel
theorem dX5_readBank_37 : decode cX5_readBank 37 = .ok (.iconst 0, 1) := by decide +kernel
theorem dX5_readBank_38 : decode cX5_readBank 38 = .ok (.istore_n 2, 1) := by decide +kernel
theorem dX5_readBank_39 : decode cX5_readBank 39 = .ok (.iload_n 2, 1) := by decide +kernel
theorem dX5_readBank_40 : decode cX5_readBank 40 = .ok (.sipush 700, 3) := by decide +kernel
theorem dX5_readBank_43 : decode cX5_readBank 43 = .ok (.if_icmp .ge 109, 3) := by decide +kernel
theorem dX5_readBank_46 : decode cX5_readBank 46 = .ok (.aload_n 0, 1) := by decide +kernel
theorem dX5_readBank_47 : decode cX5_readBank 47 = .ok (.getfield 15, 3) := by decide +kernel
theorem dX5_readBank_50 : decode cX5_readBank 50 = .ok (.ifCond .eq 102, 3) := by decide +kernel
theorem dX5_readBank_53 : decode cX5_readBank 53 = .ok (.aload_n 0, 1) := by decide +kernel
theorem dX5_readBank_54 : decode cX5_readBank 54 = .ok (.getfield 24, 3) := by decide +kernel
theorem dX5_readBank_57 : decode cX5_readBank 57 = .ok (.ifCond .ne 95, 3) := by decide +kernel
theorem dX5_readBank_60 : decode cX5_readBank 60 = .ok (.aload_n 0, 1) := by decide +kernel
theorem dX5_readBank_61 : decode cX5_readBank 61 = .ok (.ldc 68, 2) := by decide +kernel
theorem dX5_readBank_63 : decode cX5_readBank 63 = .ok (.invokevirtual 70, 3) := by decide +kernel
theorem dX5_readBank_66 : decode cX5_readBank 66 = .ok (.ifCond .eq 10, 3) := by decide +kernel
theorem dX5_readBank_69 : decode cX5_readBank 69 = .ok (.aload_n 0, 1) := by decide +kernel
theorem dX5_readBank_70 : decode cX5_readBank 70 = .ok (.invokevirtual 74, 3) := by decide +kernel
theorem dX5_readBank_73 : decode cX5_readBank 73 = .ok (.goto 73, 3) := by decide +kernel
theorem dX5_readBank_76 : decode cX5_readBank 76 = .ok (.aload_n 0, 1) := by decide +kernel
theorem dX5_readBank_77 : decode cX5_readBank 77 = .ok (.ldc 77, 2) := by decide +kernel
theorem dX5_readBank_79 : decode cX5_readBank 79 = .ok (.invokevirtual 70, 3) := by decide +kernel
theorem dX5_readBank_82 : decode cX5_readBank 82 = .ok (.ifCond .eq 10, 3) := by decide +kernel
theorem dX5_readBank_85 : decode cX5_readBank 85 = .ok (.aload_n 0, 1) := by decide +kernel
theorem dX5_readBank_86 : decode cX5_readBank 86 = .ok (.invokevirtual 79, 3) := by decide +kernel
theorem dX5_readBank_89 : decode cX5_readBank 89 = .ok (.goto 57, 3) := by decide +kernel
theorem dX5_readBank_92 : decode cX5_readBank 92 = .ok (.aload_n 0, 1) := by decide +kernel
theorem dX5_readBank_93 : decode cX5_readBank 93 = .ok (.ldc 82, 2) := by decide +kernel
theorem dX5_readBank_95 : decode cX5_readBank 95 = .ok (.invokevirtual 70, 3) := by decide +kernel
theorem dX5_readBank_98 : decode cX5_readBank 98 = .ok (.ifCond .eq 10, 3) := by decide +kernel
theorem dX5_readBank_101 : decode cX5_readBank 101 = .ok (.aload_n 0, 1) := by decide +kernel
theorem dX5_readBank_102 : decode cX5_readBank 102 = .ok (.invokevirtual 84, 3) := by decide +kernel
theorem dX5_readBank_105 : decode cX5_readBank 105 = .ok (.goto 41, 3) := by decide +kernel
theorem dX5_readBank_108 : decode cX5_readBank 108 = .ok (.aload_n 0, 1) := by decide +kernel
theorem dX5_readBank_109 : decode cX5_readBank 109 = .ok (.ldc 87, 2) := by decide +kernel
theorem dX5_readBank_111 : decode cX5_readBank 111 = .ok (.invokevirtual 70, 3) := by decide +kernel
theorem dX5_readBank_114 : decode cX5_readBank 114 = .ok (.ifCond .eq 10, 3) := by decide +kernel
theorem dX5_readBank_117 : decode cX5_readBank 117 = .ok (.aload_n 0, 1) := by decide +kernel
theorem dX5_readBank_118 : decode cX5_readBank 118 = .ok (.invokevirtual 89, 3) := by decide +kernel
theorem dX5_readBank_121 : decode cX5_readBank 121 = .ok (.goto 25, 3) := by decide +kernel
theorem dX5_readBank_124 : decode cX5_readBank 124 = .ok (.aload_n 0, 1) := by decide +kernel
theorem dX5_readBank_125 : decode cX5_readBank 125 = .ok (.ldc 92, 2) := by decide +kernel
theorem dX5_readBank_127 : decode cX5_readBank 127 = .ok (.invokevirtual 70, 3) := by decide +kernel
theorem dX5_readBank_130 : decode cX5_readBank 130 = .ok (.ifCond .eq 10, 3) := by decide +kernel
theorem dX5_readBank_133 : decode cX5_readBank 133 = .ok (.aload_n 0, 1) := by decide +kernel
theorem dX5_readBank_134 : decode cX5_readBank 134 = .ok (.invokevirtual 94, 3) := by decide +kernel
theorem dX5_readBank_137 : decode cX5_readBank 137 = .ok (.goto 9, 3) := by decide +kernel
theorem dX5_readBank_140 : decode cX5_readBank 140 = .ok (.aload_n 0, 1) := by decide +kernel
theorem dX5_readBank_141 : decode cX5_readBank 141 = .ok (.iconst 1, 1) := by decide +kernel
theorem dX5_readBank_142 : decode cX5_readBank 142 = .ok (.invokevirtual 97, 3) := by decide +kernel
theorem dX5_readBank_145 : decode cX5_readBank 145 = .ok (.pop, 1) := by decide +kernel
theorem dX5_readBank_146 : decode cX5_readBank 146 = .ok (.iinc 2 1, 3) := by decide +kernel
theorem dX5_readBank_149 : decode cX5_readBank 149 = .ok (.goto (-110), 3) := by decide +kernel
theorem dX5_readBank_152 : decode cX5_readBank 152 = .ok (.aload_n 0, 1) := by decide +kernel
theorem dX5_readBank_153 : decode cX5_readBank 153 = .ok (.getfield 24, 3) := by decide +kernel
theorem dX5_readBank_156 : decode cX5_readBank 156 = .ok (.ireturn, 1) := by decide +kernel
theorem dX5_next_0 : decode cX5_next 0 = .ok (.aload_n 0, 1) := by decide +kernel
theorem dX5_next_1 : decode cX5_next 1 = .ok (.aload_n 0, 1) := by decide +kernel
theorem dX5_next_2 : decode cX5_next 2 = .ok (.getfield 21, 3) := by decide +kernel
theorem dX5_next_5 : decode cX5_next 5 = .ok (.putfield 18, 3) := by decide +kernel
theorem dX5_next_8 : decode cX5_next 8 = .ok (.aload_n 0, 1) := by decide +kernel
theorem dX5_next_9 : decode cX5_next 9 = .ok (.getfield 18, 3) := by decide +kernel
theorem dX5_next_12 : decode cX5_next 12 = .ok (.aload_n 0, 1) := by decide +kernel
theorem dX5_next_13 : decode cX5_next 13 = .ok (.getfield 9, 3) := by decide +kernel
theorem dX5_next_16 : decode cX5_next 16 = .ok (.if_icmp .ge 44, 3) := by decide +kernel
theorem dX5_next_19 : decode cX5_next 19 = .ok (.aload_n 0, 1) := by decide +kernel
theorem dX5_next_20 : decode cX5_next 20 = .ok (.getfield 34, 3) := by decide +kernel
theorem dX5_next_23 : decode cX5_next 23 = .ok (.aload_n 0, 1) := by decide +kernel
theorem dX5_next_24 : decode cX5_next 24 = .ok (.getfield 18, 3) := by decide +kernel
theorem dX5_next_27 : decode cX5_next 27 = .ok (.iaload, 1) := by decide +kernel
theorem dX5_next_28 : decode cX5_next 28 = .ok (.bipush 32, 2) := by decide +kernel
theorem dX5_next_30 : decode cX5_next 30 = .ok (.if_icmp .eq 17, 3) := by decide +kernel
theorem dX5_next_33 : decode cX5_next 33 = .ok (.aload_n 0, 1) := by decide +kernel
theorem dX5_next_34 : decode cX5_next 34 = .ok (.getfield 34, 3) := by decide +kernel
theorem dX5_next_37 : decode cX5_next 37 = .ok (.aload_n 0, 1) := by decide +kernel
theorem dX5_next_38 : decode cX5_next 38 = .ok (.getfield 18, 3) := by decide +kernel
theorem dX5_next_41 : decode cX5_next 41 = .ok (.iaload, 1) := by decide +kernel
theorem dX5_next_42 : decode cX5_next 42 = .ok (.bipush 10, 2) := by decide +kernel
theorem dX5_next_44 : decode cX5_next 44 = .ok (.if_icmp .ne 16, 3) := by decide +kernel
theorem dX5_next_47 : decode cX5_next 47 = .ok (.aload_n 0, 1) := by decide +kernel
theorem dX5_next_48 : decode cX5_next 48 = .ok (.dup, 1) := by decide +kernel
theorem dX5_next_49 : decode cX5_next 49 = .ok (.getfield 18, 3) := by decide +kernel
theorem dX5_next_52 : decode cX5_next 52 = .ok (.iconst 1, 1) := by decide +kernel
theorem dX5_next_53 : decode cX5_next 53 = .ok (.iadd, 1) := by decide +kernel
theorem dX5_next_54 : decode cX5_next 54 = .ok (.putfield 18, 3) := by decide +kernel
theorem dX5_next_57 : decode cX5_next 57 = .ok (.goto (-49), 3) := by decide +kernel
theorem dX5_next_60 : decode cX5_next 60 = .ok (.aload_n 0, 1) := by decide +kernel
theorem dX5_next_61 : decode cX5_next 61 = .ok (.aload_n 0, 1) := by decide +kernel
theorem dX5_next_62 : decode cX5_next 62 = .ok (.getfield 18, 3) := by decide +kernel
theorem dX5_next_65 : decode cX5_next 65 = .ok (.aload_n 0, 1) := by decide +kernel
theorem dX5_next_66 : decode cX5_next 66 = .ok (.getfield 9, 3) := by decide +kernel
theorem dX5_next_69 : decode cX5_next 69 = .ok (.if_icmp .ge 18, 3) := by decide +kernel
theorem dX5_next_72 : decode cX5_next 72 = .ok (.aload_n 0, 1) := by decide +kernel
theorem dX5_next_73 : decode cX5_next 73 = .ok (.getfield 34, 3) := by decide +kernel
theorem dX5_next_76 : decode cX5_next 76 = .ok (.aload_n 0, 1) := by decide +kernel
theorem dX5_next_77 : decode cX5_next 77 = .ok (.getfield 18, 3) := by decide +kernel
theorem dX5_next_80 : decode cX5_next 80 = .ok (.iaload, 1) := by decide +kernel
theorem dX5_next_81 : decode cX5_next 81 = .ok (.invokestatic 101, 3) := by decide +kernel
theorem dX5_next_84 : decode cX5_next 84 = .ok (.goto 4, 3) := by decide +kernel
theorem dX5_next_87 : decode cX5_next 87 = .ok (.iconst 0, 1) := by decide +kernel
theorem dX5_next_88 : decode cX5_next 88 = .ok (.putfield 15, 3) := by decide +kernel
theorem dX5_next_91 : decode cX5_next 91 = .ok (.aload_n 0, 1) := by decide +kernel
theorem dX5_next_92 : decode cX5_next 92 = .ok (.aload_n 0, 1) := by decide +kernel
theorem dX5_next_93 : decode cX5_next 93 = .ok (.getfield 18, 3) := by decide +kernel
theorem dX5_next_96 : decode cX5_next 96 = .ok (.iconst 1, 1) := by decide +kernel
theorem dX5_next_97 : decode cX5_next 97 = .ok (.iadd, 1) := by decide +kernel
theorem dX5_next_98 : decode cX5_next 98 = .ok (.aload_n 0, 1) := by decide +kernel
theorem dX5_next_99 : decode cX5_next 99 = .ok (.getfield 9, 3) := by decide +kernel
theorem dX5_next_102 : decode cX5_next 102 = .ok (.invokestatic 59, 3) := by decide +kernel
theorem dX5_next_105 : decode cX5_next 105 = .ok (.putfield 21, 3) := by decide +kernel
theorem dX5_next_108 : decode cX5_next 108 = .ok (.aload_n 0, 1) := by decide +kernel
theorem dX5_next_109 : decode cX5_next 109 = .ok (.getfield 15, 3) := by decide +kernel
theorem dX5_next_112 : decode cX5_next 112 = .ok (.iconst 2, 1) := by decide +kernel
theorem dX5_next_113 : decode cX5_next 113 = .ok (.if_icmp .eq 11, 3) := by decide +kernel
theorem dX5_next_116 : decode cX5_next 116 = .ok (.aload_n 0, 1) := by decide +kernel
theorem dX5_next_117 : decode cX5_next 117 = .ok (.getfield 15, 3) := by decide +kernel
theorem dX5_next_120 : decode cX5_next 120 = .ok (.iconst 3, 1) := by decide +kernel
theorem dX5_next_121 : decode cX5_next 121 = .ok (.if_icmp .ne 46, 3) := by decide +kernel
theorem dX5_next_124 : decode cX5_next 124 = .ok (.aload_n 0, 1) := by decide +kernel
theorem dX5_next_125 : decode cX5_next 125 = .ok (.getfield 21, 3) := by decide +kernel
theorem dX5_next_128 : decode cX5_next 128 = .ok (.aload_n 0, 1) := by decide +kernel
theorem dX5_next_129 : decode cX5_next 129 = .ok (.getfield 9, 3) := by decide +kernel
theorem dX5_next_132 : decode cX5_next 132 = .ok (.if_icmp .ge 35, 3) := by decide +kernel
theorem dX5_next_135 : decode cX5_next 135 = .ok (.aload_n 0, 1) := by decide +kernel
theorem dX5_next_136 : decode cX5_next 136 = .ok (.getfield 34, 3) := by decide +kernel
theorem dX5_next_139 : decode cX5_next 139 = .ok (.aload_n 0, 1) := by decide +kernel
theorem dX5_next_140 : decode cX5_next 140 = .ok (.getfield 21, 3) := by decide +kernel
theorem dX5_next_143 : decode cX5_next 143 = .ok (.iaload, 1) := by decide +kernel
theorem dX5_next_144 : decode cX5_next 144 = .ok (.invokestatic 101, 3) := by decide +kernel
theorem dX5_next_147 : decode cX5_next 147 = .ok (.aload_n 0, 1) := by decide +kernel
theorem dX5_next_148 : decode cX5_next 148 = .ok (.getfield 15, 3) := by decide +kernel
theorem dX5_next_151 : decode cX5_next 151 = .ok (.if_icmp .ne 16, 3) := by decide +kernel
theorem dX5_next_154 : decode cX5_next 154 = .ok (.aload_n 0, 1) := by decide +kernel
theorem dX5_next_155 : decode cX5_next 155 = .ok (.dup, 1) := by decide +kernel
theorem dX5_next_156 : decode cX5_next 156 = .ok (.getfield 21, 3) := by decide +kernel
theorem dX5_next_159 : decode cX5_next 159 = .ok (.iconst 1, 1) := by decide +kernel
theorem dX5_next_160 : decode cX5_next 160 = .ok (.iadd, 1) := by decide +kernel
theorem dX5_next_161 : decode cX5_next 161 = .ok (.putfield 21, 3) := by decide +kernel
theorem dX5_next_164 : decode cX5_next 164 = .ok (.goto (-56), 3) := by decide +kernel
theorem dX5_next_167 : decode cX5_next 167 = .ok (.return_, 1) := by decide +kernel
theorem dX5_kindOf_0 : decode cX5_kindOf 0 = .ok (.iload_n 0, 1) := by decide +kernel
theorem dX5_kindOf_1 : decode cX5_kindOf 1 = .ok (.bipush 97, 2) := by decide +kernel
theorem dX5_kindOf_3 : decode cX5_kindOf 3 = .ok (.if_icmp .lt 11, 3) := by decide +kernel
theorem dX5_kindOf_6 : decode cX5_kindOf 6 = .ok (.iload_n 0, 1) := by decide +kernel
theorem dX5_kindOf_7 : decode cX5_kindOf 7 = .ok (.bipush 122, 2) := by decide +kernel
theorem dX5_kindOf_9 : decode cX5_kindOf 9 = .ok (.if_icmp .gt 5, 3) := by decide +kernel
theorem dX5_kindOf_12 : decode cX5_kindOf 12 = .ok (.iconst 2, 1) := by decide +kernel
theorem dX5_kindOf_13 : decode cX5_kindOf 13 = .ok (.ireturn, 1) := by decide +kernel
theorem dX5_kindOf_14 : decode cX5_kindOf 14 = .ok (.iload_n 0, 1) := by decide +kernel
theorem dX5_kindOf_15 : decode cX5_kindOf 15 = .ok (.bipush 48, 2) := by decide +kernel
theorem dX5_kindOf_17 : decode cX5_kindOf 17 = .ok (.if_icmp .lt 11, 3) := by decide +kernel
theorem dX5_kindOf_20 : decode cX5_kindOf 20 = .ok (.iload_n 0, 1) := by decide +kernel
theorem dX5_kindOf_21 : decode cX5_kindOf 21 = .ok (.bipush 57, 2) := by decide +kernel
theorem dX5_kindOf_23 : decode cX5_kindOf 23 = .ok (.if_icmp .gt 5, 3) := by decide +kernel
theorem dX5_kindOf_26 : decode cX5_kindOf 26 = .ok (.iconst 3, 1) := by decide +kernel
theorem dX5_kindOf_27 : decode cX5_kindOf 27 = .ok (.ireturn, 1) := by decide +kernel
theorem dX5_kindOf_28 : decode cX5_kindOf 28 = .ok (.iload_n 0, 1) := by decide +kernel
theorem dX5_kindOf_29 : decode cX5_kindOf 29 = .ok (.bipush 63, 2) := by decide +kernel
theorem dX5_kindOf_31 : decode cX5_kindOf 31 = .ok (.if_icmp .eq 27, 3) := by decide +kernel
theorem dX5_kindOf_34 : decode cX5_kindOf 34 = .ok (.iload_n 0, 1) := by decide +kernel
theorem dX5_kindOf_35 : decode cX5_kindOf 35 = .ok (.bipush 40, 2) := by decide +kernel
theorem dX5_kindOf_37 : decode cX5_kindOf 37 = .ok (.if_icmp .eq 21, 3) := by decide +kernel
theorem dX5_kindOf_40 : decode cX5_kindOf 40 = .ok (.iload_n 0, 1) := by decide +kernel
theorem dX5_kindOf_41 : decode cX5_kindOf 41 = .ok (.bipush 41, 2) := by decide +kernel
theorem dX5_kindOf_43 : decode cX5_kindOf 43 = .ok (.if_icmp .eq 15, 3) := by decide +kernel
theorem dX5_kindOf_46 : decode cX5_kindOf 46 = .ok (.iload_n 0, 1) := by decide +kernel
theorem dX5_kindOf_47 : decode cX5_kindOf 47 = .ok (.bipush 44, 2) := by decide +kernel
theorem dX5_kindOf_49 : decode cX5_kindOf 49 = .ok (.if_icmp .eq 9, 3) := by decide +kernel
theorem dX5_kindOf_52 : decode cX5_kindOf 52 = .ok (.iload_n 0, 1) := by decide +kernel
theorem dX5_kindOf_53 : decode cX5_kindOf 53 = .ok (.bipush 59, 2) := by decide +kernel
theorem dX5_kindOf_55 : decode cX5_kindOf 55 = .ok (.if_icmp .ne 7, 3) := by decide +kernel
theorem dX5_kindOf_58 : decode cX5_kindOf 58 = .ok (.iconst 1, 1) := by decide +kernel
theorem dX5_kindOf_59 : decode cX5_kindOf 59 = .ok (.goto 4, 3) := by decide +kernel
theorem dX5_kindOf_62 : decode cX5_kindOf 62 = .ok (.iconst 0, 1) := by decide +kernel
theorem dX5_kindOf_63 : decode cX5_kindOf 63 = .ok (.istore_n 1, 1) := by decide +kernel
theorem dX5_kindOf_64 : decode cX5_kindOf 64 = .ok (.iload_n 1, 1) := by decide +kernel
theorem dX5_kindOf_65 : decode cX5_kindOf 65 = .ok (.ifCond .eq 7, 3) := by decide +kernel
theorem dX5_kindOf_68 : decode cX5_kindOf 68 = .ok (.iload_n 0, 1) := by decide +kernel
theorem dX5_kindOf_69 : decode cX5_kindOf 69 = .ok (.goto 4, 3) := by decide +kernel
theorem dX5_kindOf_72 : decode cX5_kindOf 72 = .ok (.iconst 1, 1) := by decide +kernel
theorem dX5_kindOf_73 : decode cX5_kindOf 73 = .ok (.ireturn, 1) := by decide +kernel
theorem dX5_fail_0 : decode cX5_fail 0 = .ok (.aload_n 0, 1) := by decide +kernel
theorem dX5_fail_1 : decode cX5_fail 1 = .ok (.getfield 24, 3) := by decide +kernel
theorem dX5_fail_4 : decode cX5_fail 4 = .ok (.ifCond .ne 16, 3) := by decide +kernel
theorem dX5_fail_7 : decode cX5_fail 7 = .ok (.aload_n 0, 1) := by decide +kernel
theorem dX5_fail_8 : decode cX5_fail 8 = .ok (.iload_n 1, 1) := by decide +kernel
theorem dX5_fail_9 : decode cX5_fail 9 = .ok (.putfield 24, 3) := by decide +kernel
theorem dX5_fail_12 : decode cX5_fail 12 = .ok (.aload_n 0, 1) := by decide +kernel
theorem dX5_fail_13 : decode cX5_fail 13 = .ok (.aload_n 0, 1) := by decide +kernel
theorem dX5_fail_14 : decode cX5_fail 14 = .ok (.getfield 18, 3) := by decide +kernel
theorem dX5_fail_17 : decode cX5_fail 17 = .ok (.putfield 27, 3) := by decide +kernel
theorem dX5_fail_20 : decode cX5_fail 20 = .ok (.iconst (-1), 1) := by decide +kernel
theorem dX5_fail_21 : decode cX5_fail 21 = .ok (.ireturn, 1) := by decide +kernel
theorem dX5_isWord_0 : decode cX5_isWord 0 = .ok (.aload_n 0, 1) := by decide +kernel
theorem dX5_isWord_1 : decode cX5_isWord 1 = .ok (.getfield 15, 3) := by decide +kernel
theorem dX5_isWord_4 : decode cX5_isWord 4 = .ok (.iconst 2, 1) := by decide +kernel
theorem dX5_isWord_5 : decode cX5_isWord 5 = .ok (.if_icmp .ne 19, 3) := by decide +kernel
theorem dX5_isWord_8 : decode cX5_isWord 8 = .ok (.aload_n 0, 1) := by decide +kernel
theorem dX5_isWord_9 : decode cX5_isWord 9 = .ok (.getfield 21, 3) := by decide +kernel
theorem dX5_isWord_12 : decode cX5_isWord 12 = .ok (.aload_n 0, 1) := by decide +kernel
theorem dX5_isWord_13 : decode cX5_isWord 13 = .ok (.getfield 18, 3) := by decide +kernel
theorem dX5_isWord_16 : decode cX5_isWord 16 = .ok (.isub, 1) := by decide +kernel
theorem dX5_isWord_17 : decode cX5_isWord 17 = .ok (.aload_n 1, 1) := by decide +kernel
theorem dX5_isWord_18 : decode cX5_isWord 18 = .ok (.invokevirtual 104, 3) := by decide +kernel
theorem dX5_isWord_21 : decode cX5_isWord 21 = .ok (.if_icmp .eq 5, 3) := by decide +kernel
theorem dX5_isWord_24 : decode cX5_isWord 24 = .ok (.iconst 0, 1) := by decide +kernel
theorem dX5_isWord_25 : decode cX5_isWord 25 = .ok (.ireturn, 1) := by decide +kernel
theorem dX5_isWord_26 : decode cX5_isWord 26 = .ok (.iconst 0, 1) := by decide +kernel
theorem dX5_isWord_27 : decode cX5_isWord 27 = .ok (.istore_n 2, 1) := by decide +kernel
theorem dX5_isWord_28 : decode cX5_isWord 28 = .ok (.iload_n 2, 1) := by decide +kernel
theorem dX5_isWord_29 : decode cX5_isWord 29 = .ok (.aload_n 1, 1) := by decide +kernel
theorem dX5_isWord_30 : decode cX5_isWord 30 = .ok (.invokevirtual 104, 3) := by decide +kernel
theorem dX5_isWord_33 : decode cX5_isWord 33 = .ok (.if_icmp .ge 30, 3) := by decide +kernel
theorem dX5_isWord_36 : decode cX5_isWord 36 = .ok (.aload_n 0, 1) := by decide +kernel
theorem dX5_isWord_37 : decode cX5_isWord 37 = .ok (.getfield 34, 3) := by decide +kernel
theorem dX5_isWord_40 : decode cX5_isWord 40 = .ok (.aload_n 0, 1) := by decide +kernel
theorem dX5_isWord_41 : decode cX5_isWord 41 = .ok (.getfield 18, 3) := by decide +kernel
theorem dX5_isWord_44 : decode cX5_isWord 44 = .ok (.iload_n 2, 1) := by decide +kernel
theorem dX5_isWord_45 : decode cX5_isWord 45 = .ok (.iadd, 1) := by decide +kernel
theorem dX5_isWord_46 : decode cX5_isWord 46 = .ok (.iaload, 1) := by decide +kernel
theorem dX5_isWord_47 : decode cX5_isWord 47 = .ok (.aload_n 1, 1) := by decide +kernel
theorem dX5_isWord_48 : decode cX5_isWord 48 = .ok (.iload_n 2, 1) := by decide +kernel
theorem dX5_isWord_49 : decode cX5_isWord 49 = .ok (.invokevirtual 109, 3) := by decide +kernel
theorem dX5_isWord_52 : decode cX5_isWord 52 = .ok (.if_icmp .eq 5, 3) := by decide +kernel
theorem dX5_isWord_55 : decode cX5_isWord 55 = .ok (.iconst 0, 1) := by decide +kernel
theorem dX5_isWord_56 : decode cX5_isWord 56 = .ok (.ireturn, 1) := by decide +kernel
theorem dX5_isWord_57 : decode cX5_isWord 57 = .ok (.iinc 2 1, 3) := by decide +kernel
theorem dX5_isWord_60 : decode cX5_isWord 60 = .ok (.goto (-32), 3) := by decide +kernel
theorem dX5_isWord_63 : decode cX5_isWord 63 = .ok (.iconst 1, 1) := by decide +kernel
theorem dX5_isWord_64 : decode cX5_isWord 64 = .ok (.ireturn, 1) := by decide +kernel
theorem dX5_pass_0 : decode cX5_pass 0 = .ok (.aload_n 0, 1) := by decide +kernel
theorem dX5_pass_1 : decode cX5_pass 1 = .ok (.getfield 24, 3) := by decide +kernel
theorem dX5_pass_4 : decode cX5_pass 4 = .ok (.ifCond .eq 4, 3) := by decide +kernel
theorem dX5_pass_7 : decode cX5_pass 7 = .ok (.return_, 1) := by decide +kernel
theorem dX5_pass_8 : decode cX5_pass 8 = .ok (.aload_n 0, 1) := by decide +kernel
theorem dX5_pass_9 : decode cX5_pass 9 = .ok (.getfield 15, 3) := by decide +kernel
theorem dX5_pass_12 : decode cX5_pass 12 = .ok (.iload_n 1, 1) := by decide +kernel
theorem dX5_pass_13 : decode cX5_pass 13 = .ok (.if_icmp .eq 10, 3) := by decide +kernel
theorem dX5_pass_16 : decode cX5_pass 16 = .ok (.aload_n 0, 1) := by decide +kernel
theorem dX5_pass_17 : decode cX5_pass 17 = .ok (.iconst 1, 1) := by decide +kernel
theorem dX5_pass_18 : decode cX5_pass 18 = .ok (.invokevirtual 97, 3) := by decide +kernel
theorem dX5_pass_21 : decode cX5_pass 21 = .ok (.pop, 1) := by decide +kernel
theorem dX5_pass_22 : decode cX5_pass 22 = .ok (.return_, 1) := by decide +kernel
theorem dX5_pass_23 : decode cX5_pass 23 = .ok (.aload_n 0, 1) := by decide +kernel
theorem dX5_pass_24 : decode cX5_pass 24 = .ok (.invokevirtual 65, 3) := by decide +kernel
theorem dX5_pass_27 : decode cX5_pass 27 = .ok (.return_, 1) := by decide +kernel
theorem dX5_readLoneTerm_0 : decode cX5_readLoneTerm 0 = .ok (.aload_n 0, 1) := by decide +kernel
theorem dX5_readLoneTerm_1 : decode cX5_readLoneTerm 1 = .ok (.invokevirtual 65, 3) := by decide +kernel
theorem dX5_readLoneTerm_4 : decode cX5_readLoneTerm 4 = .ok (.aload_n 0, 1) := by decide +kernel
theorem dX5_readLoneTerm_5 : decode cX5_readLoneTerm 5 = .ok (.iconst 1, 1) := by decide +kernel
theorem dX5_readLoneTerm_6 : decode cX5_readLoneTerm 6 = .ok (.invokevirtual 113, 3) := by decide +kernel
theorem dX5_readLoneTerm_9 : decode cX5_readLoneTerm 9 = .ok (.pop, 1) := by decide +kernel
theorem dX5_readLoneTerm_10 : decode cX5_readLoneTerm 10 = .ok (.aload_n 0, 1) := by decide +kernel
theorem dX5_readLoneTerm_11 : decode cX5_readLoneTerm 11 = .ok (.bipush 59, 2) := by decide +kernel
theorem dX5_readLoneTerm_13 : decode cX5_readLoneTerm 13 = .ok (.invokevirtual 116, 3) := by decide +kernel
theorem dX5_readLoneTerm_16 : decode cX5_readLoneTerm 16 = .ok (.return_, 1) := by decide +kernel
theorem dX5_readSymbol_0 : decode cX5_readSymbol 0 = .ok (.aload_n 0, 1) := by decide +kernel
theorem dX5_readSymbol_1 : decode cX5_readSymbol 1 = .ok (.getfield 54, 3) := by decide +kernel
theorem dX5_readSymbol_4 : decode cX5_readSymbol 4 = .ok (.getfield 120, 3) := by decide +kernel
theorem dX5_readSymbol_7 : decode cX5_readSymbol 7 = .ok (.bipush 10, 2) := by decide +kernel
theorem dX5_readSymbol_9 : decode cX5_readSymbol 9 = .ok (.if_icmp .lt 10, 3) := by decide +kernel
theorem dX5_readSymbol_12 : decode cX5_readSymbol 12 = .ok (.aload_n 0, 1) := by decide +kernel
theorem dX5_readSymbol_13 : decode cX5_readSymbol 13 = .ok (.iconst 2, 1) := by decide +kernel
theorem dX5_readSymbol_14 : decode cX5_readSymbol 14 = .ok (.invokevirtual 97, 3) := by decide +kernel
theorem dX5_readSymbol_17 : decode cX5_readSymbol 17 = .ok (.pop, 1) := by decide +kernel
theorem dX5_readSymbol_18 : decode cX5_readSymbol 18 = .ok (.return_, 1) := by decide +kernel
theorem dX5_readSymbol_19 : decode cX5_readSymbol 19 = .ok (.aload_n 0, 1) := by decide +kernel
theorem dX5_readSymbol_20 : decode cX5_readSymbol 20 = .ok (.invokevirtual 65, 3) := by decide +kernel
theorem dX5_readSymbol_23 : decode cX5_readSymbol 23 = .ok (.aload_n 0, 1) := by decide +kernel
theorem dX5_readSymbol_24 : decode cX5_readSymbol 24 = .ok (.invokevirtual 125, 3) := by decide +kernel
theorem dX5_readSymbol_27 : decode cX5_readSymbol 27 = .ok (.istore_n 1, 1) := by decide +kernel
theorem dX5_readSymbol_28 : decode cX5_readSymbol 28 = .ok (.aload_n 0, 1) := by decide +kernel
theorem dX5_readSymbol_29 : decode cX5_readSymbol 29 = .ok (.iconst 0, 1) := by decide +kernel
theorem dX5_readSymbol_30 : decode cX5_readSymbol 30 = .ok (.iconst 3, 1) := by decide +kernel
theorem dX5_readSymbol_31 : decode cX5_readSymbol 31 = .ok (.invokevirtual 128, 3) := by decide +kernel
theorem dX5_readSymbol_34 : decode cX5_readSymbol 34 = .ok (.istore_n 2, 1) := by decide +kernel
theorem dX5_readSymbol_35 : decode cX5_readSymbol 35 = .ok (.aload_n 0, 1) := by decide +kernel
theorem dX5_readSymbol_36 : decode cX5_readSymbol 36 = .ok (.iconst 1, 1) := by decide +kernel
theorem dX5_readSymbol_37 : decode cX5_readSymbol 37 = .ok (.bipush 9, 2) := by decide +kernel
theorem dX5_readSymbol_39 : decode cX5_readSymbol 39 = .ok (.invokevirtual 128, 3) := by decide +kernel
theorem dX5_readSymbol_42 : decode cX5_readSymbol 42 = .ok (.istore_n 3, 1) := by decide +kernel
theorem dX5_readSymbol_43 : decode cX5_readSymbol 43 = .ok (.aload_n 0, 1) := by decide +kernel
theorem dX5_readSymbol_44 : decode cX5_readSymbol 44 = .ok (.bipush 59, 2) := by decide +kernel
theorem dX5_readSymbol_46 : decode cX5_readSymbol 46 = .ok (.invokevirtual 116, 3) := by decide +kernel
theorem dX5_readSymbol_49 : decode cX5_readSymbol 49 = .ok (.aload_n 0, 1) := by decide +kernel
theorem dX5_readSymbol_50 : decode cX5_readSymbol 50 = .ok (.getfield 24, 3) := by decide +kernel
theorem dX5_readSymbol_53 : decode cX5_readSymbol 53 = .ok (.ifCond .ne 13, 3) := by decide +kernel
theorem dX5_readSymbol_56 : decode cX5_readSymbol 56 = .ok (.aload_n 0, 1) := by decide +kernel
theorem dX5_readSymbol_57 : decode cX5_readSymbol 57 = .ok (.getfield 54, 3) := by decide +kernel
theorem dX5_readSymbol_60 : decode cX5_readSymbol 60 = .ok (.iload_n 1, 1) := by decide +kernel
theorem dX5_readSymbol_61 : decode cX5_readSymbol 61 = .ok (.iload_n 2, 1) := by decide +kernel
theorem dX5_readSymbol_62 : decode cX5_readSymbol 62 = .ok (.iload_n 3, 1) := by decide +kernel
theorem dX5_readSymbol_63 : decode cX5_readSymbol 63 = .ok (.invokevirtual 131, 3) := by decide +kernel
theorem dX5_readSymbol_66 : decode cX5_readSymbol 66 = .ok (.return_, 1) := by decide +kernel
theorem dX5_readNewName_0 : decode cX5_readNewName 0 = .ok (.aload_n 0, 1) := by decide +kernel
theorem dX5_readNewName_1 : decode cX5_readNewName 1 = .ok (.getfield 15, 3) := by decide +kernel
theorem dX5_readNewName_4 : decode cX5_readNewName 4 = .ok (.iconst 2, 1) := by decide +kernel
theorem dX5_readNewName_5 : decode cX5_readNewName 5 = .ok (.if_icmp .eq 9, 3) := by decide +kernel
theorem dX5_readNewName_8 : decode cX5_readNewName 8 = .ok (.aload_n 0, 1) := by decide +kernel
theorem dX5_readNewName_9 : decode cX5_readNewName 9 = .ok (.iconst 1, 1) := by decide +kernel
theorem dX5_readNewName_10 : decode cX5_readNewName 10 = .ok (.invokevirtual 97, 3) := by decide +kernel
theorem dX5_readNewName_13 : decode cX5_readNewName 13 = .ok (.ireturn, 1) := by decide +kernel
theorem dX5_readNewName_14 : decode cX5_readNewName 14 = .ok (.aload_n 0, 1) := by decide +kernel
theorem dX5_readNewName_15 : decode cX5_readNewName 15 = .ok (.getfield 21, 3) := by decide +kernel
theorem dX5_readNewName_18 : decode cX5_readNewName 18 = .ok (.aload_n 0, 1) := by decide +kernel
theorem dX5_readNewName_19 : decode cX5_readNewName 19 = .ok (.getfield 18, 3) := by decide +kernel
theorem dX5_readNewName_22 : decode cX5_readNewName 22 = .ok (.isub, 1) := by decide +kernel
theorem dX5_readNewName_23 : decode cX5_readNewName 23 = .ok (.iconst 1, 1) := by decide +kernel
theorem dX5_readNewName_24 : decode cX5_readNewName 24 = .ok (.if_icmp .le 9, 3) := by decide +kernel
theorem dX5_readNewName_27 : decode cX5_readNewName 27 = .ok (.aload_n 0, 1) := by decide +kernel
theorem dX5_readNewName_28 : decode cX5_readNewName 28 = .ok (.iconst 2, 1) := by decide +kernel
theorem dX5_readNewName_29 : decode cX5_readNewName 29 = .ok (.invokevirtual 97, 3) := by decide +kernel
theorem dX5_readNewName_32 : decode cX5_readNewName 32 = .ok (.ireturn, 1) := by decide +kernel
theorem dX5_readNewName_33 : decode cX5_readNewName 33 = .ok (.aload_n 0, 1) := by decide +kernel
theorem dX5_readNewName_34 : decode cX5_readNewName 34 = .ok (.getfield 34, 3) := by decide +kernel
theorem dX5_readNewName_37 : decode cX5_readNewName 37 = .ok (.aload_n 0, 1) := by decide +kernel
theorem dX5_readNewName_38 : decode cX5_readNewName 38 = .ok (.getfield 18, 3) := by decide +kernel
theorem dX5_readNewName_41 : decode cX5_readNewName 41 = .ok (.iaload, 1) := by decide +kernel
theorem dX5_readNewName_42 : decode cX5_readNewName 42 = .ok (.istore_n 1, 1) := by decide +kernel
theorem dX5_readNewName_43 : decode cX5_readNewName 43 = .ok (.aload_n 0, 1) := by decide +kernel
theorem dX5_readNewName_44 : decode cX5_readNewName 44 = .ok (.getfield 54, 3) := by decide +kernel
theorem dX5_readNewName_47 : decode cX5_readNewName 47 = .ok (.iload_n 1, 1) := by decide +kernel
theorem dX5_readNewName_48 : decode cX5_readNewName 48 = .ok (.invokevirtual 135, 3) := by decide +kernel
theorem dX5_readNewName_51 : decode cX5_readNewName 51 = .ok (.iconst (-1), 1) := by decide +kernel
theorem dX5_readNewName_52 : decode cX5_readNewName 52 = .ok (.if_icmp .eq 9, 3) := by decide +kernel
theorem dX5_readNewName_55 : decode cX5_readNewName 55 = .ok (.aload_n 0, 1) := by decide +kernel
theorem dX5_readNewName_56 : decode cX5_readNewName 56 = .ok (.iconst 4, 1) := by decide +kernel
theorem dX5_readNewName_57 : decode cX5_readNewName 57 = .ok (.invokevirtual 97, 3) := by decide +kernel
theorem dX5_readNewName_60 : decode cX5_readNewName 60 = .ok (.ireturn, 1) := by decide +kernel
theorem dX5_readNewName_61 : decode cX5_readNewName 61 = .ok (.aload_n 0, 1) := by decide +kernel
theorem dX5_readNewName_62 : decode cX5_readNewName 62 = .ok (.invokevirtual 65, 3) := by decide +kernel
theorem dX5_readNewName_65 : decode cX5_readNewName 65 = .ok (.iload_n 1, 1) := by decide +kernel
theorem dX5_readNewName_66 : decode cX5_readNewName 66 = .ok (.ireturn, 1) := by decide +kernel
theorem dX5_readNumber_0 : decode cX5_readNumber 0 = .ok (.aload_n 0, 1) := by decide +kernel
theorem dX5_readNumber_1 : decode cX5_readNumber 1 = .ok (.getfield 24, 3) := by decide +kernel
theorem dX5_readNumber_4 : decode cX5_readNumber 4 = .ok (.ifCond .eq 5, 3) := by decide +kernel
theorem dX5_readNumber_7 : decode cX5_readNumber 7 = .ok (.iconst (-1), 1) := by decide +kernel
theorem dX5_readNumber_8 : decode cX5_readNumber 8 = .ok (.ireturn, 1) := by decide +kernel
theorem dX5_readNumber_9 : decode cX5_readNumber 9 = .ok (.aload_n 0, 1) := by decide +kernel
theorem dX5_readNumber_10 : decode cX5_readNumber 10 = .ok (.getfield 15, 3) := by decide +kernel
theorem dX5_readNumber_13 : decode cX5_readNumber 13 = .ok (.iconst 3, 1) := by decide +kernel
theorem dX5_readNumber_14 : decode cX5_readNumber 14 = .ok (.if_icmp .eq 9, 3) := by decide +kernel
theorem dX5_readNumber_17 : decode cX5_readNumber 17 = .ok (.aload_n 0, 1) := by decide +kernel
theorem dX5_readNumber_18 : decode cX5_readNumber 18 = .ok (.iconst 1, 1) := by decide +kernel
theorem dX5_readNumber_19 : decode cX5_readNumber 19 = .ok (.invokevirtual 97, 3) := by decide +kernel
theorem dX5_readNumber_22 : decode cX5_readNumber 22 = .ok (.ireturn, 1) := by decide +kernel
theorem dX5_readNumber_23 : decode cX5_readNumber 23 = .ok (.aload_n 0, 1) := by decide +kernel
theorem dX5_readNumber_24 : decode cX5_readNumber 24 = .ok (.getfield 34, 3) := by decide +kernel
theorem dX5_readNumber_27 : decode cX5_readNumber 27 = .ok (.aload_n 0, 1) := by decide +kernel
theorem dX5_readNumber_28 : decode cX5_readNumber 28 = .ok (.getfield 18, 3) := by decide +kernel
theorem dX5_readNumber_31 : decode cX5_readNumber 31 = .ok (.iaload, 1) := by decide +kernel
theorem dX5_readNumber_32 : decode cX5_readNumber 32 = .ok (.bipush 48, 2) := by decide +kernel
theorem dX5_readNumber_34 : decode cX5_readNumber 34 = .ok (.isub, 1) := by decide +kernel
theorem dX5_readNumber_35 : decode cX5_readNumber 35 = .ok (.istore_n 3, 1) := by decide +kernel
theorem dX5_readNumber_36 : decode cX5_readNumber 36 = .ok (.aload_n 0, 1) := by decide +kernel
theorem dX5_readNumber_37 : decode cX5_readNumber 37 = .ok (.getfield 21, 3) := by decide +kernel
theorem dX5_readNumber_40 : decode cX5_readNumber 40 = .ok (.aload_n 0, 1) := by decide +kernel
theorem dX5_readNumber_41 : decode cX5_readNumber 41 = .ok (.getfield 18, 3) := by decide +kernel
theorem dX5_readNumber_44 : decode cX5_readNumber 44 = .ok (.isub, 1) := by decide +kernel
theorem dX5_readNumber_45 : decode cX5_readNumber 45 = .ok (.iconst 1, 1) := by decide +kernel
theorem dX5_readNumber_46 : decode cX5_readNumber 46 = .ok (.if_icmp .gt 13, 3) := by decide +kernel
theorem dX5_readNumber_49 : decode cX5_readNumber 49 = .ok (.iload_n 3, 1) := by decide +kernel
theorem dX5_readNumber_50 : decode cX5_readNumber 50 = .ok (.iload_n 1, 1) := by decide +kernel
theorem dX5_readNumber_51 : decode cX5_readNumber 51 = .ok (.if_icmp .lt 8, 3) := by decide +kernel
theorem dX5_readNumber_54 : decode cX5_readNumber 54 = .ok (.iload_n 3, 1) := by decide +kernel
theorem dX5_readNumber_55 : decode cX5_readNumber 55 = .ok (.iload_n 2, 1) := by decide +kernel
theorem dX5_readNumber_56 : decode cX5_readNumber 56 = .ok (.if_icmp .le 9, 3) := by decide +kernel
theorem dX5_readNumber_59 : decode cX5_readNumber 59 = .ok (.aload_n 0, 1) := by decide +kernel
theorem dX5_readNumber_60 : decode cX5_readNumber 60 = .ok (.iconst 2, 1) := by decide +kernel
theorem dX5_readNumber_61 : decode cX5_readNumber 61 = .ok (.invokevirtual 97, 3) := by decide +kernel
theorem dX5_readNumber_64 : decode cX5_readNumber 64 = .ok (.ireturn, 1) := by decide +kernel
theorem dX5_readNumber_65 : decode cX5_readNumber 65 = .ok (.aload_n 0, 1) := by decide +kernel
theorem dX5_readNumber_66 : decode cX5_readNumber 66 = .ok (.invokevirtual 65, 3) := by decide +kernel
theorem dX5_readNumber_69 : decode cX5_readNumber 69 = .ok (.iload_n 3, 1) := by decide +kernel
theorem dX5_readNumber_70 : decode cX5_readNumber 70 = .ok (.ireturn, 1) := by decide +kernel
theorem dX5_readRule_0 : decode cX5_readRule 0 = .ok (.aload_n 0, 1) := by decide +kernel
theorem dX5_readRule_1 : decode cX5_readRule 1 = .ok (.getfield 38, 3) := by decide +kernel
theorem dX5_readRule_4 : decode cX5_readRule 4 = .ok (.getfield 138, 3) := by decide +kernel
theorem dX5_readRule_7 : decode cX5_readRule 7 = .ok (.getfield 142, 3) := by decide +kernel
theorem dX5_readRule_10 : decode cX5_readRule 10 = .ok (.iconst 4, 1) := by decide +kernel
theorem dX5_readRule_11 : decode cX5_readRule 11 = .ok (.iaload, 1) := by decide +kernel
theorem dX5_readRule_12 : decode cX5_readRule 12 = .ok (.bipush 8, 2) := by decide +kernel
theorem dX5_readRule_14 : decode cX5_readRule 14 = .ok (.if_icmp .lt 10, 3) := by decide +kernel
theorem dX5_readRule_17 : decode cX5_readRule 17 = .ok (.aload_n 0, 1) := by decide +kernel
theorem dX5_readRule_18 : decode cX5_readRule 18 = .ok (.iconst 2, 1) := by decide +kernel
theorem dX5_readRule_19 : decode cX5_readRule 19 = .ok (.invokevirtual 97, 3) := by decide +kernel
theorem dX5_readRule_22 : decode cX5_readRule 22 = .ok (.pop, 1) := by decide +kernel
theorem dX5_readRule_23 : decode cX5_readRule 23 = .ok (.return_, 1) := by decide +kernel
theorem dX5_readRule_24 : decode cX5_readRule 24 = .ok (.aload_n 0, 1) := by decide +kernel
theorem dX5_readRule_25 : decode cX5_readRule 25 = .ok (.invokevirtual 65, 3) := by decide +kernel
theorem dX5_readRule_28 : decode cX5_readRule 28 = .ok (.aload_n 0, 1) := by decide +kernel
theorem dX5_readRule_29 : decode cX5_readRule 29 = .ok (.iconst 1, 1) := by decide +kernel
theorem dX5_readRule_30 : decode cX5_readRule 30 = .ok (.invokevirtual 113, 3) := by decide +kernel
theorem dX5_readRule_33 : decode cX5_readRule 33 = .ok (.istore_n 1, 1) := by decide +kernel
theorem dX5_readRule_34 : decode cX5_readRule 34 = .ok (.aload_n 0, 1) := by decide +kernel
theorem dX5_readRule_35 : decode cX5_readRule 35 = .ok (.invokevirtual 147, 3) := by decide +kernel
theorem dX5_readRule_38 : decode cX5_readRule 38 = .ok (.aload_n 0, 1) := by decide +kernel
theorem dX5_readRule_39 : decode cX5_readRule 39 = .ok (.iconst 1, 1) := by decide +kernel
theorem dX5_readRule_40 : decode cX5_readRule 40 = .ok (.invokevirtual 113, 3) := by decide +kernel
theorem dX5_readRule_43 : decode cX5_readRule 43 = .ok (.istore_n 2, 1) := by decide +kernel
theorem dX5_readRule_44 : decode cX5_readRule 44 = .ok (.aload_n 0, 1) := by decide +kernel
theorem dX5_readRule_45 : decode cX5_readRule 45 = .ok (.getfield 24, 3) := by decide +kernel
theorem dX5_readRule_48 : decode cX5_readRule 48 = .ok (.ifCond .ne 30, 3) := by decide +kernel
theorem dX5_readRule_51 : decode cX5_readRule 51 = .ok (.aload_n 0, 1) := by decide +kernel
theorem dX5_readRule_52 : decode cX5_readRule 52 = .ok (.getfield 15, 3) := by decide +kernel
theorem dX5_readRule_55 : decode cX5_readRule 55 = .ok (.bipush 59, 2) := by decide +kernel
theorem dX5_readRule_57 : decode cX5_readRule 57 = .ok (.if_icmp .ne 21, 3) := by decide +kernel
theorem dX5_readRule_60 : decode cX5_readRule 60 = .ok (.aload_n 0, 1) := by decide +kernel
theorem dX5_readRule_61 : decode cX5_readRule 61 = .ok (.getfield 55, 3) := by decide +kernel
theorem dX5_readRule_64 : decode cX5_readRule 64 = .ok (.iload_n 1, 1) := by decide +kernel
theorem dX5_readRule_65 : decode cX5_readRule 65 = .ok (.iload_n 2, 1) := by decide +kernel
theorem dX5_readRule_66 : decode cX5_readRule 66 = .ok (.invokevirtual 150, 3) := by decide +kernel
theorem dX5_readRule_69 : decode cX5_readRule 69 = .ok (.ifCond .ne 9, 3) := by decide +kernel
theorem dX5_readRule_72 : decode cX5_readRule 72 = .ok (.aload_n 0, 1) := by decide +kernel
theorem dX5_readRule_73 : decode cX5_readRule 73 = .ok (.iconst 5, 1) := by decide +kernel
theorem dX5_readRule_74 : decode cX5_readRule 74 = .ok (.invokevirtual 97, 3) := by decide +kernel
theorem dX5_readRule_77 : decode cX5_readRule 77 = .ok (.pop, 1) := by decide +kernel
theorem dX5_readRule_78 : decode cX5_readRule 78 = .ok (.aload_n 0, 1) := by decide +kernel
theorem dX5_readRule_79 : decode cX5_readRule 79 = .ok (.bipush 59, 2) := by decide +kernel
theorem dX5_readRule_81 : decode cX5_readRule 81 = .ok (.invokevirtual 116, 3) := by decide +kernel
theorem dX5_readRule_84 : decode cX5_readRule 84 = .ok (.aload_n 0, 1) := by decide +kernel
theorem dX5_readRule_85 : decode cX5_readRule 85 = .ok (.getfield 24, 3) := by decide +kernel
theorem dX5_readRule_88 : decode cX5_readRule 88 = .ok (.ifCond .ne 15, 3) := by decide +kernel
theorem dX5_readRule_91 : decode cX5_readRule 91 = .ok (.aload_n 0, 1) := by decide +kernel
theorem dX5_readRule_92 : decode cX5_readRule 92 = .ok (.getfield 38, 3) := by decide +kernel
theorem dX5_readRule_95 : decode cX5_readRule 95 = .ok (.getfield 138, 3) := by decide +kernel
theorem dX5_readRule_98 : decode cX5_readRule 98 = .ok (.iload_n 1, 1) := by decide +kernel
theorem dX5_readRule_99 : decode cX5_readRule 99 = .ok (.iload_n 2, 1) := by decide +kernel
theorem dX5_readRule_100 : decode cX5_readRule 100 = .ok (.invokevirtual 156, 3) := by decide +kernel
theorem dX5_readRule_103 : decode cX5_readRule 103 = .ok (.return_, 1) := by decide +kernel
theorem dX5_passTo_0 : decode cX5_passTo 0 = .ok (.aload_n 0, 1) := by decide +kernel
theorem dX5_passTo_1 : decode cX5_passTo 1 = .ok (.getfield 24, 3) := by decide +kernel
theorem dX5_passTo_4 : decode cX5_passTo 4 = .ok (.ifCond .eq 4, 3) := by decide +kernel
theorem dX5_passTo_7 : decode cX5_passTo 7 = .ok (.return_, 1) := by decide +kernel
theorem dX5_passTo_8 : decode cX5_passTo 8 = .ok (.aload_n 0, 1) := by decide +kernel
theorem dX5_passTo_9 : decode cX5_passTo 9 = .ok (.ldc 160, 2) := by decide +kernel
theorem dX5_passTo_11 : decode cX5_passTo 11 = .ok (.invokevirtual 70, 3) := by decide +kernel
theorem dX5_passTo_14 : decode cX5_passTo 14 = .ok (.ifCond .ne 10, 3) := by decide +kernel
theorem dX5_passTo_17 : decode cX5_passTo 17 = .ok (.aload_n 0, 1) := by decide +kernel
theorem dX5_passTo_18 : decode cX5_passTo 18 = .ok (.iconst 1, 1) := by decide +kernel
theorem dX5_passTo_19 : decode cX5_passTo 19 = .ok (.invokevirtual 97, 3) := by decide +kernel
theorem dX5_passTo_22 : decode cX5_passTo 22 = .ok (.pop, 1) := by decide +kernel
theorem dX5_passTo_23 : decode cX5_passTo 23 = .ok (.return_, 1) := by decide +kernel
theorem dX5_passTo_24 : decode cX5_passTo 24 = .ok (.aload_n 0, 1) := by decide +kernel
theorem dX5_passTo_25 : decode cX5_passTo 25 = .ok (.invokevirtual 65, 3) := by decide +kernel
theorem dX5_passTo_28 : decode cX5_passTo 28 = .ok (.return_, 1) := by decide +kernel
theorem dX5_readEntry_0 : decode cX5_readEntry 0 = .ok (.aload_n 0, 1) := by decide +kernel
theorem dX5_readEntry_1 : decode cX5_readEntry 1 = .ok (.getfield 38, 3) := by decide +kernel
theorem dX5_readEntry_4 : decode cX5_readEntry 4 = .ok (.getfield 138, 3) := by decide +kernel
theorem dX5_readEntry_7 : decode cX5_readEntry 7 = .ok (.getfield 142, 3) := by decide +kernel
theorem dX5_readEntry_10 : decode cX5_readEntry 10 = .ok (.iconst 5, 1) := by decide +kernel
theorem dX5_readEntry_11 : decode cX5_readEntry 11 = .ok (.iaload, 1) := by decide +kernel
theorem dX5_readEntry_12 : decode cX5_readEntry 12 = .ok (.bipush 12, 2) := by decide +kernel
theorem dX5_readEntry_14 : decode cX5_readEntry 14 = .ok (.if_icmp .lt 10, 3) := by decide +kernel
theorem dX5_readEntry_17 : decode cX5_readEntry 17 = .ok (.aload_n 0, 1) := by decide +kernel
theorem dX5_readEntry_18 : decode cX5_readEntry 18 = .ok (.iconst 2, 1) := by decide +kernel
theorem dX5_readEntry_19 : decode cX5_readEntry 19 = .ok (.invokevirtual 97, 3) := by decide +kernel
theorem dX5_readEntry_22 : decode cX5_readEntry 22 = .ok (.pop, 1) := by decide +kernel
theorem dX5_readEntry_23 : decode cX5_readEntry 23 = .ok (.return_, 1) := by decide +kernel
theorem dX5_readEntry_24 : decode cX5_readEntry 24 = .ok (.aload_n 0, 1) := by decide +kernel
theorem dX5_readEntry_25 : decode cX5_readEntry 25 = .ok (.invokevirtual 65, 3) := by decide +kernel
theorem dX5_readEntry_28 : decode cX5_readEntry 28 = .ok (.aload_n 0, 1) := by decide +kernel
theorem dX5_readEntry_29 : decode cX5_readEntry 29 = .ok (.iconst 1, 1) := by decide +kernel
theorem dX5_readEntry_30 : decode cX5_readEntry 30 = .ok (.invokevirtual 113, 3) := by decide +kernel
theorem dX5_readEntry_33 : decode cX5_readEntry 33 = .ok (.istore_n 1, 1) := by decide +kernel
theorem dX5_readEntry_34 : decode cX5_readEntry 34 = .ok (.aload_n 0, 1) := by decide +kernel
theorem dX5_readEntry_35 : decode cX5_readEntry 35 = .ok (.getfield 24, 3) := by decide +kernel
theorem dX5_readEntry_38 : decode cX5_readEntry 38 = .ok (.ifCond .ne 33, 3) := by decide +kernel
theorem dX5_readEntry_41 : decode cX5_readEntry 41 = .ok (.aload_n 0, 1) := by decide +kernel
theorem dX5_readEntry_42 : decode cX5_readEntry 42 = .ok (.getfield 15, 3) := by decide +kernel
theorem dX5_readEntry_45 : decode cX5_readEntry 45 = .ok (.bipush 59, 2) := by decide +kernel
theorem dX5_readEntry_47 : decode cX5_readEntry 47 = .ok (.if_icmp .ne 24, 3) := by decide +kernel
theorem dX5_readEntry_50 : decode cX5_readEntry 50 = .ok (.aload_n 0, 1) := by decide +kernel
theorem dX5_readEntry_51 : decode cX5_readEntry 51 = .ok (.getfield 38, 3) := by decide +kernel
theorem dX5_readEntry_54 : decode cX5_readEntry 54 = .ok (.getfield 138, 3) := by decide +kernel
theorem dX5_readEntry_57 : decode cX5_readEntry 57 = .ok (.iload_n 1, 1) := by decide +kernel
theorem dX5_readEntry_58 : decode cX5_readEntry 58 = .ok (.invokevirtual 162, 3) := by decide +kernel
theorem dX5_readEntry_61 : decode cX5_readEntry 61 = .ok (.iconst (-1), 1) := by decide +kernel
theorem dX5_readEntry_62 : decode cX5_readEntry 62 = .ok (.if_icmp .eq 9, 3) := by decide +kernel
theorem dX5_readEntry_65 : decode cX5_readEntry 65 = .ok (.aload_n 0, 1) := by decide +kernel
theorem dX5_readEntry_66 : decode cX5_readEntry 66 = .ok (.iconst 5, 1) := by decide +kernel
theorem dX5_readEntry_67 : decode cX5_readEntry 67 = .ok (.invokevirtual 97, 3) := by decide +kernel
theorem dX5_readEntry_70 : decode cX5_readEntry 70 = .ok (.pop, 1) := by decide +kernel
theorem dX5_readEntry_71 : decode cX5_readEntry 71 = .ok (.aload_n 0, 1) := by decide +kernel
theorem dX5_readEntry_72 : decode cX5_readEntry 72 = .ok (.bipush 59, 2) := by decide +kernel
theorem dX5_readEntry_74 : decode cX5_readEntry 74 = .ok (.invokevirtual 116, 3) := by decide +kernel
theorem dX5_readEntry_77 : decode cX5_readEntry 77 = .ok (.aload_n 0, 1) := by decide +kernel
theorem dX5_readEntry_78 : decode cX5_readEntry 78 = .ok (.getfield 24, 3) := by decide +kernel
theorem dX5_readEntry_81 : decode cX5_readEntry 81 = .ok (.ifCond .ne 14, 3) := by decide +kernel
theorem dX5_readEntry_84 : decode cX5_readEntry 84 = .ok (.aload_n 0, 1) := by decide +kernel
theorem dX5_readEntry_85 : decode cX5_readEntry 85 = .ok (.getfield 38, 3) := by decide +kernel
theorem dX5_readEntry_88 : decode cX5_readEntry 88 = .ok (.getfield 138, 3) := by decide +kernel
theorem dX5_readEntry_91 : decode cX5_readEntry 91 = .ok (.iload_n 1, 1) := by decide +kernel
theorem dX5_readEntry_92 : decode cX5_readEntry 92 = .ok (.invokevirtual 165, 3) := by decide +kernel
theorem dX5_readEntry_95 : decode cX5_readEntry 95 = .ok (.return_, 1) := by decide +kernel
theorem dX5_readRoom_0 : decode cX5_readRoom 0 = .ok (.aload_n 0, 1) := by decide +kernel
theorem dX5_readRoom_1 : decode cX5_readRoom 1 = .ok (.getfield 30, 3) := by decide +kernel
theorem dX5_readRoom_4 : decode cX5_readRoom 4 = .ok (.ifCond .eq 10, 3) := by decide +kernel
theorem dX5_readRoom_7 : decode cX5_readRoom 7 = .ok (.aload_n 0, 1) := by decide +kernel
theorem dX5_readRoom_8 : decode cX5_readRoom 8 = .ok (.iconst 4, 1) := by decide +kernel
theorem dX5_readRoom_9 : decode cX5_readRoom 9 = .ok (.invokevirtual 97, 3) := by decide +kernel
theorem dX5_readRoom_12 : decode cX5_readRoom 12 = .ok (.pop, 1) := by decide +kernel
theorem dX5_readRoom_13 : decode cX5_readRoom 13 = .ok (.return_, 1) := by decide +kernel
theorem dX5_readRoom_14 : decode cX5_readRoom 14 = .ok (.aload_n 0, 1) := by decide +kernel
theorem dX5_readRoom_15 : decode cX5_readRoom 15 = .ok (.invokevirtual 65, 3) := by decide +kernel
theorem dX5_readRoom_18 : decode cX5_readRoom 18 = .ok (.aload_n 0, 1) := by decide +kernel
theorem dX5_readRoom_19 : decode cX5_readRoom 19 = .ok (.iconst 0, 1) := by decide +kernel
theorem dX5_readRoom_20 : decode cX5_readRoom 20 = .ok (.bipush 9, 2) := by decide +kernel
theorem dX5_readRoom_22 : decode cX5_readRoom 22 = .ok (.invokevirtual 128, 3) := by decide +kernel
theorem dX5_readRoom_25 : decode cX5_readRoom 25 = .ok (.istore_n 1, 1) := by decide +kernel
theorem dX5_readRoom_26 : decode cX5_readRoom 26 = .ok (.aload_n 0, 1) := by decide +kernel
theorem dX5_readRoom_27 : decode cX5_readRoom 27 = .ok (.bipush 59, 2) := by decide +kernel
theorem dX5_readRoom_29 : decode cX5_readRoom 29 = .ok (.invokevirtual 116, 3) := by decide +kernel
theorem dX5_readRoom_32 : decode cX5_readRoom 32 = .ok (.aload_n 0, 1) := by decide +kernel
theorem dX5_readRoom_33 : decode cX5_readRoom 33 = .ok (.getfield 24, 3) := by decide +kernel
theorem dX5_readRoom_36 : decode cX5_readRoom 36 = .ok (.ifCond .ne 19, 3) := by decide +kernel
theorem dX5_readRoom_39 : decode cX5_readRoom 39 = .ok (.aload_n 0, 1) := by decide +kernel
theorem dX5_readRoom_40 : decode cX5_readRoom 40 = .ok (.getfield 38, 3) := by decide +kernel
theorem dX5_readRoom_43 : decode cX5_readRoom 43 = .ok (.getfield 138, 3) := by decide +kernel
theorem dX5_readRoom_46 : decode cX5_readRoom 46 = .ok (.iload_n 1, 1) := by decide +kernel
theorem dX5_readRoom_47 : decode cX5_readRoom 47 = .ok (.invokevirtual 168, 3) := by decide +kernel
theorem dX5_readRoom_50 : decode cX5_readRoom 50 = .ok (.aload_n 0, 1) := by decide +kernel
theorem dX5_readRoom_51 : decode cX5_readRoom 51 = .ok (.iconst 1, 1) := by decide +kernel
theorem dX5_readRoom_52 : decode cX5_readRoom 52 = .ok (.putfield 30, 3) := by decide +kernel
theorem dX5_readRoom_55 : decode cX5_readRoom 55 = .ok (.return_, 1) := by decide +kernel
theorem dX5_readTerm_0 : decode cX5_readTerm 0 = .ok (.aload_n 0, 1) := by decide +kernel
theorem dX5_readTerm_1 : decode cX5_readTerm 1 = .ok (.getfield 24, 3) := by decide +kernel
theorem dX5_readTerm_4 : decode cX5_readTerm 4 = .ok (.ifCond .eq 5, 3) := by decide +kernel
theorem dX5_readTerm_7 : decode cX5_readTerm 7 = .ok (.iconst (-1), 1) := by decide +kernel
theorem dX5_readTerm_8 : decode cX5_readTerm 8 = .ok (.ireturn, 1) := by decide +kernel
theorem dX5_readTerm_9 : decode cX5_readTerm 9 = .ok (.aload_n 0, 1) := by decide +kernel
theorem dX5_readTerm_10 : decode cX5_readTerm 10 = .ok (.getfield 15, 3) := by decide +kernel
theorem dX5_readTerm_13 : decode cX5_readTerm 13 = .ok (.bipush 63, 2) := by decide +kernel
theorem dX5_readTerm_15 : decode cX5_readTerm 15 = .ok (.if_icmp .eq 17, 3) := by decide +kernel
theorem dX5_readTerm_18 : decode cX5_readTerm 18 = .ok (.aload_n 0, 1) := by decide +kernel
theorem dX5_readTerm_19 : decode cX5_readTerm 19 = .ok (.getfield 15, 3) := by decide +kernel
theorem dX5_readTerm_22 : decode cX5_readTerm 22 = .ok (.iconst 2, 1) := by decide +kernel
theorem dX5_readTerm_23 : decode cX5_readTerm 23 = .ok (.if_icmp .eq 9, 3) := by decide +kernel
theorem dX5_readTerm_26 : decode cX5_readTerm 26 = .ok (.aload_n 0, 1) := by decide +kernel
theorem dX5_readTerm_27 : decode cX5_readTerm 27 = .ok (.iconst 1, 1) := by decide +kernel
theorem dX5_readTerm_28 : decode cX5_readTerm 28 = .ok (.invokevirtual 97, 3) := by decide +kernel
theorem dX5_readTerm_31 : decode cX5_readTerm 31 = .ok (.ireturn, 1) := by decide +kernel
theorem dX5_readTerm_32 : decode cX5_readTerm 32 = .ok (.iload_n 1, 1) := by decide +kernel
theorem dX5_readTerm_33 : decode cX5_readTerm 33 = .ok (.bipush 6, 2) := by decide +kernel
theorem dX5_readTerm_35 : decode cX5_readTerm 35 = .ok (.if_icmp .le 9, 3) := by decide +kernel
theorem dX5_readTerm_38 : decode cX5_readTerm 38 = .ok (.aload_n 0, 1) := by decide +kernel
theorem dX5_readTerm_39 : decode cX5_readTerm 39 = .ok (.iconst 2, 1) := by decide +kernel
theorem dX5_readTerm_40 : decode cX5_readTerm 40 = .ok (.invokevirtual 97, 3) := by decide +kernel
theorem dX5_readTerm_43 : decode cX5_readTerm 43 = .ok (.ireturn, 1) := by decide +kernel
theorem dX5_readTerm_44 : decode cX5_readTerm 44 = .ok (.aload_n 0, 1) := by decide +kernel
theorem dX5_readTerm_45 : decode cX5_readTerm 45 = .ok (.getfield 15, 3) := by decide +kernel
theorem dX5_readTerm_48 : decode cX5_readTerm 48 = .ok (.bipush 63, 2) := by decide +kernel
theorem dX5_readTerm_50 : decode cX5_readTerm 50 = .ok (.if_icmp .ne 10, 3) := by decide +kernel
theorem dX5_readTerm_53 : decode cX5_readTerm 53 = .ok (.aload_n 0, 1) := by decide +kernel
theorem dX5_readTerm_54 : decode cX5_readTerm 54 = .ok (.invokevirtual 171, 3) := by decide +kernel
theorem dX5_readTerm_57 : decode cX5_readTerm 57 = .ok (.goto 8, 3) := by decide +kernel
theorem dX5_readTerm_60 : decode cX5_readTerm 60 = .ok (.aload_n 0, 1) := by decide +kernel
theorem dX5_readTerm_61 : decode cX5_readTerm 61 = .ok (.iload_n 1, 1) := by decide +kernel
theorem dX5_readTerm_62 : decode cX5_readTerm 62 = .ok (.invokevirtual 174, 3) := by decide +kernel
theorem dX5_readTerm_65 : decode cX5_readTerm 65 = .ok (.ireturn, 1) := by decide +kernel
theorem dX5_readVariable_0 : decode cX5_readVariable 0 = .ok (.aload_n 0, 1) := by decide +kernel
theorem dX5_readVariable_1 : decode cX5_readVariable 1 = .ok (.invokevirtual 65, 3) := by decide +kernel
theorem dX5_readVariable_4 : decode cX5_readVariable 4 = .ok (.aload_n 0, 1) := by decide +kernel
theorem dX5_readVariable_5 : decode cX5_readVariable 5 = .ok (.iconst 0, 1) := by decide +kernel
theorem dX5_readVariable_6 : decode cX5_readVariable 6 = .ok (.bipush 7, 2) := by decide +kernel
theorem dX5_readVariable_8 : decode cX5_readVariable 8 = .ok (.invokevirtual 128, 3) := by decide +kernel
theorem dX5_readVariable_11 : decode cX5_readVariable 11 = .ok (.istore_n 1, 1) := by decide +kernel
theorem dX5_readVariable_12 : decode cX5_readVariable 12 = .ok (.aload_n 0, 1) := by decide +kernel
theorem dX5_readVariable_13 : decode cX5_readVariable 13 = .ok (.getfield 24, 3) := by decide +kernel
theorem dX5_readVariable_16 : decode cX5_readVariable 16 = .ok (.ifCond .ne 21, 3) := by decide +kernel
theorem dX5_readVariable_19 : decode cX5_readVariable 19 = .ok (.aload_n 0, 1) := by decide +kernel
theorem dX5_readVariable_20 : decode cX5_readVariable 20 = .ok (.aload_n 0, 1) := by decide +kernel
theorem dX5_readVariable_21 : decode cX5_readVariable 21 = .ok (.getfield 38, 3) := by decide +kernel
theorem dX5_readVariable_24 : decode cX5_readVariable 24 = .ok (.getfield 42, 3) := by decide +kernel
theorem dX5_readVariable_27 : decode cX5_readVariable 27 = .ok (.iload_n 1, 1) := by decide +kernel
theorem dX5_readVariable_28 : decode cX5_readVariable 28 = .ok (.invokevirtual 177, 3) := by decide +kernel
theorem dX5_readVariable_31 : decode cX5_readVariable 31 = .ok (.invokevirtual 180, 3) := by decide +kernel
theorem dX5_readVariable_34 : decode cX5_readVariable 34 = .ok (.goto 4, 3) := by decide +kernel
theorem dX5_readVariable_37 : decode cX5_readVariable 37 = .ok (.iconst (-1), 1) := by decide +kernel
theorem dX5_readVariable_38 : decode cX5_readVariable 38 = .ok (.ireturn, 1) := by decide +kernel
theorem dX5_readCompound_0 : decode cX5_readCompound 0 = .ok (.aload_n 0, 1) := by decide +kernel
theorem dX5_readCompound_1 : decode cX5_readCompound 1 = .ok (.getfield 21, 3) := by decide +kernel
theorem dX5_readCompound_4 : decode cX5_readCompound 4 = .ok (.aload_n 0, 1) := by decide +kernel
theorem dX5_readCompound_5 : decode cX5_readCompound 5 = .ok (.getfield 18, 3) := by decide +kernel
theorem dX5_readCompound_8 : decode cX5_readCompound 8 = .ok (.isub, 1) := by decide +kernel
theorem dX5_readCompound_9 : decode cX5_readCompound 9 = .ok (.iconst 1, 1) := by decide +kernel
theorem dX5_readCompound_10 : decode cX5_readCompound 10 = .ok (.if_icmp .le 9, 3) := by decide +kernel
theorem dX5_readCompound_13 : decode cX5_readCompound 13 = .ok (.aload_n 0, 1) := by decide +kernel
theorem dX5_readCompound_14 : decode cX5_readCompound 14 = .ok (.iconst 2, 1) := by decide +kernel
theorem dX5_readCompound_15 : decode cX5_readCompound 15 = .ok (.invokevirtual 97, 3) := by decide +kernel
theorem dX5_readCompound_18 : decode cX5_readCompound 18 = .ok (.ireturn, 1) := by decide +kernel
theorem dX5_readCompound_19 : decode cX5_readCompound 19 = .ok (.aload_n 0, 1) := by decide +kernel
theorem dX5_readCompound_20 : decode cX5_readCompound 20 = .ok (.getfield 54, 3) := by decide +kernel
theorem dX5_readCompound_23 : decode cX5_readCompound 23 = .ok (.aload_n 0, 1) := by decide +kernel
theorem dX5_readCompound_24 : decode cX5_readCompound 24 = .ok (.getfield 34, 3) := by decide +kernel
theorem dX5_readCompound_27 : decode cX5_readCompound 27 = .ok (.aload_n 0, 1) := by decide +kernel
theorem dX5_readCompound_28 : decode cX5_readCompound 28 = .ok (.getfield 18, 3) := by decide +kernel
theorem dX5_readCompound_31 : decode cX5_readCompound 31 = .ok (.iaload, 1) := by decide +kernel
theorem dX5_readCompound_32 : decode cX5_readCompound 32 = .ok (.invokevirtual 135, 3) := by decide +kernel
theorem dX5_readCompound_35 : decode cX5_readCompound 35 = .ok (.istore_n 2, 1) := by decide +kernel
theorem dX5_readCompound_36 : decode cX5_readCompound 36 = .ok (.iload_n 2, 1) := by decide +kernel
theorem dX5_readCompound_37 : decode cX5_readCompound 37 = .ok (.iconst (-1), 1) := by decide +kernel
theorem dX5_readCompound_38 : decode cX5_readCompound 38 = .ok (.if_icmp .ne 9, 3) := by decide +kernel
theorem dX5_readCompound_41 : decode cX5_readCompound 41 = .ok (.aload_n 0, 1) := by decide +kernel
theorem dX5_readCompound_42 : decode cX5_readCompound 42 = .ok (.iconst 3, 1) := by decide +kernel
theorem dX5_readCompound_43 : decode cX5_readCompound 43 = .ok (.invokevirtual 97, 3) := by decide +kernel
theorem dX5_readCompound_46 : decode cX5_readCompound 46 = .ok (.ireturn, 1) := by decide +kernel
theorem dX5_readCompound_47 : decode cX5_readCompound 47 = .ok (.aload_n 0, 1) := by decide +kernel
theorem dX5_readCompound_48 : decode cX5_readCompound 48 = .ok (.invokevirtual 65, 3) := by decide +kernel
theorem dX5_readCompound_51 : decode cX5_readCompound 51 = .ok (.aload_n 0, 1) := by decide +kernel
theorem dX5_readCompound_52 : decode cX5_readCompound 52 = .ok (.getfield 54, 3) := by decide +kernel
theorem dX5_readCompound_55 : decode cX5_readCompound 55 = .ok (.getfield 183, 3) := by decide +kernel
theorem dX5_readCompound_58 : decode cX5_readCompound 58 = .ok (.iload_n 2, 1) := by decide +kernel
theorem dX5_readCompound_59 : decode cX5_readCompound 59 = .ok (.iaload, 1) := by decide +kernel
theorem dX5_readCompound_60 : decode cX5_readCompound 60 = .ok (.istore_n 3, 1) := by decide +kernel
theorem dX5_readCompound_61 : decode cX5_readCompound 61 = .ok (.iload_n 3, 1) := by decide +kernel
theorem dX5_readCompound_62 : decode cX5_readCompound 62 = .ok (.iconst 1, 1) := by decide +kernel
theorem dX5_readCompound_63 : decode cX5_readCompound 63 = .ok (.if_icmp .ge 7, 3) := by decide +kernel
theorem dX5_readCompound_66 : decode cX5_readCompound 66 = .ok (.iconst (-1), 1) := by decide +kernel
theorem dX5_readCompound_67 : decode cX5_readCompound 67 = .ok (.goto 10, 3) := by decide +kernel
theorem dX5_readCompound_70 : decode cX5_readCompound 70 = .ok (.aload_n 0, 1) := by decide +kernel
theorem dX5_readCompound_71 : decode cX5_readCompound 71 = .ok (.bipush 40, 2) := by decide +kernel
theorem dX5_readCompound_73 : decode cX5_readCompound 73 = .ok (.iload_n 1, 1) := by decide +kernel
theorem dX5_readCompound_74 : decode cX5_readCompound 74 = .ok (.invokevirtual 186, 3) := by decide +kernel
theorem dX5_readCompound_77 : decode cX5_readCompound 77 = .ok (.istore 4, 2) := by decide +kernel
theorem dX5_readCompound_79 : decode cX5_readCompound 79 = .ok (.iload_n 3, 1) := by decide +kernel
theorem dX5_readCompound_80 : decode cX5_readCompound 80 = .ok (.iconst 2, 1) := by decide +kernel
theorem dX5_readCompound_81 : decode cX5_readCompound 81 = .ok (.if_icmp .ge 7, 3) := by decide +kernel
theorem dX5_readCompound_84 : decode cX5_readCompound 84 = .ok (.iconst (-1), 1) := by decide +kernel
theorem dX5_readCompound_85 : decode cX5_readCompound 85 = .ok (.goto 10, 3) := by decide +kernel
theorem dX5_readCompound_88 : decode cX5_readCompound 88 = .ok (.aload_n 0, 1) := by decide +kernel
theorem dX5_readCompound_89 : decode cX5_readCompound 89 = .ok (.bipush 44, 2) := by decide +kernel
theorem dX5_readCompound_91 : decode cX5_readCompound 91 = .ok (.iload_n 1, 1) := by decide +kernel
theorem dX5_readCompound_92 : decode cX5_readCompound 92 = .ok (.invokevirtual 186, 3) := by decide +kernel
theorem dX5_readCompound_95 : decode cX5_readCompound 95 = .ok (.istore 5, 2) := by decide +kernel
theorem dX5_readCompound_97 : decode cX5_readCompound 97 = .ok (.iload_n 3, 1) := by decide +kernel
theorem dX5_readCompound_98 : decode cX5_readCompound 98 = .ok (.iconst 3, 1) := by decide +kernel
theorem dX5_readCompound_99 : decode cX5_readCompound 99 = .ok (.if_icmp .ge 7, 3) := by decide +kernel
theorem dX5_readCompound_102 : decode cX5_readCompound 102 = .ok (.iconst (-1), 1) := by decide +kernel
theorem dX5_readCompound_103 : decode cX5_readCompound 103 = .ok (.goto 10, 3) := by decide +kernel
theorem dX5_readCompound_106 : decode cX5_readCompound 106 = .ok (.aload_n 0, 1) := by decide +kernel
theorem dX5_readCompound_107 : decode cX5_readCompound 107 = .ok (.bipush 44, 2) := by decide +kernel
theorem dX5_readCompound_109 : decode cX5_readCompound 109 = .ok (.iload_n 1, 1) := by decide +kernel
theorem dX5_readCompound_110 : decode cX5_readCompound 110 = .ok (.invokevirtual 186, 3) := by decide +kernel
theorem dX5_readCompound_113 : decode cX5_readCompound 113 = .ok (.istore 6, 2) := by decide +kernel
theorem dX5_readCompound_115 : decode cX5_readCompound 115 = .ok (.iload_n 3, 1) := by decide +kernel
theorem dX5_readCompound_116 : decode cX5_readCompound 116 = .ok (.ifCond .le 9, 3) := by decide +kernel
theorem dX5_readCompound_119 : decode cX5_readCompound 119 = .ok (.aload_n 0, 1) := by decide +kernel
theorem dX5_readCompound_120 : decode cX5_readCompound 120 = .ok (.bipush 41, 2) := by decide +kernel
theorem dX5_readCompound_122 : decode cX5_readCompound 122 = .ok (.invokevirtual 116, 3) := by decide +kernel
theorem dX5_readCompound_125 : decode cX5_readCompound 125 = .ok (.aload_n 0, 1) := by decide +kernel
theorem dX5_readCompound_126 : decode cX5_readCompound 126 = .ok (.getfield 24, 3) := by decide +kernel
theorem dX5_readCompound_129 : decode cX5_readCompound 129 = .ok (.ifCond .ne 27, 3) := by decide +kernel
theorem dX5_readCompound_132 : decode cX5_readCompound 132 = .ok (.aload_n 0, 1) := by decide +kernel
theorem dX5_readCompound_133 : decode cX5_readCompound 133 = .ok (.aload_n 0, 1) := by decide +kernel
theorem dX5_readCompound_134 : decode cX5_readCompound 134 = .ok (.getfield 38, 3) := by decide +kernel
theorem dX5_readCompound_137 : decode cX5_readCompound 137 = .ok (.getfield 42, 3) := by decide +kernel
theorem dX5_readCompound_140 : decode cX5_readCompound 140 = .ok (.iload_n 2, 1) := by decide +kernel
theorem dX5_readCompound_141 : decode cX5_readCompound 141 = .ok (.iload 4, 2) := by decide +kernel
theorem dX5_readCompound_143 : decode cX5_readCompound 143 = .ok (.iload 5, 2) := by decide +kernel
theorem dX5_readCompound_145 : decode cX5_readCompound 145 = .ok (.iload 6, 2) := by decide +kernel
theorem dX5_readCompound_147 : decode cX5_readCompound 147 = .ok (.invokevirtual 189, 3) := by decide +kernel
theorem dX5_readCompound_150 : decode cX5_readCompound 150 = .ok (.invokevirtual 180, 3) := by decide +kernel
theorem dX5_readCompound_153 : decode cX5_readCompound 153 = .ok (.goto 4, 3) := by decide +kernel
theorem dX5_readCompound_156 : decode cX5_readCompound 156 = .ok (.iconst (-1), 1) := by decide +kernel
theorem dX5_readCompound_157 : decode cX5_readCompound 157 = .ok (.ireturn, 1) := by decide +kernel
theorem dX5_readArgument_0 : decode cX5_readArgument 0 = .ok (.aload_n 0, 1) := by decide +kernel
theorem dX5_readArgument_1 : decode cX5_readArgument 1 = .ok (.iload_n 1, 1) := by decide +kernel
theorem dX5_readArgument_2 : decode cX5_readArgument 2 = .ok (.invokevirtual 116, 3) := by decide +kernel
theorem dX5_readArgument_5 : decode cX5_readArgument 5 = .ok (.aload_n 0, 1) := by decide +kernel
theorem dX5_readArgument_6 : decode cX5_readArgument 6 = .ok (.iload_n 2, 1) := by decide +kernel
theorem dX5_readArgument_7 : decode cX5_readArgument 7 = .ok (.iconst 1, 1) := by decide +kernel
theorem dX5_readArgument_8 : decode cX5_readArgument 8 = .ok (.iadd, 1) := by decide +kernel
theorem dX5_readArgument_9 : decode cX5_readArgument 9 = .ok (.invokevirtual 113, 3) := by decide +kernel
theorem dX5_readArgument_12 : decode cX5_readArgument 12 = .ok (.ireturn, 1) := by decide +kernel
theorem dX5_held_0 : decode cX5_held 0 = .ok (.iload_n 1, 1) := by decide +kernel
theorem dX5_held_1 : decode cX5_held 1 = .ok (.ifCond .ge 11, 3) := by decide +kernel
theorem dX5_held_4 : decode cX5_held 4 = .ok (.aload_n 0, 1) := by decide +kernel
theorem dX5_held_5 : decode cX5_held 5 = .ok (.iconst 2, 1) := by decide +kernel
theorem dX5_held_6 : decode cX5_held 6 = .ok (.invokevirtual 97, 3) := by decide +kernel
theorem dX5_held_9 : decode cX5_held 9 = .ok (.goto 4, 3) := by decide +kernel
theorem dX5_held_12 : decode cX5_held 12 = .ok (.iload_n 1, 1) := by decide +kernel
theorem dX5_held_13 : decode cX5_held 13 = .ok (.ireturn, 1) := by decide +kernel
end
section
theorem dX6_init_0 : decode cX6_init 0 = .ok (.aload_n 0, 1) := by decide +kernel
theorem dX6_init_1 : decode cX6_init 1 = .ok (.invokespecial 3, 3) := by decide +kernel
theorem dX6_init_4 : decode cX6_init 4 = .ok (.aload_n 0, 1) := by decide +kernel
theorem dX6_init_5 : decode cX6_init 5 = .ok (.sipush 612, 3) := by decide +kernel
theorem dX6_init_8 : decode cX6_init 8 = .ok (.newarray .int, 2) := by decide +kernel
theorem dX6_init_10 : decode cX6_init 10 = .ok (.putfield 11, 3) := by decide +kernel
theorem dX6_init_13 : decode cX6_init 13 = .ok (.aload_n 0, 1) := by decide +kernel
theorem dX6_init_14 : decode cX6_init 14 = .ok (.sipush 612, 3) := by decide +kernel
theorem dX6_init_17 : decode cX6_init 17 = .ok (.newarray .int, 2) := by decide +kernel
theorem dX6_init_19 : decode cX6_init 19 = .ok (.putfield 15, 3) := by decide +kernel
theorem dX6_init_22 : decode cX6_init 22 = .ok (.aload_n 0, 1) := by decide +kernel
theorem dX6_init_23 : decode cX6_init 23 = .ok (.sipush 1836, 3) := by decide +kernel
theorem dX6_init_26 : decode cX6_init 26 = .ok (.newarray .int, 2) := by decide +kernel
theorem dX6_init_28 : decode cX6_init 28 = .ok (.putfield 18, 3) := by decide +kernel
theorem dX6_init_31 : decode cX6_init 31 = .ok (.aload_n 0, 1) := by decide +kernel
theorem dX6_init_32 : decode cX6_init 32 = .ok (.iconst 0, 1) := by decide +kernel
theorem dX6_init_33 : decode cX6_init 33 = .ok (.putfield 21, 3) := by decide +kernel
theorem dX6_init_36 : decode cX6_init 36 = .ok (.aload_n 0, 1) := by decide +kernel
theorem dX6_init_37 : decode cX6_init 37 = .ok (.iconst 0, 1) := by decide +kernel
theorem dX6_init_38 : decode cX6_init 38 = .ok (.putfield 25, 3) := by decide +kernel
theorem dX6_init_41 : decode cX6_init 41 = .ok (.aload_n 0, 1) := by decide +kernel
theorem dX6_init_42 : decode cX6_init 42 = .ok (.aload_n 1, 1) := by decide +kernel
theorem dX6_init_43 : decode cX6_init 43 = .ok (.putfield 28, 3) := by decide +kernel
theorem dX6_init_46 : decode cX6_init 46 = .ok (.aload_n 0, 1) := by decide +kernel
theorem dX6_init_47 : decode cX6_init 47 = .ok (.aload_n 1, 1) := by decide +kernel
theorem dX6_init_48 : decode cX6_init 48 = .ok (.getfield 32, 3) := by decide +kernel
theorem dX6_init_51 : decode cX6_init 51 = .ok (.putfield 38, 3) := by decide +kernel
theorem dX6_init_54 : decode cX6_init 54 = .ok (.aload_n 0, 1) := by decide +kernel
theorem dX6_init_55 : decode cX6_init 55 = .ok (.aload_n 2, 1) := by decide +kernel
theorem dX6_init_56 : decode cX6_init 56 = .ok (.putfield 39, 3) := by decide +kernel
theorem dX6_init_59 : decode cX6_init 59 = .ok (.aload_n 0, 1) := by decide +kernel
theorem dX6_init_60 : decode cX6_init 60 = .ok (.aload_n 3, 1) := by decide +kernel
theorem dX6_init_61 : decode cX6_init 61 = .ok (.putfield 43, 3) := by decide +kernel
theorem dX6_init_64 : decode cX6_init 64 = .ok (.return_, 1) := by decide +kernel
theorem dX6_allowSteps_0 : decode cX6_allowSteps 0 = .ok (.aload_n 0, 1) := by decide +kernel
theorem dX6_allowSteps_1 : decode cX6_allowSteps 1 = .ok (.bipush 100, 2) := by decide +kernel
theorem dX6_allowSteps_3 : decode cX6_allowSteps 3 = .ok (.putfield 25, 3) := by decide +kernel
theorem dX6_allowSteps_6 : decode cX6_allowSteps 6 = .ok (.return_, 1) := by decide +kernel
theorem dX6_normalOf_0 : decode cX6_normalOf 0 = .ok (.aload_n 0, 1) := by decide +kernel
theorem dX6_normalOf_1 : decode cX6_normalOf 1 = .ok (.iconst 0, 1) := by decide +kernel
theorem dX6_normalOf_2 : decode cX6_normalOf 2 = .ok (.putfield 21, 3) := by decide +kernel
theorem dX6_normalOf_5 : decode cX6_normalOf 5 = .ok (.aload_n 0, 1) := by decide +kernel
theorem dX6_normalOf_6 : decode cX6_normalOf 6 = .ok (.iload_n 1, 1) := by decide +kernel
theorem dX6_normalOf_7 : decode cX6_normalOf 7 = .ok (.invokevirtual 47, 3) := by decide +kernel
theorem dX6_normalOf_10 : decode cX6_normalOf 10 = .ok (.istore_n 2, 1) := by decide +kernel
theorem dX6_normalOf_11 : decode cX6_normalOf 11 = .ok (.iconst 0, 1) := by decide +kernel
theorem dX6_normalOf_12 : decode cX6_normalOf 12 = .ok (.istore_n 3, 1) := by decide +kernel
theorem dX6_normalOf_13 : decode cX6_normalOf 13 = .ok (.iload_n 3, 1) := by decide +kernel
theorem dX6_normalOf_14 : decode cX6_normalOf 14 = .ok (.ldc 51, 2) := by decide +kernel
theorem dX6_normalOf_16 : decode cX6_normalOf 16 = .ok (.if_icmp .ge 51, 3) := by decide +kernel
theorem dX6_normalOf_19 : decode cX6_normalOf 19 = .ok (.aload_n 0, 1) := by decide +kernel
theorem dX6_normalOf_20 : decode cX6_normalOf 20 = .ok (.getfield 21, 3) := by decide +kernel
theorem dX6_normalOf_23 : decode cX6_normalOf 23 = .ok (.ifCond .le 44, 3) := by decide +kernel
theorem dX6_normalOf_26 : decode cX6_normalOf 26 = .ok (.iload_n 2, 1) := by decide +kernel
theorem dX6_normalOf_27 : decode cX6_normalOf 27 = .ok (.iconst (-1), 1) := by decide +kernel
theorem dX6_normalOf_28 : decode cX6_normalOf 28 = .ok (.if_icmp .lt 39, 3) := by decide +kernel
theorem dX6_normalOf_31 : decode cX6_normalOf 31 = .ok (.iload_n 2, 1) := by decide +kernel
theorem dX6_normalOf_32 : decode cX6_normalOf 32 = .ok (.iconst (-1), 1) := by decide +kernel
theorem dX6_normalOf_33 : decode cX6_normalOf 33 = .ok (.if_icmp .ne 16, 3) := by decide +kernel
theorem dX6_normalOf_36 : decode cX6_normalOf 36 = .ok (.aload_n 0, 1) := by decide +kernel
theorem dX6_normalOf_37 : decode cX6_normalOf 37 = .ok (.aload_n 0, 1) := by decide +kernel
theorem dX6_normalOf_38 : decode cX6_normalOf 38 = .ok (.getfield 21, 3) := by decide +kernel
theorem dX6_normalOf_41 : decode cX6_normalOf 41 = .ok (.iconst 1, 1) := by decide +kernel
theorem dX6_normalOf_42 : decode cX6_normalOf 42 = .ok (.isub, 1) := by decide +kernel
theorem dX6_normalOf_43 : decode cX6_normalOf 43 = .ok (.invokevirtual 52, 3) := by decide +kernel
theorem dX6_normalOf_46 : decode cX6_normalOf 46 = .ok (.goto 14, 3) := by decide +kernel
theorem dX6_normalOf_49 : decode cX6_normalOf 49 = .ok (.aload_n 0, 1) := by decide +kernel
theorem dX6_normalOf_50 : decode cX6_normalOf 50 = .ok (.iload_n 2, 1) := by decide +kernel
theorem dX6_normalOf_51 : decode cX6_normalOf 51 = .ok (.aload_n 0, 1) := by decide +kernel
theorem dX6_normalOf_52 : decode cX6_normalOf 52 = .ok (.getfield 21, 3) := by decide +kernel
theorem dX6_normalOf_55 : decode cX6_normalOf 55 = .ok (.iconst 1, 1) := by decide +kernel
theorem dX6_normalOf_56 : decode cX6_normalOf 56 = .ok (.isub, 1) := by decide +kernel
theorem dX6_normalOf_57 : decode cX6_normalOf 57 = .ok (.invokevirtual 55, 3) := by decide +kernel
theorem dX6_normalOf_60 : decode cX6_normalOf 60 = .ok (.istore_n 2, 1) := by decide +kernel
theorem dX6_normalOf_61 : decode cX6_normalOf 61 = .ok (.iinc 3 1, 3) := by decide +kernel
theorem dX6_normalOf_64 : decode cX6_normalOf 64 = .ok (.goto (-51), 3) := by decide +kernel
theorem dX6_normalOf_67 : decode cX6_normalOf 67 = .ok (.iload_n 2, 1) := by decide +kernel
theorem dX6_normalOf_68 : decode cX6_normalOf 68 = .ok (.iconst (-1), 1) := by decide +kernel
theorem dX6_normalOf_69 : decode cX6_normalOf 69 = .ok (.if_icmp .ne 8, 3) := by decide +kernel
theorem dX6_normalOf_72 : decode cX6_normalOf 72 = .ok (.bipush (-2), 2) := by decide +kernel
theorem dX6_normalOf_74 : decode cX6_normalOf 74 = .ok (.goto 4, 3) := by decide +kernel
theorem dX6_normalOf_77 : decode cX6_normalOf 77 = .ok (.iload_n 2, 1) := by decide +kernel
theorem dX6_normalOf_78 : decode cX6_normalOf 78 = .ok (.ireturn, 1) := by decide +kernel
theorem dX6_opened_0 : decode cX6_opened 0 = .ok (.iload_n 1, 1) := by decide +kernel
theorem dX6_opened_1 : decode cX6_opened 1 = .ok (.ifCond .lt 14, 3) := by decide +kernel
theorem dX6_opened_4 : decode cX6_opened 4 = .ok (.aload_n 0, 1) := by decide +kernel
theorem dX6_opened_5 : decode cX6_opened 5 = .ok (.getfield 38, 3) := by decide +kernel
theorem dX6_opened_8 : decode cX6_opened 8 = .ok (.iload_n 1, 1) := by decide +kernel
theorem dX6_opened_9 : decode cX6_opened 9 = .ok (.invokevirtual 59, 3) := by decide +kernel
theorem dX6_opened_12 : decode cX6_opened 12 = .ok (.ifCond .eq 5, 3) := by decide +kernel
theorem dX6_opened_15 : decode cX6_opened 15 = .ok (.iload_n 1, 1) := by decide +kernel
theorem dX6_opened_16 : decode cX6_opened 16 = .ok (.ireturn, 1) := by decide +kernel
theorem dX6_opened_17 : decode cX6_opened 17 = .ok (.aload_n 0, 1) := by decide +kernel
theorem dX6_opened_18 : decode cX6_opened 18 = .ok (.getfield 28, 3) := by decide +kernel
theorem dX6_opened_21 : decode cX6_opened 21 = .ok (.getfield 65, 3) := by decide +kernel
theorem dX6_opened_24 : decode cX6_opened 24 = .ok (.iload_n 1, 1) := by decide +kernel
theorem dX6_opened_25 : decode cX6_opened 25 = .ok (.invokevirtual 69, 3) := by decide +kernel
theorem dX6_opened_28 : decode cX6_opened 28 = .ok (.istore_n 2, 1) := by decide +kernel
theorem dX6_opened_29 : decode cX6_opened 29 = .ok (.iload_n 2, 1) := by decide +kernel
theorem dX6_opened_30 : decode cX6_opened 30 = .ok (.iconst (-1), 1) := by decide +kernel
theorem dX6_opened_31 : decode cX6_opened 31 = .ok (.if_icmp .eq 5, 3) := by decide +kernel
theorem dX6_opened_34 : decode cX6_opened 34 = .ok (.iload_n 2, 1) := by decide +kernel
theorem dX6_opened_35 : decode cX6_opened 35 = .ok (.ireturn, 1) := by decide +kernel
theorem dX6_opened_36 : decode cX6_opened 36 = .ok (.aload_n 0, 1) := by decide +kernel
theorem dX6_opened_37 : decode cX6_opened 37 = .ok (.getfield 21, 3) := by decide +kernel
theorem dX6_opened_40 : decode cX6_opened 40 = .ok (.sipush 612, 3) := by decide +kernel
theorem dX6_opened_43 : decode cX6_opened 43 = .ok (.if_icmp .lt 6, 3) := by decide +kernel
theorem dX6_opened_46 : decode cX6_opened 46 = .ok (.bipush (-2), 2) := by decide +kernel
theorem dX6_opened_48 : decode cX6_opened 48 = .ok (.ireturn, 1) := by decide +kernel
theorem dX6_opened_49 : decode cX6_opened 49 = .ok (.aload_n 0, 1) := by decide +kernel
theorem dX6_opened_50 : decode cX6_opened 50 = .ok (.getfield 11, 3) := by decide +kernel
theorem dX6_opened_53 : decode cX6_opened 53 = .ok (.aload_n 0, 1) := by decide +kernel
theorem dX6_opened_54 : decode cX6_opened 54 = .ok (.getfield 21, 3) := by decide +kernel
theorem dX6_opened_57 : decode cX6_opened 57 = .ok (.iload_n 1, 1) := by decide +kernel
theorem dX6_opened_58 : decode cX6_opened 58 = .ok (.iastore, 1) := by decide +kernel
theorem dX6_opened_59 : decode cX6_opened 59 = .ok (.aload_n 0, 1) := by decide +kernel
theorem dX6_opened_60 : decode cX6_opened 60 = .ok (.getfield 15, 3) := by decide +kernel
theorem dX6_opened_63 : decode cX6_opened 63 = .ok (.aload_n 0, 1) := by decide +kernel
theorem dX6_opened_64 : decode cX6_opened 64 = .ok (.getfield 21, 3) := by decide +kernel
theorem dX6_opened_67 : decode cX6_opened 67 = .ok (.iconst 0, 1) := by decide +kernel
theorem dX6_opened_68 : decode cX6_opened 68 = .ok (.iastore, 1) := by decide +kernel
theorem dX6_opened_69 : decode cX6_opened 69 = .ok (.aload_n 0, 1) := by decide +kernel
theorem dX6_opened_70 : decode cX6_opened 70 = .ok (.dup, 1) := by decide +kernel
theorem dX6_opened_71 : decode cX6_opened 71 = .ok (.getfield 21, 3) := by decide +kernel
theorem dX6_opened_74 : decode cX6_opened 74 = .ok (.iconst 1, 1) := by decide +kernel
theorem dX6_opened_75 : decode cX6_opened 75 = .ok (.iadd, 1) := by decide +kernel
theorem dX6_opened_76 : decode cX6_opened 76 = .ok (.putfield 21, 3) := by decide +kernel
theorem dX6_opened_79 : decode cX6_opened 79 = .ok (.iconst (-1), 1) := by decide +kernel
theorem dX6_opened_80 : decode cX6_opened 80 = .ok (.ireturn, 1) := by decide +kernel
theorem dX6_wentOn_0 : decode cX6_wentOn 0 = .ok (.aload_n 0, 1) := by decide +kernel
theorem dX6_wentOn_1 : decode cX6_wentOn 1 = .ok (.getfield 11, 3) := by decide +kernel
theorem dX6_wentOn_4 : decode cX6_wentOn 4 = .ok (.iload_n 1, 1) := by decide +kernel
theorem dX6_wentOn_5 : decode cX6_wentOn 5 = .ok (.iaload, 1) := by decide +kernel
theorem dX6_wentOn_6 : decode cX6_wentOn 6 = .ok (.istore_n 2, 1) := by decide +kernel
theorem dX6_wentOn_7 : decode cX6_wentOn 7 = .ok (.aload_n 0, 1) := by decide +kernel
theorem dX6_wentOn_8 : decode cX6_wentOn 8 = .ok (.getfield 15, 3) := by decide +kernel
theorem dX6_wentOn_11 : decode cX6_wentOn 11 = .ok (.iload_n 1, 1) := by decide +kernel
theorem dX6_wentOn_12 : decode cX6_wentOn 12 = .ok (.iaload, 1) := by decide +kernel
theorem dX6_wentOn_13 : decode cX6_wentOn 13 = .ok (.aload_n 0, 1) := by decide +kernel
theorem dX6_wentOn_14 : decode cX6_wentOn 14 = .ok (.getfield 38, 3) := by decide +kernel
theorem dX6_wentOn_17 : decode cX6_wentOn 17 = .ok (.getfield 74, 3) := by decide +kernel
theorem dX6_wentOn_20 : decode cX6_wentOn 20 = .ok (.iload_n 2, 1) := by decide +kernel
theorem dX6_wentOn_21 : decode cX6_wentOn 21 = .ok (.iaload, 1) := by decide +kernel
theorem dX6_wentOn_22 : decode cX6_wentOn 22 = .ok (.if_icmp .ge 22, 3) := by decide +kernel
theorem dX6_wentOn_25 : decode cX6_wentOn 25 = .ok (.aload_n 0, 1) := by decide +kernel
theorem dX6_wentOn_26 : decode cX6_wentOn 26 = .ok (.aload_n 0, 1) := by decide +kernel
theorem dX6_wentOn_27 : decode cX6_wentOn 27 = .ok (.getfield 38, 3) := by decide +kernel
theorem dX6_wentOn_30 : decode cX6_wentOn 30 = .ok (.iload_n 2, 1) := by decide +kernel
theorem dX6_wentOn_31 : decode cX6_wentOn 31 = .ok (.aload_n 0, 1) := by decide +kernel
theorem dX6_wentOn_32 : decode cX6_wentOn 32 = .ok (.getfield 15, 3) := by decide +kernel
theorem dX6_wentOn_35 : decode cX6_wentOn 35 = .ok (.iload_n 1, 1) := by decide +kernel
theorem dX6_wentOn_36 : decode cX6_wentOn 36 = .ok (.iaload, 1) := by decide +kernel
theorem dX6_wentOn_37 : decode cX6_wentOn 37 = .ok (.invokevirtual 77, 3) := by decide +kernel
theorem dX6_wentOn_40 : decode cX6_wentOn 40 = .ok (.invokevirtual 47, 3) := by decide +kernel
theorem dX6_wentOn_43 : decode cX6_wentOn 43 = .ok (.ireturn, 1) := by decide +kernel
theorem dX6_wentOn_44 : decode cX6_wentOn 44 = .ok (.iload_n 1, 1) := by decide +kernel
theorem dX6_wentOn_45 : decode cX6_wentOn 45 = .ok (.iconst 3, 1) := by decide +kernel
theorem dX6_wentOn_46 : decode cX6_wentOn 46 = .ok (.imul, 1) := by decide +kernel
theorem dX6_wentOn_47 : decode cX6_wentOn 47 = .ok (.istore_n 3, 1) := by decide +kernel
theorem dX6_wentOn_48 : decode cX6_wentOn 48 = .ok (.aload_n 0, 1) := by decide +kernel
theorem dX6_wentOn_49 : decode cX6_wentOn 49 = .ok (.getfield 38, 3) := by decide +kernel
theorem dX6_wentOn_52 : decode cX6_wentOn 52 = .ok (.aload_n 0, 1) := by decide +kernel
theorem dX6_wentOn_53 : decode cX6_wentOn 53 = .ok (.getfield 38, 3) := by decide +kernel
theorem dX6_wentOn_56 : decode cX6_wentOn 56 = .ok (.getfield 80, 3) := by decide +kernel
theorem dX6_wentOn_59 : decode cX6_wentOn 59 = .ok (.iload_n 2, 1) := by decide +kernel
theorem dX6_wentOn_60 : decode cX6_wentOn 60 = .ok (.iaload, 1) := by decide +kernel
theorem dX6_wentOn_61 : decode cX6_wentOn 61 = .ok (.aload_n 0, 1) := by decide +kernel
theorem dX6_wentOn_62 : decode cX6_wentOn 62 = .ok (.getfield 18, 3) := by decide +kernel
theorem dX6_wentOn_65 : decode cX6_wentOn 65 = .ok (.iload_n 3, 1) := by decide +kernel
theorem dX6_wentOn_66 : decode cX6_wentOn 66 = .ok (.iaload, 1) := by decide +kernel
theorem dX6_wentOn_67 : decode cX6_wentOn 67 = .ok (.aload_n 0, 1) := by decide +kernel
theorem dX6_wentOn_68 : decode cX6_wentOn 68 = .ok (.getfield 18, 3) := by decide +kernel
theorem dX6_wentOn_71 : decode cX6_wentOn 71 = .ok (.iload_n 3, 1) := by decide +kernel
theorem dX6_wentOn_72 : decode cX6_wentOn 72 = .ok (.iconst 1, 1) := by decide +kernel
theorem dX6_wentOn_73 : decode cX6_wentOn 73 = .ok (.iadd, 1) := by decide +kernel
theorem dX6_wentOn_74 : decode cX6_wentOn 74 = .ok (.iaload, 1) := by decide +kernel
theorem dX6_wentOn_75 : decode cX6_wentOn 75 = .ok (.aload_n 0, 1) := by decide +kernel
theorem dX6_wentOn_76 : decode cX6_wentOn 76 = .ok (.getfield 18, 3) := by decide +kernel
theorem dX6_wentOn_79 : decode cX6_wentOn 79 = .ok (.iload_n 3, 1) := by decide +kernel
theorem dX6_wentOn_80 : decode cX6_wentOn 80 = .ok (.iconst 2, 1) := by decide +kernel
theorem dX6_wentOn_81 : decode cX6_wentOn 81 = .ok (.iadd, 1) := by decide +kernel
theorem dX6_wentOn_82 : decode cX6_wentOn 82 = .ok (.iaload, 1) := by decide +kernel
theorem dX6_wentOn_83 : decode cX6_wentOn 83 = .ok (.invokevirtual 83, 3) := by decide +kernel
theorem dX6_wentOn_86 : decode cX6_wentOn 86 = .ok (.istore 4, 2) := by decide +kernel
theorem dX6_wentOn_88 : decode cX6_wentOn 88 = .ok (.iload 4, 2) := by decide +kernel
theorem dX6_wentOn_90 : decode cX6_wentOn 90 = .ok (.ifCond .ge 6, 3) := by decide +kernel
theorem dX6_wentOn_93 : decode cX6_wentOn 93 = .ok (.iload 4, 2) := by decide +kernel
theorem dX6_wentOn_95 : decode cX6_wentOn 95 = .ok (.ireturn, 1) := by decide +kernel
theorem dX6_wentOn_96 : decode cX6_wentOn 96 = .ok (.aload_n 0, 1) := by decide +kernel
theorem dX6_wentOn_97 : decode cX6_wentOn 97 = .ok (.getfield 28, 3) := by decide +kernel
theorem dX6_wentOn_100 : decode cX6_wentOn 100 = .ok (.getfield 65, 3) := by decide +kernel
theorem dX6_wentOn_103 : decode cX6_wentOn 103 = .ok (.aload_n 0, 1) := by decide +kernel
theorem dX6_wentOn_104 : decode cX6_wentOn 104 = .ok (.getfield 39, 3) := by decide +kernel
theorem dX6_wentOn_107 : decode cX6_wentOn 107 = .ok (.iload 4, 2) := by decide +kernel
theorem dX6_wentOn_109 : decode cX6_wentOn 109 = .ok (.invokestatic 87, 3) := by decide +kernel
theorem dX6_wentOn_112 : decode cX6_wentOn 112 = .ok (.istore 5, 2) := by decide +kernel
theorem dX6_wentOn_114 : decode cX6_wentOn 114 = .ok (.iload 5, 2) := by decide +kernel
theorem dX6_wentOn_116 : decode cX6_wentOn 116 = .ok (.iconst (-1), 1) := by decide +kernel
theorem dX6_wentOn_117 : decode cX6_wentOn 117 = .ok (.if_icmp .ne 11, 3) := by decide +kernel
theorem dX6_wentOn_120 : decode cX6_wentOn 120 = .ok (.aload_n 0, 1) := by decide +kernel
theorem dX6_wentOn_121 : decode cX6_wentOn 121 = .ok (.iload 4, 2) := by decide +kernel
theorem dX6_wentOn_123 : decode cX6_wentOn 123 = .ok (.iload_n 1, 1) := by decide +kernel
theorem dX6_wentOn_124 : decode cX6_wentOn 124 = .ok (.invokevirtual 93, 3) := by decide +kernel
theorem dX6_wentOn_127 : decode cX6_wentOn 127 = .ok (.ireturn, 1) := by decide +kernel
theorem dX6_wentOn_128 : decode cX6_wentOn 128 = .ok (.aload_n 0, 1) := by decide +kernel
theorem dX6_wentOn_129 : decode cX6_wentOn 129 = .ok (.getfield 25, 3) := by decide +kernel
theorem dX6_wentOn_132 : decode cX6_wentOn 132 = .ok (.ifCond .gt 6, 3) := by decide +kernel
theorem dX6_wentOn_135 : decode cX6_wentOn 135 = .ok (.bipush (-2), 2) := by decide +kernel
theorem dX6_wentOn_137 : decode cX6_wentOn 137 = .ok (.ireturn, 1) := by decide +kernel
theorem dX6_wentOn_138 : decode cX6_wentOn 138 = .ok (.aload_n 0, 1) := by decide +kernel
theorem dX6_wentOn_139 : decode cX6_wentOn 139 = .ok (.iload_n 1, 1) := by decide +kernel
theorem dX6_wentOn_140 : decode cX6_wentOn 140 = .ok (.invokevirtual 96, 3) := by decide +kernel
theorem dX6_wentOn_143 : decode cX6_wentOn 143 = .ok (.aload_n 0, 1) := by decide +kernel
theorem dX6_wentOn_144 : decode cX6_wentOn 144 = .ok (.aload_n 0, 1) := by decide +kernel
theorem dX6_wentOn_145 : decode cX6_wentOn 145 = .ok (.getfield 43, 3) := by decide +kernel
theorem dX6_wentOn_148 : decode cX6_wentOn 148 = .ok (.aload_n 0, 1) := by decide +kernel
theorem dX6_wentOn_149 : decode cX6_wentOn 149 = .ok (.getfield 28, 3) := by decide +kernel
theorem dX6_wentOn_152 : decode cX6_wentOn 152 = .ok (.getfield 65, 3) := by decide +kernel
theorem dX6_wentOn_155 : decode cX6_wentOn 155 = .ok (.getfield 100, 3) := by decide +kernel
theorem dX6_wentOn_158 : decode cX6_wentOn 158 = .ok (.bipush 23, 2) := by decide +kernel
theorem dX6_wentOn_160 : decode cX6_wentOn 160 = .ok (.iload 5, 2) := by decide +kernel
theorem dX6_wentOn_162 : decode cX6_wentOn 162 = .ok (.iadd, 1) := by decide +kernel
theorem dX6_wentOn_163 : decode cX6_wentOn 163 = .ok (.iaload, 1) := by decide +kernel
theorem dX6_wentOn_164 : decode cX6_wentOn 164 = .ok (.aload_n 0, 1) := by decide +kernel
theorem dX6_wentOn_165 : decode cX6_wentOn 165 = .ok (.getfield 39, 3) := by decide +kernel
theorem dX6_wentOn_168 : decode cX6_wentOn 168 = .ok (.getfield 103, 3) := by decide +kernel
theorem dX6_wentOn_171 : decode cX6_wentOn 171 = .ok (.iconst 0, 1) := by decide +kernel
theorem dX6_wentOn_172 : decode cX6_wentOn 172 = .ok (.invokevirtual 108, 3) := by decide +kernel
theorem dX6_wentOn_175 : decode cX6_wentOn 175 = .ok (.invokevirtual 47, 3) := by decide +kernel
theorem dX6_wentOn_178 : decode cX6_wentOn 178 = .ok (.ireturn, 1) := by decide +kernel
theorem dX6_countStep_0 : decode cX6_countStep 0 = .ok (.aload_n 0, 1) := by decide +kernel
theorem dX6_countStep_1 : decode cX6_countStep 1 = .ok (.dup, 1) := by decide +kernel
theorem dX6_countStep_2 : decode cX6_countStep 2 = .ok (.getfield 25, 3) := by decide +kernel
theorem dX6_countStep_5 : decode cX6_countStep 5 = .ok (.iconst 1, 1) := by decide +kernel
theorem dX6_countStep_6 : decode cX6_countStep 6 = .ok (.isub, 1) := by decide +kernel
theorem dX6_countStep_7 : decode cX6_countStep 7 = .ok (.putfield 25, 3) := by decide +kernel
theorem dX6_countStep_10 : decode cX6_countStep 10 = .ok (.aload_n 0, 1) := by decide +kernel
theorem dX6_countStep_11 : decode cX6_countStep 11 = .ok (.getfield 28, 3) := by decide +kernel
theorem dX6_countStep_14 : decode cX6_countStep 14 = .ok (.getfield 65, 3) := by decide +kernel
theorem dX6_countStep_17 : decode cX6_countStep 17 = .ok (.getfield 100, 3) := by decide +kernel
theorem dX6_countStep_20 : decode cX6_countStep 20 = .ok (.iconst 3, 1) := by decide +kernel
theorem dX6_countStep_21 : decode cX6_countStep 21 = .ok (.dup2, 1) := by decide +kernel
theorem dX6_countStep_22 : decode cX6_countStep 22 = .ok (.iaload, 1) := by decide +kernel
theorem dX6_countStep_23 : decode cX6_countStep 23 = .ok (.iconst 1, 1) := by decide +kernel
theorem dX6_countStep_24 : decode cX6_countStep 24 = .ok (.iadd, 1) := by decide +kernel
theorem dX6_countStep_25 : decode cX6_countStep 25 = .ok (.iastore, 1) := by decide +kernel
theorem dX6_countStep_26 : decode cX6_countStep 26 = .ok (.aload_n 0, 1) := by decide +kernel
theorem dX6_countStep_27 : decode cX6_countStep 27 = .ok (.getfield 15, 3) := by decide +kernel
theorem dX6_countStep_30 : decode cX6_countStep 30 = .ok (.iload_n 1, 1) := by decide +kernel
theorem dX6_countStep_31 : decode cX6_countStep 31 = .ok (.iconst 4, 1) := by decide +kernel
theorem dX6_countStep_32 : decode cX6_countStep 32 = .ok (.iastore, 1) := by decide +kernel
theorem dX6_countStep_33 : decode cX6_countStep 33 = .ok (.return_, 1) := by decide +kernel
theorem dX6_handed_0 : decode cX6_handed 0 = .ok (.aload_n 0, 1) := by decide +kernel
theorem dX6_handed_1 : decode cX6_handed 1 = .ok (.getfield 15, 3) := by decide +kernel
theorem dX6_handed_4 : decode cX6_handed 4 = .ok (.iload_n 2, 1) := by decide +kernel
theorem dX6_handed_5 : decode cX6_handed 5 = .ok (.iaload, 1) := by decide +kernel
theorem dX6_handed_6 : decode cX6_handed 6 = .ok (.istore_n 3, 1) := by decide +kernel
theorem dX6_handed_7 : decode cX6_handed 7 = .ok (.iload_n 3, 1) := by decide +kernel
theorem dX6_handed_8 : decode cX6_handed 8 = .ok (.iconst 3, 1) := by decide +kernel
theorem dX6_handed_9 : decode cX6_handed 9 = .ok (.if_icmp .lt 10, 3) := by decide +kernel
theorem dX6_handed_12 : decode cX6_handed 12 = .ok (.aload_n 0, 1) := by decide +kernel
theorem dX6_handed_13 : decode cX6_handed 13 = .ok (.iload_n 1, 1) := by decide +kernel
theorem dX6_handed_14 : decode cX6_handed 14 = .ok (.iload_n 2, 1) := by decide +kernel
theorem dX6_handed_15 : decode cX6_handed 15 = .ok (.invokevirtual 93, 3) := by decide +kernel
theorem dX6_handed_18 : decode cX6_handed 18 = .ok (.ireturn, 1) := by decide +kernel
theorem dX6_handed_19 : decode cX6_handed 19 = .ok (.aload_n 0, 1) := by decide +kernel
theorem dX6_handed_20 : decode cX6_handed 20 = .ok (.getfield 18, 3) := by decide +kernel
theorem dX6_handed_23 : decode cX6_handed 23 = .ok (.iload_n 2, 1) := by decide +kernel
theorem dX6_handed_24 : decode cX6_handed 24 = .ok (.iconst 3, 1) := by decide +kernel
theorem dX6_handed_25 : decode cX6_handed 25 = .ok (.imul, 1) := by decide +kernel
theorem dX6_handed_26 : decode cX6_handed 26 = .ok (.iload_n 3, 1) := by decide +kernel
theorem dX6_handed_27 : decode cX6_handed 27 = .ok (.iadd, 1) := by decide +kernel
theorem dX6_handed_28 : decode cX6_handed 28 = .ok (.iload_n 1, 1) := by decide +kernel
theorem dX6_handed_29 : decode cX6_handed 29 = .ok (.iastore, 1) := by decide +kernel
theorem dX6_handed_30 : decode cX6_handed 30 = .ok (.aload_n 0, 1) := by decide +kernel
theorem dX6_handed_31 : decode cX6_handed 31 = .ok (.getfield 15, 3) := by decide +kernel
theorem dX6_handed_34 : decode cX6_handed 34 = .ok (.iload_n 2, 1) := by decide +kernel
theorem dX6_handed_35 : decode cX6_handed 35 = .ok (.iload_n 3, 1) := by decide +kernel
theorem dX6_handed_36 : decode cX6_handed 36 = .ok (.iconst 1, 1) := by decide +kernel
theorem dX6_handed_37 : decode cX6_handed 37 = .ok (.iadd, 1) := by decide +kernel
theorem dX6_handed_38 : decode cX6_handed 38 = .ok (.iastore, 1) := by decide +kernel
theorem dX6_handed_39 : decode cX6_handed 39 = .ok (.iconst (-1), 1) := by decide +kernel
theorem dX6_handed_40 : decode cX6_handed 40 = .ok (.ireturn, 1) := by decide +kernel
theorem dX6_closedWith_0 : decode cX6_closedWith 0 = .ok (.aload_n 0, 1) := by decide +kernel
theorem dX6_closedWith_1 : decode cX6_closedWith 1 = .ok (.getfield 28, 3) := by decide +kernel
theorem dX6_closedWith_4 : decode cX6_closedWith 4 = .ok (.getfield 65, 3) := by decide +kernel
theorem dX6_closedWith_7 : decode cX6_closedWith 7 = .ok (.aload_n 0, 1) := by decide +kernel
theorem dX6_closedWith_8 : decode cX6_closedWith 8 = .ok (.getfield 11, 3) := by decide +kernel
theorem dX6_closedWith_11 : decode cX6_closedWith 11 = .ok (.iload_n 2, 1) := by decide +kernel
theorem dX6_closedWith_12 : decode cX6_closedWith 12 = .ok (.iaload, 1) := by decide +kernel
theorem dX6_closedWith_13 : decode cX6_closedWith 13 = .ok (.iload_n 1, 1) := by decide +kernel
theorem dX6_closedWith_14 : decode cX6_closedWith 14 = .ok (.invokevirtual 114, 3) := by decide +kernel
theorem dX6_closedWith_17 : decode cX6_closedWith 17 = .ok (.aload_n 0, 1) := by decide +kernel
theorem dX6_closedWith_18 : decode cX6_closedWith 18 = .ok (.iload_n 2, 1) := by decide +kernel
theorem dX6_closedWith_19 : decode cX6_closedWith 19 = .ok (.putfield 21, 3) := by decide +kernel
theorem dX6_closedWith_22 : decode cX6_closedWith 22 = .ok (.iload_n 1, 1) := by decide +kernel
theorem dX6_closedWith_23 : decode cX6_closedWith 23 = .ok (.ireturn, 1) := by decide +kernel
theorem dX7_init_0 : decode cX7_init 0 = .ok (.aload_n 0, 1) := by decide +kernel
theorem dX7_init_1 : decode cX7_init 1 = .ok (.invokespecial 3, 3) := by decide +kernel
theorem dX7_init_4 : decode cX7_init 4 = .ok (.aload_n 0, 1) := by decide +kernel
theorem dX7_init_5 : decode cX7_init 5 = .ok (.aload_n 1, 1) := by decide +kernel
theorem dX7_init_6 : decode cX7_init 6 = .ok (.putfield 9, 3) := by decide +kernel
theorem dX7_init_9 : decode cX7_init 9 = .ok (.aload_n 0, 1) := by decide +kernel
theorem dX7_init_10 : decode cX7_init 10 = .ok (.aload_n 1, 1) := by decide +kernel
theorem dX7_init_11 : decode cX7_init 11 = .ok (.getfield 15, 3) := by decide +kernel
theorem dX7_init_14 : decode cX7_init 14 = .ok (.putfield 21, 3) := by decide +kernel
theorem dX7_init_17 : decode cX7_init 17 = .ok (.aload_n 0, 1) := by decide +kernel
theorem dX7_init_18 : decode cX7_init 18 = .ok (.aload_n 2, 1) := by decide +kernel
theorem dX7_init_19 : decode cX7_init 19 = .ok (.putfield 22, 3) := by decide +kernel
theorem dX7_init_22 : decode cX7_init 22 = .ok (.aload_n 0, 1) := by decide +kernel
theorem dX7_init_23 : decode cX7_init 23 = .ok (.aload_n 3, 1) := by decide +kernel
theorem dX7_init_24 : decode cX7_init 24 = .ok (.putfield 26, 3) := by decide +kernel
theorem dX7_init_27 : decode cX7_init 27 = .ok (.aload_n 0, 1) := by decide +kernel
theorem dX7_init_28 : decode cX7_init 28 = .ok (.aload 4, 2) := by decide +kernel
theorem dX7_init_30 : decode cX7_init 30 = .ok (.putfield 30, 3) := by decide +kernel
theorem dX7_init_33 : decode cX7_init 33 = .ok (.return_, 1) := by decide +kernel
theorem dX7_compared_0 : decode cX7_compared 0 = .ok (.iload_n 1, 1) := by decide +kernel
theorem dX7_compared_1 : decode cX7_compared 1 = .ok (.iload_n 2, 1) := by decide +kernel
theorem dX7_compared_2 : decode cX7_compared 2 = .ok (.if_icmp .ne 5, 3) := by decide +kernel
theorem dX7_compared_5 : decode cX7_compared 5 = .ok (.iconst 0, 1) := by decide +kernel
theorem dX7_compared_6 : decode cX7_compared 6 = .ok (.ireturn, 1) := by decide +kernel
theorem dX7_compared_7 : decode cX7_compared 7 = .ok (.aload_n 0, 1) := by decide +kernel
theorem dX7_compared_8 : decode cX7_compared 8 = .ok (.getfield 30, 3) := by decide +kernel
theorem dX7_compared_11 : decode cX7_compared 11 = .ok (.iload_n 1, 1) := by decide +kernel
theorem dX7_compared_12 : decode cX7_compared 12 = .ok (.iload_n 2, 1) := by decide +kernel
theorem dX7_compared_13 : decode cX7_compared 13 = .ok (.invokevirtual 34, 3) := by decide +kernel
theorem dX7_compared_16 : decode cX7_compared 16 = .ok (.ifCond .eq 5, 3) := by decide +kernel
theorem dX7_compared_19 : decode cX7_compared 19 = .ok (.iconst 1, 1) := by decide +kernel
theorem dX7_compared_20 : decode cX7_compared 20 = .ok (.ireturn, 1) := by decide +kernel
theorem dX7_compared_21 : decode cX7_compared 21 = .ok (.aload_n 0, 1) := by decide +kernel
theorem dX7_compared_22 : decode cX7_compared 22 = .ok (.getfield 30, 3) := by decide +kernel
theorem dX7_compared_25 : decode cX7_compared 25 = .ok (.iload_n 2, 1) := by decide +kernel
theorem dX7_compared_26 : decode cX7_compared 26 = .ok (.iload_n 1, 1) := by decide +kernel
theorem dX7_compared_27 : decode cX7_compared 27 = .ok (.invokevirtual 34, 3) := by decide +kernel
theorem dX7_compared_30 : decode cX7_compared 30 = .ok (.ifCond .eq 7, 3) := by decide +kernel
theorem dX7_compared_33 : decode cX7_compared 33 = .ok (.iconst 2, 1) := by decide +kernel
theorem dX7_compared_34 : decode cX7_compared 34 = .ok (.goto 4, 3) := by decide +kernel
theorem dX7_compared_37 : decode cX7_compared 37 = .ok (.iconst 3, 1) := by decide +kernel
theorem dX7_compared_38 : decode cX7_compared 38 = .ok (.ireturn, 1) := by decide +kernel
theorem dX7_isRule_0 : decode cX7_isRule 0 = .ok (.aload_n 0, 1) := by decide +kernel
theorem dX7_isRule_1 : decode cX7_isRule 1 = .ok (.getfield 21, 3) := by decide +kernel
theorem dX7_isRule_4 : decode cX7_isRule 4 = .ok (.iload_n 1, 1) := by decide +kernel
theorem dX7_isRule_5 : decode cX7_isRule 5 = .ok (.invokevirtual 40, 3) := by decide +kernel
theorem dX7_isRule_8 : decode cX7_isRule 8 = .ok (.ifCond .eq 69, 3) := by decide +kernel
theorem dX7_isRule_11 : decode cX7_isRule 11 = .ok (.aload_n 0, 1) := by decide +kernel
theorem dX7_isRule_12 : decode cX7_isRule 12 = .ok (.getfield 21, 3) := by decide +kernel
theorem dX7_isRule_15 : decode cX7_isRule 15 = .ok (.iload_n 2, 1) := by decide +kernel
theorem dX7_isRule_16 : decode cX7_isRule 16 = .ok (.invokevirtual 40, 3) := by decide +kernel
theorem dX7_isRule_19 : decode cX7_isRule 19 = .ok (.ifCond .eq 58, 3) := by decide +kernel
theorem dX7_isRule_22 : decode cX7_isRule 22 = .ok (.aload_n 0, 1) := by decide +kernel
theorem dX7_isRule_23 : decode cX7_isRule 23 = .ok (.getfield 21, 3) := by decide +kernel
theorem dX7_isRule_26 : decode cX7_isRule 26 = .ok (.iload_n 1, 1) := by decide +kernel
theorem dX7_isRule_27 : decode cX7_isRule 27 = .ok (.invokevirtual 46, 3) := by decide +kernel
theorem dX7_isRule_30 : decode cX7_isRule 30 = .ok (.ifCond .ne 47, 3) := by decide +kernel
theorem dX7_isRule_33 : decode cX7_isRule 33 = .ok (.aload_n 0, 1) := by decide +kernel
theorem dX7_isRule_34 : decode cX7_isRule 34 = .ok (.getfield 21, 3) := by decide +kernel
theorem dX7_isRule_37 : decode cX7_isRule 37 = .ok (.getfield 49, 3) := by decide +kernel
theorem dX7_isRule_40 : decode cX7_isRule 40 = .ok (.iload_n 1, 1) := by decide +kernel
theorem dX7_isRule_41 : decode cX7_isRule 41 = .ok (.iaload, 1) := by decide +kernel
theorem dX7_isRule_42 : decode cX7_isRule 42 = .ok (.bipush 12, 2) := by decide +kernel
theorem dX7_isRule_44 : decode cX7_isRule 44 = .ok (.if_icmp .gt 33, 3) := by decide +kernel
theorem dX7_isRule_47 : decode cX7_isRule 47 = .ok (.aload_n 0, 1) := by decide +kernel
theorem dX7_isRule_48 : decode cX7_isRule 48 = .ok (.getfield 21, 3) := by decide +kernel
theorem dX7_isRule_51 : decode cX7_isRule 51 = .ok (.getfield 49, 3) := by decide +kernel
theorem dX7_isRule_54 : decode cX7_isRule 54 = .ok (.iload_n 2, 1) := by decide +kernel
theorem dX7_isRule_55 : decode cX7_isRule 55 = .ok (.iaload, 1) := by decide +kernel
theorem dX7_isRule_56 : decode cX7_isRule 56 = .ok (.bipush 12, 2) := by decide +kernel
theorem dX7_isRule_58 : decode cX7_isRule 58 = .ok (.if_icmp .gt 19, 3) := by decide +kernel
theorem dX7_isRule_61 : decode cX7_isRule 61 = .ok (.aload_n 0, 1) := by decide +kernel
theorem dX7_isRule_62 : decode cX7_isRule 62 = .ok (.getfield 30, 3) := by decide +kernel
theorem dX7_isRule_65 : decode cX7_isRule 65 = .ok (.iload_n 1, 1) := by decide +kernel
theorem dX7_isRule_66 : decode cX7_isRule 66 = .ok (.iload_n 2, 1) := by decide +kernel
theorem dX7_isRule_67 : decode cX7_isRule 67 = .ok (.invokevirtual 34, 3) := by decide +kernel
theorem dX7_isRule_70 : decode cX7_isRule 70 = .ok (.ifCond .eq 7, 3) := by decide +kernel
theorem dX7_isRule_73 : decode cX7_isRule 73 = .ok (.iconst 1, 1) := by decide +kernel
theorem dX7_isRule_74 : decode cX7_isRule 74 = .ok (.goto 4, 3) := by decide +kernel
theorem dX7_isRule_77 : decode cX7_isRule 77 = .ok (.iconst 0, 1) := by decide +kernel
theorem dX7_isRule_78 : decode cX7_isRule 78 = .ok (.ireturn, 1) := by decide +kernel
theorem dX7_fits_0 : decode cX7_fits 0 = .ok (.iconst 0, 1) := by decide +kernel
theorem dX7_fits_1 : decode cX7_fits 1 = .ok (.istore_n 2, 1) := by decide +kernel
theorem dX7_fits_2 : decode cX7_fits 2 = .ok (.iconst 1, 1) := by decide +kernel
theorem dX7_fits_3 : decode cX7_fits 3 = .ok (.istore_n 3, 1) := by decide +kernel
theorem dX7_fits_4 : decode cX7_fits 4 = .ok (.iload_n 3, 1) := by decide +kernel
theorem dX7_fits_5 : decode cX7_fits 5 = .ok (.bipush 9, 2) := by decide +kernel
theorem dX7_fits_7 : decode cX7_fits 7 = .ok (.if_icmp .gt 26, 3) := by decide +kernel
theorem dX7_fits_10 : decode cX7_fits 10 = .ok (.iload_n 2, 1) := by decide +kernel
theorem dX7_fits_11 : decode cX7_fits 11 = .ok (.aload_n 0, 1) := by decide +kernel
theorem dX7_fits_12 : decode cX7_fits 12 = .ok (.iload_n 1, 1) := by decide +kernel
theorem dX7_fits_13 : decode cX7_fits 13 = .ok (.iload_n 3, 1) := by decide +kernel
theorem dX7_fits_14 : decode cX7_fits 14 = .ok (.invokevirtual 53, 3) := by decide +kernel
theorem dX7_fits_17 : decode cX7_fits 17 = .ok (.ifCond .eq 7, 3) := by decide +kernel
theorem dX7_fits_20 : decode cX7_fits 20 = .ok (.iconst 1, 1) := by decide +kernel
theorem dX7_fits_21 : decode cX7_fits 21 = .ok (.goto 4, 3) := by decide +kernel
theorem dX7_fits_24 : decode cX7_fits 24 = .ok (.iconst 0, 1) := by decide +kernel
theorem dX7_fits_25 : decode cX7_fits 25 = .ok (.iadd, 1) := by decide +kernel
theorem dX7_fits_26 : decode cX7_fits 26 = .ok (.istore_n 2, 1) := by decide +kernel
theorem dX7_fits_27 : decode cX7_fits 27 = .ok (.iinc 3 1, 3) := by decide +kernel
theorem dX7_fits_30 : decode cX7_fits 30 = .ok (.goto (-26), 3) := by decide +kernel
theorem dX7_fits_33 : decode cX7_fits 33 = .ok (.iload_n 2, 1) := by decide +kernel
theorem dX7_fits_34 : decode cX7_fits 34 = .ok (.ireturn, 1) := by decide +kernel
theorem dX7_leastFit_0 : decode cX7_leastFit 0 = .ok (.iconst 1, 1) := by decide +kernel
theorem dX7_leastFit_1 : decode cX7_leastFit 1 = .ok (.istore_n 2, 1) := by decide +kernel
theorem dX7_leastFit_2 : decode cX7_leastFit 2 = .ok (.iload_n 2, 1) := by decide +kernel
theorem dX7_leastFit_3 : decode cX7_leastFit 3 = .ok (.bipush 9, 2) := by decide +kernel
theorem dX7_leastFit_5 : decode cX7_leastFit 5 = .ok (.if_icmp .gt 20, 3) := by decide +kernel
theorem dX7_leastFit_8 : decode cX7_leastFit 8 = .ok (.aload_n 0, 1) := by decide +kernel
theorem dX7_leastFit_9 : decode cX7_leastFit 9 = .ok (.iload_n 1, 1) := by decide +kernel
theorem dX7_leastFit_10 : decode cX7_leastFit 10 = .ok (.iload_n 2, 1) := by decide +kernel
theorem dX7_leastFit_11 : decode cX7_leastFit 11 = .ok (.invokevirtual 53, 3) := by decide +kernel
theorem dX7_leastFit_14 : decode cX7_leastFit 14 = .ok (.ifCond .eq 5, 3) := by decide +kernel
theorem dX7_leastFit_17 : decode cX7_leastFit 17 = .ok (.iload_n 2, 1) := by decide +kernel
theorem dX7_leastFit_18 : decode cX7_leastFit 18 = .ok (.ireturn, 1) := by decide +kernel
theorem dX7_leastFit_19 : decode cX7_leastFit 19 = .ok (.iinc 2 1, 3) := by decide +kernel
theorem dX7_leastFit_22 : decode cX7_leastFit 22 = .ok (.goto (-20), 3) := by decide +kernel
theorem dX7_leastFit_25 : decode cX7_leastFit 25 = .ok (.iconst (-1), 1) := by decide +kernel
theorem dX7_leastFit_26 : decode cX7_leastFit 26 = .ok (.ireturn, 1) := by decide +kernel
theorem dX7_fitsBy_0 : decode cX7_fitsBy 0 = .ok (.aload_n 0, 1) := by decide +kernel
theorem dX7_fitsBy_1 : decode cX7_fitsBy 1 = .ok (.getfield 9, 3) := by decide +kernel
theorem dX7_fitsBy_4 : decode cX7_fitsBy 4 = .ok (.getfield 56, 3) := by decide +kernel
theorem dX7_fitsBy_7 : decode cX7_fitsBy 7 = .ok (.getfield 60, 3) := by decide +kernel
theorem dX7_fitsBy_10 : decode cX7_fitsBy 10 = .ok (.astore_n 3, 1) := by decide +kernel
theorem dX7_fitsBy_11 : decode cX7_fitsBy 11 = .ok (.iconst 1, 1) := by decide +kernel
theorem dX7_fitsBy_12 : decode cX7_fitsBy 12 = .ok (.istore 4, 2) := by decide +kernel
theorem dX7_fitsBy_14 : decode cX7_fitsBy 14 = .ok (.aload_n 0, 1) := by decide +kernel
theorem dX7_fitsBy_15 : decode cX7_fitsBy 15 = .ok (.getfield 30, 3) := by decide +kernel
theorem dX7_fitsBy_18 : decode cX7_fitsBy 18 = .ok (.iload_n 1, 1) := by decide +kernel
theorem dX7_fitsBy_19 : decode cX7_fitsBy 19 = .ok (.iload_n 2, 1) := by decide +kernel
theorem dX7_fitsBy_20 : decode cX7_fitsBy 20 = .ok (.invokevirtual 65, 3) := by decide +kernel
theorem dX7_fitsBy_23 : decode cX7_fitsBy 23 = .ok (.iconst 0, 1) := by decide +kernel
theorem dX7_fitsBy_24 : decode cX7_fitsBy 24 = .ok (.istore 5, 2) := by decide +kernel
theorem dX7_fitsBy_26 : decode cX7_fitsBy 26 = .ok (.iload 5, 2) := by decide +kernel
theorem dX7_fitsBy_28 : decode cX7_fitsBy 28 = .ok (.aload_n 3, 1) := by decide +kernel
theorem dX7_fitsBy_29 : decode cX7_fitsBy 29 = .ok (.iconst 4, 1) := by decide +kernel
theorem dX7_fitsBy_30 : decode cX7_fitsBy 30 = .ok (.iaload, 1) := by decide +kernel
theorem dX7_fitsBy_31 : decode cX7_fitsBy 31 = .ok (.if_icmp .ge 34, 3) := by decide +kernel
theorem dX7_fitsBy_34 : decode cX7_fitsBy 34 = .ok (.iload 4, 2) := by decide +kernel
theorem dX7_fitsBy_36 : decode cX7_fitsBy 36 = .ok (.ifCond .eq 29, 3) := by decide +kernel
theorem dX7_fitsBy_39 : decode cX7_fitsBy 39 = .ok (.aload_n 0, 1) := by decide +kernel
theorem dX7_fitsBy_40 : decode cX7_fitsBy 40 = .ok (.aload_n 3, 1) := by decide +kernel
theorem dX7_fitsBy_41 : decode cX7_fitsBy 41 = .ok (.bipush 15, 2) := by decide +kernel
theorem dX7_fitsBy_43 : decode cX7_fitsBy 43 = .ok (.iload 5, 2) := by decide +kernel
theorem dX7_fitsBy_45 : decode cX7_fitsBy 45 = .ok (.iadd, 1) := by decide +kernel
theorem dX7_fitsBy_46 : decode cX7_fitsBy 46 = .ok (.iaload, 1) := by decide +kernel
theorem dX7_fitsBy_47 : decode cX7_fitsBy 47 = .ok (.aload_n 3, 1) := by decide +kernel
theorem dX7_fitsBy_48 : decode cX7_fitsBy 48 = .ok (.bipush 23, 2) := by decide +kernel
theorem dX7_fitsBy_50 : decode cX7_fitsBy 50 = .ok (.iload 5, 2) := by decide +kernel
theorem dX7_fitsBy_52 : decode cX7_fitsBy 52 = .ok (.iadd, 1) := by decide +kernel
theorem dX7_fitsBy_53 : decode cX7_fitsBy 53 = .ok (.iaload, 1) := by decide +kernel
theorem dX7_fitsBy_54 : decode cX7_fitsBy 54 = .ok (.invokevirtual 69, 3) := by decide +kernel
theorem dX7_fitsBy_57 : decode cX7_fitsBy 57 = .ok (.istore 4, 2) := by decide +kernel
theorem dX7_fitsBy_59 : decode cX7_fitsBy 59 = .ok (.iinc 5 1, 3) := by decide +kernel
theorem dX7_fitsBy_62 : decode cX7_fitsBy 62 = .ok (.goto (-36), 3) := by decide +kernel
theorem dX7_fitsBy_65 : decode cX7_fitsBy 65 = .ok (.aload_n 0, 1) := by decide +kernel
theorem dX7_fitsBy_66 : decode cX7_fitsBy 66 = .ok (.getfield 30, 3) := by decide +kernel
theorem dX7_fitsBy_69 : decode cX7_fitsBy 69 = .ok (.invokevirtual 72, 3) := by decide +kernel
theorem dX7_fitsBy_72 : decode cX7_fitsBy 72 = .ok (.iload 4, 2) := by decide +kernel
theorem dX7_fitsBy_74 : decode cX7_fitsBy 74 = .ok (.ireturn, 1) := by decide +kernel
theorem dX7_meetings_0 : decode cX7_meetings 0 = .ok (.iconst 0, 1) := by decide +kernel
theorem dX7_meetings_1 : decode cX7_meetings 1 = .ok (.istore_n 1, 1) := by decide +kernel
theorem dX7_meetings_2 : decode cX7_meetings 2 = .ok (.iconst 0, 1) := by decide +kernel
theorem dX7_meetings_3 : decode cX7_meetings 3 = .ok (.istore_n 2, 1) := by decide +kernel
theorem dX7_meetings_4 : decode cX7_meetings 4 = .ok (.iload_n 2, 1) := by decide +kernel
theorem dX7_meetings_5 : decode cX7_meetings 5 = .ok (.aload_n 0, 1) := by decide +kernel
theorem dX7_meetings_6 : decode cX7_meetings 6 = .ok (.getfield 9, 3) := by decide +kernel
theorem dX7_meetings_9 : decode cX7_meetings 9 = .ok (.getfield 56, 3) := by decide +kernel
theorem dX7_meetings_12 : decode cX7_meetings 12 = .ok (.getfield 60, 3) := by decide +kernel
theorem dX7_meetings_15 : decode cX7_meetings 15 = .ok (.iconst 4, 1) := by decide +kernel
theorem dX7_meetings_16 : decode cX7_meetings 16 = .ok (.iaload, 1) := by decide +kernel
theorem dX7_meetings_17 : decode cX7_meetings 17 = .ok (.if_icmp .ge 84, 3) := by decide +kernel
theorem dX7_meetings_20 : decode cX7_meetings 20 = .ok (.aload_n 0, 1) := by decide +kernel
theorem dX7_meetings_21 : decode cX7_meetings 21 = .ok (.getfield 21, 3) := by decide +kernel
theorem dX7_meetings_24 : decode cX7_meetings 24 = .ok (.getfield 49, 3) := by decide +kernel
theorem dX7_meetings_27 : decode cX7_meetings 27 = .ok (.aload_n 0, 1) := by decide +kernel
theorem dX7_meetings_28 : decode cX7_meetings 28 = .ok (.iload_n 2, 1) := by decide +kernel
theorem dX7_meetings_29 : decode cX7_meetings 29 = .ok (.invokevirtual 75, 3) := by decide +kernel
theorem dX7_meetings_32 : decode cX7_meetings 32 = .ok (.iaload, 1) := by decide +kernel
theorem dX7_meetings_33 : decode cX7_meetings 33 = .ok (.istore_n 3, 1) := by decide +kernel
theorem dX7_meetings_34 : decode cX7_meetings 34 = .ok (.iconst 0, 1) := by decide +kernel
theorem dX7_meetings_35 : decode cX7_meetings 35 = .ok (.istore 4, 2) := by decide +kernel
theorem dX7_meetings_37 : decode cX7_meetings 37 = .ok (.iload 4, 2) := by decide +kernel
theorem dX7_meetings_39 : decode cX7_meetings 39 = .ok (.iload_n 3, 1) := by decide +kernel
theorem dX7_meetings_40 : decode cX7_meetings 40 = .ok (.if_icmp .ge 55, 3) := by decide +kernel
theorem dX7_meetings_43 : decode cX7_meetings 43 = .ok (.iconst 0, 1) := by decide +kernel
theorem dX7_meetings_44 : decode cX7_meetings 44 = .ok (.istore 5, 2) := by decide +kernel
theorem dX7_meetings_46 : decode cX7_meetings 46 = .ok (.iload 5, 2) := by decide +kernel
theorem dX7_meetings_48 : decode cX7_meetings 48 = .ok (.aload_n 0, 1) := by decide +kernel
theorem dX7_meetings_49 : decode cX7_meetings 49 = .ok (.getfield 9, 3) := by decide +kernel
theorem dX7_meetings_52 : decode cX7_meetings 52 = .ok (.getfield 56, 3) := by decide +kernel
theorem dX7_meetings_55 : decode cX7_meetings 55 = .ok (.getfield 60, 3) := by decide +kernel
theorem dX7_meetings_58 : decode cX7_meetings 58 = .ok (.iconst 4, 1) := by decide +kernel
theorem dX7_meetings_59 : decode cX7_meetings 59 = .ok (.iaload, 1) := by decide +kernel
theorem dX7_meetings_60 : decode cX7_meetings 60 = .ok (.if_icmp .ge 29, 3) := by decide +kernel
theorem dX7_meetings_63 : decode cX7_meetings 63 = .ok (.iload_n 1, 1) := by decide +kernel
theorem dX7_meetings_64 : decode cX7_meetings 64 = .ok (.aload_n 0, 1) := by decide +kernel
theorem dX7_meetings_65 : decode cX7_meetings 65 = .ok (.iload_n 2, 1) := by decide +kernel
theorem dX7_meetings_66 : decode cX7_meetings 66 = .ok (.iload 4, 2) := by decide +kernel
theorem dX7_meetings_68 : decode cX7_meetings 68 = .ok (.iload 5, 2) := by decide +kernel
theorem dX7_meetings_70 : decode cX7_meetings 70 = .ok (.invokevirtual 79, 3) := by decide +kernel
theorem dX7_meetings_73 : decode cX7_meetings 73 = .ok (.ifCond .eq 7, 3) := by decide +kernel
theorem dX7_meetings_76 : decode cX7_meetings 76 = .ok (.iconst 1, 1) := by decide +kernel
theorem dX7_meetings_77 : decode cX7_meetings 77 = .ok (.goto 4, 3) := by decide +kernel
theorem dX7_meetings_80 : decode cX7_meetings 80 = .ok (.iconst 0, 1) := by decide +kernel
theorem dX7_meetings_81 : decode cX7_meetings 81 = .ok (.iadd, 1) := by decide +kernel
theorem dX7_meetings_82 : decode cX7_meetings 82 = .ok (.istore_n 1, 1) := by decide +kernel
theorem dX7_meetings_83 : decode cX7_meetings 83 = .ok (.iinc 5 1, 3) := by decide +kernel
theorem dX7_meetings_86 : decode cX7_meetings 86 = .ok (.goto (-40), 3) := by decide +kernel
theorem dX7_meetings_89 : decode cX7_meetings 89 = .ok (.iinc 4 1, 3) := by decide +kernel
theorem dX7_meetings_92 : decode cX7_meetings 92 = .ok (.goto (-55), 3) := by decide +kernel
theorem dX7_meetings_95 : decode cX7_meetings 95 = .ok (.iinc 2 1, 3) := by decide +kernel
theorem dX7_meetings_98 : decode cX7_meetings 98 = .ok (.goto (-94), 3) := by decide +kernel
theorem dX7_meetings_101 : decode cX7_meetings 101 = .ok (.iload_n 1, 1) := by decide +kernel
theorem dX7_meetings_102 : decode cX7_meetings 102 = .ok (.ireturn, 1) := by decide +kernel
theorem dX7_firstMeeting_0 : decode cX7_firstMeeting 0 = .ok (.iconst 0, 1) := by decide +kernel
theorem dX7_firstMeeting_1 : decode cX7_firstMeeting 1 = .ok (.istore_n 1, 1) := by decide +kernel
theorem dX7_firstMeeting_2 : decode cX7_firstMeeting 2 = .ok (.iload_n 1, 1) := by decide +kernel
theorem dX7_firstMeeting_3 : decode cX7_firstMeeting 3 = .ok (.aload_n 0, 1) := by decide +kernel
theorem dX7_firstMeeting_4 : decode cX7_firstMeeting 4 = .ok (.getfield 9, 3) := by decide +kernel
theorem dX7_firstMeeting_7 : decode cX7_firstMeeting 7 = .ok (.getfield 56, 3) := by decide +kernel
theorem dX7_firstMeeting_10 : decode cX7_firstMeeting 10 = .ok (.getfield 60, 3) := by decide +kernel
theorem dX7_firstMeeting_13 : decode cX7_firstMeeting 13 = .ok (.iconst 4, 1) := by decide +kernel
theorem dX7_firstMeeting_14 : decode cX7_firstMeeting 14 = .ok (.iaload, 1) := by decide +kernel
theorem dX7_firstMeeting_15 : decode cX7_firstMeeting 15 = .ok (.if_icmp .ge 87, 3) := by decide +kernel
theorem dX7_firstMeeting_18 : decode cX7_firstMeeting 18 = .ok (.aload_n 0, 1) := by decide +kernel
theorem dX7_firstMeeting_19 : decode cX7_firstMeeting 19 = .ok (.getfield 21, 3) := by decide +kernel
theorem dX7_firstMeeting_22 : decode cX7_firstMeeting 22 = .ok (.getfield 49, 3) := by decide +kernel
theorem dX7_firstMeeting_25 : decode cX7_firstMeeting 25 = .ok (.aload_n 0, 1) := by decide +kernel
theorem dX7_firstMeeting_26 : decode cX7_firstMeeting 26 = .ok (.iload_n 1, 1) := by decide +kernel
theorem dX7_firstMeeting_27 : decode cX7_firstMeeting 27 = .ok (.invokevirtual 75, 3) := by decide +kernel
theorem dX7_firstMeeting_30 : decode cX7_firstMeeting 30 = .ok (.iaload, 1) := by decide +kernel
theorem dX7_firstMeeting_31 : decode cX7_firstMeeting 31 = .ok (.istore_n 2, 1) := by decide +kernel
theorem dX7_firstMeeting_32 : decode cX7_firstMeeting 32 = .ok (.iconst 0, 1) := by decide +kernel
theorem dX7_firstMeeting_33 : decode cX7_firstMeeting 33 = .ok (.istore_n 3, 1) := by decide +kernel
theorem dX7_firstMeeting_34 : decode cX7_firstMeeting 34 = .ok (.iload_n 3, 1) := by decide +kernel
theorem dX7_firstMeeting_35 : decode cX7_firstMeeting 35 = .ok (.iload_n 2, 1) := by decide +kernel
theorem dX7_firstMeeting_36 : decode cX7_firstMeeting 36 = .ok (.if_icmp .ge 60, 3) := by decide +kernel
theorem dX7_firstMeeting_39 : decode cX7_firstMeeting 39 = .ok (.iconst 0, 1) := by decide +kernel
theorem dX7_firstMeeting_40 : decode cX7_firstMeeting 40 = .ok (.istore 4, 2) := by decide +kernel
theorem dX7_firstMeeting_42 : decode cX7_firstMeeting 42 = .ok (.iload 4, 2) := by decide +kernel
theorem dX7_firstMeeting_44 : decode cX7_firstMeeting 44 = .ok (.aload_n 0, 1) := by decide +kernel
theorem dX7_firstMeeting_45 : decode cX7_firstMeeting 45 = .ok (.getfield 9, 3) := by decide +kernel
theorem dX7_firstMeeting_48 : decode cX7_firstMeeting 48 = .ok (.getfield 56, 3) := by decide +kernel
theorem dX7_firstMeeting_51 : decode cX7_firstMeeting 51 = .ok (.getfield 60, 3) := by decide +kernel
theorem dX7_firstMeeting_54 : decode cX7_firstMeeting 54 = .ok (.iconst 4, 1) := by decide +kernel
theorem dX7_firstMeeting_55 : decode cX7_firstMeeting 55 = .ok (.iaload, 1) := by decide +kernel
theorem dX7_firstMeeting_56 : decode cX7_firstMeeting 56 = .ok (.if_icmp .ge 34, 3) := by decide +kernel
theorem dX7_firstMeeting_59 : decode cX7_firstMeeting 59 = .ok (.aload_n 0, 1) := by decide +kernel
theorem dX7_firstMeeting_60 : decode cX7_firstMeeting 60 = .ok (.iload_n 1, 1) := by decide +kernel
theorem dX7_firstMeeting_61 : decode cX7_firstMeeting 61 = .ok (.iload_n 3, 1) := by decide +kernel
theorem dX7_firstMeeting_62 : decode cX7_firstMeeting 62 = .ok (.iload 4, 2) := by decide +kernel
theorem dX7_firstMeeting_64 : decode cX7_firstMeeting 64 = .ok (.invokevirtual 79, 3) := by decide +kernel
theorem dX7_firstMeeting_67 : decode cX7_firstMeeting 67 = .ok (.ifCond .eq 17, 3) := by decide +kernel
theorem dX7_firstMeeting_70 : decode cX7_firstMeeting 70 = .ok (.sipush 1000, 3) := by decide +kernel
theorem dX7_firstMeeting_73 : decode cX7_firstMeeting 73 = .ok (.iload_n 1, 1) := by decide +kernel
theorem dX7_firstMeeting_74 : decode cX7_firstMeeting 74 = .ok (.imul, 1) := by decide +kernel
theorem dX7_firstMeeting_75 : decode cX7_firstMeeting 75 = .ok (.bipush 10, 2) := by decide +kernel
theorem dX7_firstMeeting_77 : decode cX7_firstMeeting 77 = .ok (.iload_n 3, 1) := by decide +kernel
theorem dX7_firstMeeting_78 : decode cX7_firstMeeting 78 = .ok (.imul, 1) := by decide +kernel
theorem dX7_firstMeeting_79 : decode cX7_firstMeeting 79 = .ok (.iadd, 1) := by decide +kernel
theorem dX7_firstMeeting_80 : decode cX7_firstMeeting 80 = .ok (.iload 4, 2) := by decide +kernel
theorem dX7_firstMeeting_82 : decode cX7_firstMeeting 82 = .ok (.iadd, 1) := by decide +kernel
theorem dX7_firstMeeting_83 : decode cX7_firstMeeting 83 = .ok (.ireturn, 1) := by decide +kernel
theorem dX7_firstMeeting_84 : decode cX7_firstMeeting 84 = .ok (.iinc 4 1, 3) := by decide +kernel
theorem dX7_firstMeeting_87 : decode cX7_firstMeeting 87 = .ok (.goto (-45), 3) := by decide +kernel
theorem dX7_firstMeeting_90 : decode cX7_firstMeeting 90 = .ok (.iinc 3 1, 3) := by decide +kernel
theorem dX7_firstMeeting_93 : decode cX7_firstMeeting 93 = .ok (.goto (-59), 3) := by decide +kernel
theorem dX7_firstMeeting_96 : decode cX7_firstMeeting 96 = .ok (.iinc 1 1, 3) := by decide +kernel
theorem dX7_firstMeeting_99 : decode cX7_firstMeeting 99 = .ok (.goto (-97), 3) := by decide +kernel
theorem dX7_firstMeeting_102 : decode cX7_firstMeeting 102 = .ok (.iconst (-1), 1) := by decide +kernel
theorem dX7_firstMeeting_103 : decode cX7_firstMeeting 103 = .ok (.ireturn, 1) := by decide +kernel
theorem dX7_leftOf_0 : decode cX7_leftOf 0 = .ok (.aload_n 0, 1) := by decide +kernel
theorem dX7_leftOf_1 : decode cX7_leftOf 1 = .ok (.getfield 9, 3) := by decide +kernel
theorem dX7_leftOf_4 : decode cX7_leftOf 4 = .ok (.getfield 56, 3) := by decide +kernel
theorem dX7_leftOf_7 : decode cX7_leftOf 7 = .ok (.getfield 60, 3) := by decide +kernel
theorem dX7_leftOf_10 : decode cX7_leftOf 10 = .ok (.bipush 15, 2) := by decide +kernel
theorem dX7_leftOf_12 : decode cX7_leftOf 12 = .ok (.iload_n 1, 1) := by decide +kernel
theorem dX7_leftOf_13 : decode cX7_leftOf 13 = .ok (.iadd, 1) := by decide +kernel
theorem dX7_leftOf_14 : decode cX7_leftOf 14 = .ok (.iaload, 1) := by decide +kernel
theorem dX7_leftOf_15 : decode cX7_leftOf 15 = .ok (.ireturn, 1) := by decide +kernel
theorem dX7_meet_0 : decode cX7_meet 0 = .ok (.iload_n 1, 1) := by decide +kernel
theorem dX7_meet_1 : decode cX7_meet 1 = .ok (.iload_n 3, 1) := by decide +kernel
theorem dX7_meet_2 : decode cX7_meet 2 = .ok (.if_icmp .ne 9, 3) := by decide +kernel
theorem dX7_meet_5 : decode cX7_meet 5 = .ok (.iload_n 2, 1) := by decide +kernel
theorem dX7_meet_6 : decode cX7_meet 6 = .ok (.ifCond .ne 5, 3) := by decide +kernel
theorem dX7_meet_9 : decode cX7_meet 9 = .ok (.iconst 0, 1) := by decide +kernel
theorem dX7_meet_10 : decode cX7_meet 10 = .ok (.ireturn, 1) := by decide +kernel
theorem dX7_meet_11 : decode cX7_meet 11 = .ok (.aload_n 0, 1) := by decide +kernel
theorem dX7_meet_12 : decode cX7_meet 12 = .ok (.getfield 21, 3) := by decide +kernel
theorem dX7_meet_15 : decode cX7_meet 15 = .ok (.aload_n 0, 1) := by decide +kernel
theorem dX7_meet_16 : decode cX7_meet 16 = .ok (.iload_n 1, 1) := by decide +kernel
theorem dX7_meet_17 : decode cX7_meet 17 = .ok (.invokevirtual 75, 3) := by decide +kernel
theorem dX7_meet_20 : decode cX7_meet 20 = .ok (.iload_n 2, 1) := by decide +kernel
theorem dX7_meet_21 : decode cX7_meet 21 = .ok (.invokevirtual 83, 3) := by decide +kernel
theorem dX7_meet_24 : decode cX7_meet 24 = .ok (.istore 4, 2) := by decide +kernel
theorem dX7_meet_26 : decode cX7_meet 26 = .ok (.aload_n 0, 1) := by decide +kernel
theorem dX7_meet_27 : decode cX7_meet 27 = .ok (.getfield 21, 3) := by decide +kernel
theorem dX7_meet_30 : decode cX7_meet 30 = .ok (.iload 4, 2) := by decide +kernel
theorem dX7_meet_32 : decode cX7_meet 32 = .ok (.invokevirtual 46, 3) := by decide +kernel
theorem dX7_meet_35 : decode cX7_meet 35 = .ok (.ifCond .ne 28, 3) := by decide +kernel
theorem dX7_meet_38 : decode cX7_meet 38 = .ok (.aload_n 0, 1) := by decide +kernel
theorem dX7_meet_39 : decode cX7_meet 39 = .ok (.getfield 26, 3) := by decide +kernel
theorem dX7_meet_42 : decode cX7_meet 42 = .ok (.iload 4, 2) := by decide +kernel
theorem dX7_meet_44 : decode cX7_meet 44 = .ok (.aload_n 0, 1) := by decide +kernel
theorem dX7_meet_45 : decode cX7_meet 45 = .ok (.iload_n 3, 1) := by decide +kernel
theorem dX7_meet_46 : decode cX7_meet 46 = .ok (.invokevirtual 75, 3) := by decide +kernel
theorem dX7_meet_49 : decode cX7_meet 49 = .ok (.sipush 400, 3) := by decide +kernel
theorem dX7_meet_52 : decode cX7_meet 52 = .ok (.invokevirtual 89, 3) := by decide +kernel
theorem dX7_meet_55 : decode cX7_meet 55 = .ok (.iconst 1, 1) := by decide +kernel
theorem dX7_meet_56 : decode cX7_meet 56 = .ok (.if_icmp .ne 7, 3) := by decide +kernel
theorem dX7_meet_59 : decode cX7_meet 59 = .ok (.iconst 1, 1) := by decide +kernel
theorem dX7_meet_60 : decode cX7_meet 60 = .ok (.goto 4, 3) := by decide +kernel
theorem dX7_meet_63 : decode cX7_meet 63 = .ok (.iconst 0, 1) := by decide +kernel
theorem dX7_meet_64 : decode cX7_meet 64 = .ok (.ireturn, 1) := by decide +kernel
theorem dX7_found_0 : decode cX7_found 0 = .ok (.aload_n 0, 1) := by decide +kernel
theorem dX7_found_1 : decode cX7_found 1 = .ok (.getfield 9, 3) := by decide +kernel
theorem dX7_found_4 : decode cX7_found 4 = .ok (.getfield 56, 3) := by decide +kernel
theorem dX7_found_7 : decode cX7_found 7 = .ok (.getfield 60, 3) := by decide +kernel
theorem dX7_found_10 : decode cX7_found 10 = .ok (.astore_n 3, 1) := by decide +kernel
theorem dX7_found_11 : decode cX7_found 11 = .ok (.iconst 0, 1) := by decide +kernel
theorem dX7_found_12 : decode cX7_found 12 = .ok (.istore 4, 2) := by decide +kernel
theorem dX7_found_14 : decode cX7_found 14 = .ok (.iconst 0, 1) := by decide +kernel
theorem dX7_found_15 : decode cX7_found 15 = .ok (.istore 5, 2) := by decide +kernel
theorem dX7_found_17 : decode cX7_found 17 = .ok (.iload 5, 2) := by decide +kernel
theorem dX7_found_19 : decode cX7_found 19 = .ok (.aload_n 3, 1) := by decide +kernel
theorem dX7_found_20 : decode cX7_found 20 = .ok (.iconst 5, 1) := by decide +kernel
theorem dX7_found_21 : decode cX7_found 21 = .ok (.iaload, 1) := by decide +kernel
theorem dX7_found_22 : decode cX7_found 22 = .ok (.if_icmp .ge 34, 3) := by decide +kernel
theorem dX7_found_25 : decode cX7_found 25 = .ok (.aload_n 0, 1) := by decide +kernel
theorem dX7_found_26 : decode cX7_found 26 = .ok (.aload_n 3, 1) := by decide +kernel
theorem dX7_found_27 : decode cX7_found 27 = .ok (.bipush 31, 2) := by decide +kernel
theorem dX7_found_29 : decode cX7_found 29 = .ok (.iload 5, 2) := by decide +kernel
theorem dX7_found_31 : decode cX7_found 31 = .ok (.iadd, 1) := by decide +kernel
theorem dX7_found_32 : decode cX7_found 32 = .ok (.iaload, 1) := by decide +kernel
theorem dX7_found_33 : decode cX7_found 33 = .ok (.iload_n 1, 1) := by decide +kernel
theorem dX7_found_34 : decode cX7_found 34 = .ok (.iload_n 2, 1) := by decide +kernel
theorem dX7_found_35 : decode cX7_found 35 = .ok (.invokevirtual 93, 3) := by decide +kernel
theorem dX7_found_38 : decode cX7_found 38 = .ok (.ifCond .eq 12, 3) := by decide +kernel
theorem dX7_found_41 : decode cX7_found 41 = .ok (.iload 4, 2) := by decide +kernel
theorem dX7_found_43 : decode cX7_found 43 = .ok (.iconst 1, 1) := by decide +kernel
theorem dX7_found_44 : decode cX7_found 44 = .ok (.iload 5, 2) := by decide +kernel
theorem dX7_found_46 : decode cX7_found 46 = .ok (.ishl, 1) := by decide +kernel
theorem dX7_found_47 : decode cX7_found 47 = .ok (.ior, 1) := by decide +kernel
theorem dX7_found_48 : decode cX7_found 48 = .ok (.istore 4, 2) := by decide +kernel
theorem dX7_found_50 : decode cX7_found 50 = .ok (.iinc 5 1, 3) := by decide +kernel
theorem dX7_found_53 : decode cX7_found 53 = .ok (.goto (-36), 3) := by decide +kernel
theorem dX7_found_56 : decode cX7_found 56 = .ok (.iload 4, 2) := by decide +kernel
theorem dX7_found_58 : decode cX7_found 58 = .ok (.ireturn, 1) := by decide +kernel
theorem dX7_isFound_0 : decode cX7_isFound 0 = .ok (.iload_n 3, 1) := by decide +kernel
theorem dX7_isFound_1 : decode cX7_isFound 1 = .ok (.tableswitch 69 0 2 #[27, 37, 47], 27) := by decide +kernel
theorem dX7_isFound_28 : decode cX7_isFound 28 = .ok (.aload_n 0, 1) := by decide +kernel
theorem dX7_isFound_29 : decode cX7_isFound 29 = .ok (.getfield 22, 3) := by decide +kernel
theorem dX7_isFound_32 : decode cX7_isFound 32 = .ok (.iload_n 1, 1) := by decide +kernel
theorem dX7_isFound_33 : decode cX7_isFound 33 = .ok (.iload_n 2, 1) := by decide +kernel
theorem dX7_isFound_34 : decode cX7_isFound 34 = .ok (.invokevirtual 96, 3) := by decide +kernel
theorem dX7_isFound_37 : decode cX7_isFound 37 = .ok (.ireturn, 1) := by decide +kernel
theorem dX7_isFound_38 : decode cX7_isFound 38 = .ok (.aload_n 0, 1) := by decide +kernel
theorem dX7_isFound_39 : decode cX7_isFound 39 = .ok (.getfield 22, 3) := by decide +kernel
theorem dX7_isFound_42 : decode cX7_isFound 42 = .ok (.iload_n 2, 1) := by decide +kernel
theorem dX7_isFound_43 : decode cX7_isFound 43 = .ok (.iload_n 1, 1) := by decide +kernel
theorem dX7_isFound_44 : decode cX7_isFound 44 = .ok (.invokevirtual 96, 3) := by decide +kernel
theorem dX7_isFound_47 : decode cX7_isFound 47 = .ok (.ireturn, 1) := by decide +kernel
theorem dX7_isFound_48 : decode cX7_isFound 48 = .ok (.aload_n 0, 1) := by decide +kernel
theorem dX7_isFound_49 : decode cX7_isFound 49 = .ok (.getfield 26, 3) := by decide +kernel
theorem dX7_isFound_52 : decode cX7_isFound 52 = .ok (.iload_n 1, 1) := by decide +kernel
theorem dX7_isFound_53 : decode cX7_isFound 53 = .ok (.iload_n 2, 1) := by decide +kernel
theorem dX7_isFound_54 : decode cX7_isFound 54 = .ok (.sipush 400, 3) := by decide +kernel
theorem dX7_isFound_57 : decode cX7_isFound 57 = .ok (.invokevirtual 89, 3) := by decide +kernel
theorem dX7_isFound_60 : decode cX7_isFound 60 = .ok (.iconst 1, 1) := by decide +kernel
theorem dX7_isFound_61 : decode cX7_isFound 61 = .ok (.if_icmp .ne 7, 3) := by decide +kernel
theorem dX7_isFound_64 : decode cX7_isFound 64 = .ok (.iconst 1, 1) := by decide +kernel
theorem dX7_isFound_65 : decode cX7_isFound 65 = .ok (.goto 4, 3) := by decide +kernel
theorem dX7_isFound_68 : decode cX7_isFound 68 = .ok (.iconst 0, 1) := by decide +kernel
theorem dX7_isFound_69 : decode cX7_isFound 69 = .ok (.ireturn, 1) := by decide +kernel
theorem dX7_isFound_70 : decode cX7_isFound 70 = .ok (.aload_n 0, 1) := by decide +kernel
theorem dX7_isFound_71 : decode cX7_isFound 71 = .ok (.getfield 21, 3) := by decide +kernel
theorem dX7_isFound_74 : decode cX7_isFound 74 = .ok (.getfield 101, 3) := by decide +kernel
theorem dX7_isFound_77 : decode cX7_isFound 77 = .ok (.iload_n 1, 1) := by decide +kernel
theorem dX7_isFound_78 : decode cX7_isFound 78 = .ok (.iaload, 1) := by decide +kernel
theorem dX7_isFound_79 : decode cX7_isFound 79 = .ok (.aload_n 0, 1) := by decide +kernel
theorem dX7_isFound_80 : decode cX7_isFound 80 = .ok (.getfield 21, 3) := by decide +kernel
theorem dX7_isFound_83 : decode cX7_isFound 83 = .ok (.getfield 101, 3) := by decide +kernel
theorem dX7_isFound_86 : decode cX7_isFound 86 = .ok (.iload_n 2, 1) := by decide +kernel
theorem dX7_isFound_87 : decode cX7_isFound 87 = .ok (.iaload, 1) := by decide +kernel
theorem dX7_isFound_88 : decode cX7_isFound 88 = .ok (.if_icmp .ne 7, 3) := by decide +kernel
theorem dX7_isFound_91 : decode cX7_isFound 91 = .ok (.iconst 1, 1) := by decide +kernel
theorem dX7_isFound_92 : decode cX7_isFound 92 = .ok (.goto 4, 3) := by decide +kernel
theorem dX7_isFound_95 : decode cX7_isFound 95 = .ok (.iconst 0, 1) := by decide +kernel
theorem dX7_isFound_96 : decode cX7_isFound 96 = .ok (.ireturn, 1) := by decide +kernel
theorem dX7_firstRule_0 : decode cX7_firstRule 0 = .ok (.iconst 0, 1) := by decide +kernel
theorem dX7_firstRule_1 : decode cX7_firstRule 1 = .ok (.istore_n 3, 1) := by decide +kernel
theorem dX7_firstRule_2 : decode cX7_firstRule 2 = .ok (.iload_n 3, 1) := by decide +kernel
theorem dX7_firstRule_3 : decode cX7_firstRule 3 = .ok (.aload_n 0, 1) := by decide +kernel
theorem dX7_firstRule_4 : decode cX7_firstRule 4 = .ok (.getfield 60, 3) := by decide +kernel
theorem dX7_firstRule_7 : decode cX7_firstRule 7 = .ok (.iconst 4, 1) := by decide +kernel
theorem dX7_firstRule_8 : decode cX7_firstRule 8 = .ok (.iaload, 1) := by decide +kernel
theorem dX7_firstRule_9 : decode cX7_firstRule 9 = .ok (.if_icmp .ge 28, 3) := by decide +kernel
theorem dX7_firstRule_12 : decode cX7_firstRule 12 = .ok (.aload_n 1, 1) := by decide +kernel
theorem dX7_firstRule_13 : decode cX7_firstRule 13 = .ok (.aload_n 0, 1) := by decide +kernel
theorem dX7_firstRule_14 : decode cX7_firstRule 14 = .ok (.getfield 60, 3) := by decide +kernel
theorem dX7_firstRule_17 : decode cX7_firstRule 17 = .ok (.bipush 15, 2) := by decide +kernel
theorem dX7_firstRule_19 : decode cX7_firstRule 19 = .ok (.iload_n 3, 1) := by decide +kernel
theorem dX7_firstRule_20 : decode cX7_firstRule 20 = .ok (.iadd, 1) := by decide +kernel
theorem dX7_firstRule_21 : decode cX7_firstRule 21 = .ok (.iaload, 1) := by decide +kernel
theorem dX7_firstRule_22 : decode cX7_firstRule 22 = .ok (.iload_n 2, 1) := by decide +kernel
theorem dX7_firstRule_23 : decode cX7_firstRule 23 = .ok (.invokevirtual 96, 3) := by decide +kernel
theorem dX7_firstRule_26 : decode cX7_firstRule 26 = .ok (.ifCond .eq 5, 3) := by decide +kernel
theorem dX7_firstRule_29 : decode cX7_firstRule 29 = .ok (.iload_n 3, 1) := by decide +kernel
theorem dX7_firstRule_30 : decode cX7_firstRule 30 = .ok (.ireturn, 1) := by decide +kernel
theorem dX7_firstRule_31 : decode cX7_firstRule 31 = .ok (.iinc 3 1, 3) := by decide +kernel
theorem dX7_firstRule_34 : decode cX7_firstRule 34 = .ok (.goto (-32), 3) := by decide +kernel
theorem dX7_firstRule_37 : decode cX7_firstRule 37 = .ok (.iconst (-1), 1) := by decide +kernel
theorem dX7_firstRule_38 : decode cX7_firstRule 38 = .ok (.ireturn, 1) := by decide +kernel
theorem dX7_isReduced_0 : decode cX7_isReduced 0 = .ok (.aload_n 0, 1) := by decide +kernel
theorem dX7_isReduced_1 : decode cX7_isReduced 1 = .ok (.getfield 21, 3) := by decide +kernel
theorem dX7_isReduced_4 : decode cX7_isReduced 4 = .ok (.iload_n 1, 1) := by decide +kernel
theorem dX7_isReduced_5 : decode cX7_isReduced 5 = .ok (.invokevirtual 104, 3) := by decide +kernel
theorem dX7_isReduced_8 : decode cX7_isReduced 8 = .ok (.iconst 0, 1) := by decide +kernel
theorem dX7_isReduced_9 : decode cX7_isReduced 9 = .ok (.istore_n 2, 1) := by decide +kernel
theorem dX7_isReduced_10 : decode cX7_isReduced 10 = .ok (.iload_n 2, 1) := by decide +kernel
theorem dX7_isReduced_11 : decode cX7_isReduced 11 = .ok (.iload_n 1, 1) := by decide +kernel
theorem dX7_isReduced_12 : decode cX7_isReduced 12 = .ok (.if_icmp .gt 43, 3) := by decide +kernel
theorem dX7_isReduced_15 : decode cX7_isReduced 15 = .ok (.aload_n 0, 1) := by decide +kernel
theorem dX7_isReduced_16 : decode cX7_isReduced 16 = .ok (.getfield 21, 3) := by decide +kernel
theorem dX7_isReduced_19 : decode cX7_isReduced 19 = .ok (.getfield 108, 3) := by decide +kernel
theorem dX7_isReduced_22 : decode cX7_isReduced 22 = .ok (.iload_n 2, 1) := by decide +kernel
theorem dX7_isReduced_23 : decode cX7_isReduced 23 = .ok (.iaload, 1) := by decide +kernel
theorem dX7_isReduced_24 : decode cX7_isReduced 24 = .ok (.iconst 1, 1) := by decide +kernel
theorem dX7_isReduced_25 : decode cX7_isReduced 25 = .ok (.if_icmp .ne 24, 3) := by decide +kernel
theorem dX7_isReduced_28 : decode cX7_isReduced 28 = .ok (.aload_n 0, 1) := by decide +kernel
theorem dX7_isReduced_29 : decode cX7_isReduced 29 = .ok (.getfield 9, 3) := by decide +kernel
theorem dX7_isReduced_32 : decode cX7_isReduced 32 = .ok (.getfield 56, 3) := by decide +kernel
theorem dX7_isReduced_35 : decode cX7_isReduced 35 = .ok (.aload_n 0, 1) := by decide +kernel
theorem dX7_isReduced_36 : decode cX7_isReduced 36 = .ok (.getfield 22, 3) := by decide +kernel
theorem dX7_isReduced_39 : decode cX7_isReduced 39 = .ok (.iload_n 2, 1) := by decide +kernel
theorem dX7_isReduced_40 : decode cX7_isReduced 40 = .ok (.invokestatic 111, 3) := by decide +kernel
theorem dX7_isReduced_43 : decode cX7_isReduced 43 = .ok (.iconst (-1), 1) := by decide +kernel
theorem dX7_isReduced_44 : decode cX7_isReduced 44 = .ok (.if_icmp .eq 5, 3) := by decide +kernel
theorem dX7_isReduced_47 : decode cX7_isReduced 47 = .ok (.iconst 0, 1) := by decide +kernel
theorem dX7_isReduced_48 : decode cX7_isReduced 48 = .ok (.ireturn, 1) := by decide +kernel
theorem dX7_isReduced_49 : decode cX7_isReduced 49 = .ok (.iinc 2 1, 3) := by decide +kernel
theorem dX7_isReduced_52 : decode cX7_isReduced 52 = .ok (.goto (-42), 3) := by decide +kernel
theorem dX7_isReduced_55 : decode cX7_isReduced 55 = .ok (.iconst 1, 1) := by decide +kernel
theorem dX7_isReduced_56 : decode cX7_isReduced 56 = .ok (.ireturn, 1) := by decide +kernel
theorem dX8_init_0 : decode cX8_init 0 = .ok (.aload_n 0, 1) := by decide +kernel
theorem dX8_init_1 : decode cX8_init 1 = .ok (.invokespecial 3, 3) := by decide +kernel
theorem dX8_init_4 : decode cX8_init 4 = .ok (.aload_n 0, 1) := by decide +kernel
theorem dX8_init_5 : decode cX8_init 5 = .ok (.bipush 10, 2) := by decide +kernel
theorem dX8_init_7 : decode cX8_init 7 = .ok (.newarray .int, 2) := by decide +kernel
theorem dX8_init_9 : decode cX8_init 9 = .ok (.putfield 9, 3) := by decide +kernel
theorem dX8_init_12 : decode cX8_init 12 = .ok (.aload_n 0, 1) := by decide +kernel
theorem dX8_init_13 : decode cX8_init 13 = .ok (.bipush 10, 2) := by decide +kernel
theorem dX8_init_15 : decode cX8_init 15 = .ok (.newarray .int, 2) := by decide +kernel
theorem dX8_init_17 : decode cX8_init 17 = .ok (.putfield 15, 3) := by decide +kernel
theorem dX8_init_20 : decode cX8_init 20 = .ok (.aload_n 0, 1) := by decide +kernel
theorem dX8_init_21 : decode cX8_init 21 = .ok (.bipush 10, 2) := by decide +kernel
theorem dX8_init_23 : decode cX8_init 23 = .ok (.newarray .int, 2) := by decide +kernel
theorem dX8_init_25 : decode cX8_init 25 = .ok (.putfield 18, 3) := by decide +kernel
theorem dX8_init_28 : decode cX8_init 28 = .ok (.aload_n 0, 1) := by decide +kernel
theorem dX8_init_29 : decode cX8_init 29 = .ok (.iconst 0, 1) := by decide +kernel
theorem dX8_init_30 : decode cX8_init 30 = .ok (.putfield 21, 3) := by decide +kernel
theorem dX8_init_33 : decode cX8_init 33 = .ok (.return_, 1) := by decide +kernel
theorem dX8_has_0 : decode cX8_has 0 = .ok (.iload_n 1, 1) := by decide +kernel
theorem dX8_has_1 : decode cX8_has 1 = .ok (.ifCond .lt 15, 3) := by decide +kernel
theorem dX8_has_4 : decode cX8_has 4 = .ok (.iload_n 1, 1) := by decide +kernel
theorem dX8_has_5 : decode cX8_has 5 = .ok (.aload_n 0, 1) := by decide +kernel
theorem dX8_has_6 : decode cX8_has 6 = .ok (.getfield 21, 3) := by decide +kernel
theorem dX8_has_9 : decode cX8_has 9 = .ok (.if_icmp .ge 7, 3) := by decide +kernel
theorem dX8_has_12 : decode cX8_has 12 = .ok (.iconst 1, 1) := by decide +kernel
theorem dX8_has_13 : decode cX8_has 13 = .ok (.goto 4, 3) := by decide +kernel
theorem dX8_has_16 : decode cX8_has 16 = .ok (.iconst 0, 1) := by decide +kernel
theorem dX8_has_17 : decode cX8_has 17 = .ok (.ireturn, 1) := by decide +kernel
theorem dX8_empty_0 : decode cX8_empty 0 = .ok (.aload_n 0, 1) := by decide +kernel
theorem dX8_empty_1 : decode cX8_empty 1 = .ok (.iconst 0, 1) := by decide +kernel
theorem dX8_empty_2 : decode cX8_empty 2 = .ok (.putfield 21, 3) := by decide +kernel
theorem dX8_empty_5 : decode cX8_empty 5 = .ok (.return_, 1) := by decide +kernel
theorem dX8_add_0 : decode cX8_add 0 = .ok (.aload_n 0, 1) := by decide +kernel
theorem dX8_add_1 : decode cX8_add 1 = .ok (.getfield 21, 3) := by decide +kernel
theorem dX8_add_4 : decode cX8_add 4 = .ok (.bipush 10, 2) := by decide +kernel
theorem dX8_add_6 : decode cX8_add 6 = .ok (.if_icmp .ge 43, 3) := by decide +kernel
theorem dX8_add_9 : decode cX8_add 9 = .ok (.aload_n 0, 1) := by decide +kernel
theorem dX8_add_10 : decode cX8_add 10 = .ok (.getfield 9, 3) := by decide +kernel
theorem dX8_add_13 : decode cX8_add 13 = .ok (.aload_n 0, 1) := by decide +kernel
theorem dX8_add_14 : decode cX8_add 14 = .ok (.getfield 21, 3) := by decide +kernel
theorem dX8_add_17 : decode cX8_add 17 = .ok (.iload_n 1, 1) := by decide +kernel
theorem dX8_add_18 : decode cX8_add 18 = .ok (.iastore, 1) := by decide +kernel
theorem dX8_add_19 : decode cX8_add 19 = .ok (.aload_n 0, 1) := by decide +kernel
theorem dX8_add_20 : decode cX8_add 20 = .ok (.getfield 15, 3) := by decide +kernel
theorem dX8_add_23 : decode cX8_add 23 = .ok (.aload_n 0, 1) := by decide +kernel
theorem dX8_add_24 : decode cX8_add 24 = .ok (.getfield 21, 3) := by decide +kernel
theorem dX8_add_27 : decode cX8_add 27 = .ok (.iload_n 2, 1) := by decide +kernel
theorem dX8_add_28 : decode cX8_add 28 = .ok (.iastore, 1) := by decide +kernel
theorem dX8_add_29 : decode cX8_add 29 = .ok (.aload_n 0, 1) := by decide +kernel
theorem dX8_add_30 : decode cX8_add 30 = .ok (.getfield 18, 3) := by decide +kernel
theorem dX8_add_33 : decode cX8_add 33 = .ok (.aload_n 0, 1) := by decide +kernel
theorem dX8_add_34 : decode cX8_add 34 = .ok (.getfield 21, 3) := by decide +kernel
theorem dX8_add_37 : decode cX8_add 37 = .ok (.iload_n 3, 1) := by decide +kernel
theorem dX8_add_38 : decode cX8_add 38 = .ok (.iastore, 1) := by decide +kernel
theorem dX8_add_39 : decode cX8_add 39 = .ok (.aload_n 0, 1) := by decide +kernel
theorem dX8_add_40 : decode cX8_add 40 = .ok (.dup, 1) := by decide +kernel
theorem dX8_add_41 : decode cX8_add 41 = .ok (.getfield 21, 3) := by decide +kernel
theorem dX8_add_44 : decode cX8_add 44 = .ok (.iconst 1, 1) := by decide +kernel
theorem dX8_add_45 : decode cX8_add 45 = .ok (.iadd, 1) := by decide +kernel
theorem dX8_add_46 : decode cX8_add 46 = .ok (.putfield 21, 3) := by decide +kernel
theorem dX8_add_49 : decode cX8_add 49 = .ok (.return_, 1) := by decide +kernel
theorem dX8_named_0 : decode cX8_named 0 = .ok (.iconst 0, 1) := by decide +kernel
theorem dX8_named_1 : decode cX8_named 1 = .ok (.istore_n 2, 1) := by decide +kernel
theorem dX8_named_2 : decode cX8_named 2 = .ok (.iload_n 2, 1) := by decide +kernel
theorem dX8_named_3 : decode cX8_named 3 = .ok (.aload_n 0, 1) := by decide +kernel
theorem dX8_named_4 : decode cX8_named 4 = .ok (.getfield 21, 3) := by decide +kernel
theorem dX8_named_7 : decode cX8_named 7 = .ok (.if_icmp .ge 21, 3) := by decide +kernel
theorem dX8_named_10 : decode cX8_named 10 = .ok (.aload_n 0, 1) := by decide +kernel
theorem dX8_named_11 : decode cX8_named 11 = .ok (.getfield 9, 3) := by decide +kernel
theorem dX8_named_14 : decode cX8_named 14 = .ok (.iload_n 2, 1) := by decide +kernel
theorem dX8_named_15 : decode cX8_named 15 = .ok (.iaload, 1) := by decide +kernel
theorem dX8_named_16 : decode cX8_named 16 = .ok (.iload_n 1, 1) := by decide +kernel
theorem dX8_named_17 : decode cX8_named 17 = .ok (.if_icmp .ne 5, 3) := by decide +kernel
theorem dX8_named_20 : decode cX8_named 20 = .ok (.iload_n 2, 1) := by decide +kernel
theorem dX8_named_21 : decode cX8_named 21 = .ok (.ireturn, 1) := by decide +kernel
theorem dX8_named_22 : decode cX8_named 22 = .ok (.iinc 2 1, 3) := by decide +kernel
theorem dX8_named_25 : decode cX8_named 25 = .ok (.goto (-23), 3) := by decide +kernel
theorem dX8_named_28 : decode cX8_named 28 = .ok (.iconst (-1), 1) := by decide +kernel
theorem dX8_named_29 : decode cX8_named 29 = .ok (.ireturn, 1) := by decide +kernel
theorem dX8_takeFrom_0 : decode cX8_takeFrom 0 = .ok (.aload_n 1, 1) := by decide +kernel
theorem dX8_takeFrom_1 : decode cX8_takeFrom 1 = .ok (.getfield 9, 3) := by decide +kernel
theorem dX8_takeFrom_4 : decode cX8_takeFrom 4 = .ok (.iconst 0, 1) := by decide +kernel
theorem dX8_takeFrom_5 : decode cX8_takeFrom 5 = .ok (.aload_n 0, 1) := by decide +kernel
theorem dX8_takeFrom_6 : decode cX8_takeFrom 6 = .ok (.getfield 9, 3) := by decide +kernel
theorem dX8_takeFrom_9 : decode cX8_takeFrom 9 = .ok (.iconst 0, 1) := by decide +kernel
theorem dX8_takeFrom_10 : decode cX8_takeFrom 10 = .ok (.bipush 10, 2) := by decide +kernel
theorem dX8_takeFrom_12 : decode cX8_takeFrom 12 = .ok (.invokestatic 25, 3) := by decide +kernel
theorem dX8_takeFrom_15 : decode cX8_takeFrom 15 = .ok (.aload_n 1, 1) := by decide +kernel
theorem dX8_takeFrom_16 : decode cX8_takeFrom 16 = .ok (.getfield 15, 3) := by decide +kernel
theorem dX8_takeFrom_19 : decode cX8_takeFrom 19 = .ok (.iconst 0, 1) := by decide +kernel
theorem dX8_takeFrom_20 : decode cX8_takeFrom 20 = .ok (.aload_n 0, 1) := by decide +kernel
theorem dX8_takeFrom_21 : decode cX8_takeFrom 21 = .ok (.getfield 15, 3) := by decide +kernel
theorem dX8_takeFrom_24 : decode cX8_takeFrom 24 = .ok (.iconst 0, 1) := by decide +kernel
theorem dX8_takeFrom_25 : decode cX8_takeFrom 25 = .ok (.bipush 10, 2) := by decide +kernel
theorem dX8_takeFrom_27 : decode cX8_takeFrom 27 = .ok (.invokestatic 25, 3) := by decide +kernel
theorem dX8_takeFrom_30 : decode cX8_takeFrom 30 = .ok (.aload_n 1, 1) := by decide +kernel
theorem dX8_takeFrom_31 : decode cX8_takeFrom 31 = .ok (.getfield 18, 3) := by decide +kernel
theorem dX8_takeFrom_34 : decode cX8_takeFrom 34 = .ok (.iconst 0, 1) := by decide +kernel
theorem dX8_takeFrom_35 : decode cX8_takeFrom 35 = .ok (.aload_n 0, 1) := by decide +kernel
theorem dX8_takeFrom_36 : decode cX8_takeFrom 36 = .ok (.getfield 18, 3) := by decide +kernel
theorem dX8_takeFrom_39 : decode cX8_takeFrom 39 = .ok (.iconst 0, 1) := by decide +kernel
theorem dX8_takeFrom_40 : decode cX8_takeFrom 40 = .ok (.bipush 10, 2) := by decide +kernel
theorem dX8_takeFrom_42 : decode cX8_takeFrom 42 = .ok (.invokestatic 25, 3) := by decide +kernel
theorem dX8_takeFrom_45 : decode cX8_takeFrom 45 = .ok (.aload_n 0, 1) := by decide +kernel
theorem dX8_takeFrom_46 : decode cX8_takeFrom 46 = .ok (.aload_n 1, 1) := by decide +kernel
theorem dX8_takeFrom_47 : decode cX8_takeFrom 47 = .ok (.getfield 21, 3) := by decide +kernel
theorem dX8_takeFrom_50 : decode cX8_takeFrom 50 = .ok (.putfield 21, 3) := by decide +kernel
theorem dX8_takeFrom_53 : decode cX8_takeFrom 53 = .ok (.return_, 1) := by decide +kernel
end
section
theorem dX9_init_0 : decode cX9_init 0 = .ok (.aload_n 0, 1) := by decide +kernel
theorem dX9_init_1 : decode cX9_init 1 = .ok (.invokespecial 3, 3) := by decide +kernel
theorem dX9_init_4 : decode cX9_init 4 = .ok (.aload_n 0, 1) := by decide +kernel
theorem dX9_init_5 : decode cX9_init 5 = .ok (.sipush 401, 3) := by decide +kernel
theorem dX9_init_8 : decode cX9_init 8 = .ok (.newarray .int, 2) := by decide +kernel
theorem dX9_init_10 : decode cX9_init 10 = .ok (.putfield 11, 3) := by decide +kernel
theorem dX9_init_13 : decode cX9_init 13 = .ok (.aload_n 0, 1) := by decide +kernel
theorem dX9_init_14 : decode cX9_init 14 = .ok (.sipush 401, 3) := by decide +kernel
theorem dX9_init_17 : decode cX9_init 17 = .ok (.newarray .int, 2) := by decide +kernel
theorem dX9_init_19 : decode cX9_init 19 = .ok (.putfield 15, 3) := by decide +kernel
theorem dX9_init_22 : decode cX9_init 22 = .ok (.aload_n 0, 1) := by decide +kernel
theorem dX9_init_23 : decode cX9_init 23 = .ok (.sipush 1203, 3) := by decide +kernel
theorem dX9_init_26 : decode cX9_init 26 = .ok (.newarray .int, 2) := by decide +kernel
theorem dX9_init_28 : decode cX9_init 28 = .ok (.putfield 18, 3) := by decide +kernel
theorem dX9_init_31 : decode cX9_init 31 = .ok (.aload_n 0, 1) := by decide +kernel
theorem dX9_init_32 : decode cX9_init 32 = .ok (.sipush 401, 3) := by decide +kernel
theorem dX9_init_35 : decode cX9_init 35 = .ok (.newarray .int, 2) := by decide +kernel
theorem dX9_init_37 : decode cX9_init 37 = .ok (.putfield 21, 3) := by decide +kernel
theorem dX9_init_40 : decode cX9_init 40 = .ok (.aload_n 0, 1) := by decide +kernel
theorem dX9_init_41 : decode cX9_init 41 = .ok (.sipush 401, 3) := by decide +kernel
theorem dX9_init_44 : decode cX9_init 44 = .ok (.newarray .int, 2) := by decide +kernel
theorem dX9_init_46 : decode cX9_init 46 = .ok (.putfield 24, 3) := by decide +kernel
theorem dX9_init_49 : decode cX9_init 49 = .ok (.aload_n 0, 1) := by decide +kernel
theorem dX9_init_50 : decode cX9_init 50 = .ok (.sipush 401, 3) := by decide +kernel
theorem dX9_init_53 : decode cX9_init 53 = .ok (.newarray .int, 2) := by decide +kernel
theorem dX9_init_55 : decode cX9_init 55 = .ok (.putfield 27, 3) := by decide +kernel
theorem dX9_init_58 : decode cX9_init 58 = .ok (.aload_n 0, 1) := by decide +kernel
theorem dX9_init_59 : decode cX9_init 59 = .ok (.sipush 401, 3) := by decide +kernel
theorem dX9_init_62 : decode cX9_init 62 = .ok (.newarray .int, 2) := by decide +kernel
theorem dX9_init_64 : decode cX9_init 64 = .ok (.putfield 30, 3) := by decide +kernel
theorem dX9_init_67 : decode cX9_init 67 = .ok (.aload_n 0, 1) := by decide +kernel
theorem dX9_init_68 : decode cX9_init 68 = .ok (.sipush 401, 3) := by decide +kernel
theorem dX9_init_71 : decode cX9_init 71 = .ok (.newarray .int, 2) := by decide +kernel
theorem dX9_init_73 : decode cX9_init 73 = .ok (.putfield 33, 3) := by decide +kernel
theorem dX9_init_76 : decode cX9_init 76 = .ok (.aload_n 0, 1) := by decide +kernel
theorem dX9_init_77 : decode cX9_init 77 = .ok (.sipush 401, 3) := by decide +kernel
theorem dX9_init_80 : decode cX9_init 80 = .ok (.newarray .int, 2) := by decide +kernel
theorem dX9_init_82 : decode cX9_init 82 = .ok (.putfield 36, 3) := by decide +kernel
theorem dX9_init_85 : decode cX9_init 85 = .ok (.aload_n 0, 1) := by decide +kernel
theorem dX9_init_86 : decode cX9_init 86 = .ok (.sipush 256, 3) := by decide +kernel
theorem dX9_init_89 : decode cX9_init 89 = .ok (.newarray .int, 2) := by decide +kernel
theorem dX9_init_91 : decode cX9_init 91 = .ok (.putfield 39, 3) := by decide +kernel
theorem dX9_init_94 : decode cX9_init 94 = .ok (.aload_n 0, 1) := by decide +kernel
theorem dX9_init_95 : decode cX9_init 95 = .ok (.sipush 401, 3) := by decide +kernel
theorem dX9_init_98 : decode cX9_init 98 = .ok (.newarray .int, 2) := by decide +kernel
theorem dX9_init_100 : decode cX9_init 100 = .ok (.putfield 42, 3) := by decide +kernel
theorem dX9_init_103 : decode cX9_init 103 = .ok (.aload_n 0, 1) := by decide +kernel
theorem dX9_init_104 : decode cX9_init 104 = .ok (.iconst 0, 1) := by decide +kernel
theorem dX9_init_105 : decode cX9_init 105 = .ok (.putfield 45, 3) := by decide +kernel
theorem dX9_init_108 : decode cX9_init 108 = .ok (.aload_n 0, 1) := by decide +kernel
theorem dX9_init_109 : decode cX9_init 109 = .ok (.aload_n 1, 1) := by decide +kernel
theorem dX9_init_110 : decode cX9_init 110 = .ok (.putfield 49, 3) := by decide +kernel
theorem dX9_init_113 : decode cX9_init 113 = .ok (.aload_n 0, 1) := by decide +kernel
theorem dX9_init_114 : decode cX9_init 114 = .ok (.getfield 39, 3) := by decide +kernel
theorem dX9_init_117 : decode cX9_init 117 = .ok (.iconst (-1), 1) := by decide +kernel
theorem dX9_init_118 : decode cX9_init 118 = .ok (.invokestatic 53, 3) := by decide +kernel
theorem dX9_init_121 : decode cX9_init 121 = .ok (.return_, 1) := by decide +kernel
theorem dX9_has_0 : decode cX9_has 0 = .ok (.iload_n 1, 1) := by decide +kernel
theorem dX9_has_1 : decode cX9_has 1 = .ok (.ifCond .lt 15, 3) := by decide +kernel
theorem dX9_has_4 : decode cX9_has 4 = .ok (.iload_n 1, 1) := by decide +kernel
theorem dX9_has_5 : decode cX9_has 5 = .ok (.aload_n 0, 1) := by decide +kernel
theorem dX9_has_6 : decode cX9_has 6 = .ok (.getfield 45, 3) := by decide +kernel
theorem dX9_has_9 : decode cX9_has 9 = .ok (.if_icmp .ge 7, 3) := by decide +kernel
theorem dX9_has_12 : decode cX9_has 12 = .ok (.iconst 1, 1) := by decide +kernel
theorem dX9_has_13 : decode cX9_has 13 = .ok (.goto 4, 3) := by decide +kernel
theorem dX9_has_16 : decode cX9_has 16 = .ok (.iconst 0, 1) := by decide +kernel
theorem dX9_has_17 : decode cX9_has 17 = .ok (.ireturn, 1) := by decide +kernel
theorem dX9_isVariable_0 : decode cX9_isVariable 0 = .ok (.aload_n 0, 1) := by decide +kernel
theorem dX9_isVariable_1 : decode cX9_isVariable 1 = .ok (.getfield 11, 3) := by decide +kernel
theorem dX9_isVariable_4 : decode cX9_isVariable 4 = .ok (.iload_n 1, 1) := by decide +kernel
theorem dX9_isVariable_5 : decode cX9_isVariable 5 = .ok (.iaload, 1) := by decide +kernel
theorem dX9_isVariable_6 : decode cX9_isVariable 6 = .ok (.ifCond .ge 7, 3) := by decide +kernel
theorem dX9_isVariable_9 : decode cX9_isVariable 9 = .ok (.iconst 1, 1) := by decide +kernel
theorem dX9_isVariable_10 : decode cX9_isVariable 10 = .ok (.goto 4, 3) := by decide +kernel
theorem dX9_isVariable_13 : decode cX9_isVariable 13 = .ok (.iconst 0, 1) := by decide +kernel
theorem dX9_isVariable_14 : decode cX9_isVariable 14 = .ok (.ireturn, 1) := by decide +kernel
theorem dX9_argumentOf_0 : decode cX9_argumentOf 0 = .ok (.aload_n 0, 1) := by decide +kernel
theorem dX9_argumentOf_1 : decode cX9_argumentOf 1 = .ok (.getfield 18, 3) := by decide +kernel
theorem dX9_argumentOf_4 : decode cX9_argumentOf 4 = .ok (.iload_n 1, 1) := by decide +kernel
theorem dX9_argumentOf_5 : decode cX9_argumentOf 5 = .ok (.iconst 3, 1) := by decide +kernel
theorem dX9_argumentOf_6 : decode cX9_argumentOf 6 = .ok (.imul, 1) := by decide +kernel
theorem dX9_argumentOf_7 : decode cX9_argumentOf 7 = .ok (.iload_n 2, 1) := by decide +kernel
theorem dX9_argumentOf_8 : decode cX9_argumentOf 8 = .ok (.iadd, 1) := by decide +kernel
theorem dX9_argumentOf_9 : decode cX9_argumentOf 9 = .ok (.iaload, 1) := by decide +kernel
theorem dX9_argumentOf_10 : decode cX9_argumentOf 10 = .ok (.ireturn, 1) := by decide +kernel
theorem dX9_empty_0 : decode cX9_empty 0 = .ok (.aload_n 0, 1) := by decide +kernel
theorem dX9_empty_1 : decode cX9_empty 1 = .ok (.iconst 0, 1) := by decide +kernel
theorem dX9_empty_2 : decode cX9_empty 2 = .ok (.putfield 45, 3) := by decide +kernel
theorem dX9_empty_5 : decode cX9_empty 5 = .ok (.aload_n 0, 1) := by decide +kernel
theorem dX9_empty_6 : decode cX9_empty 6 = .ok (.getfield 39, 3) := by decide +kernel
theorem dX9_empty_9 : decode cX9_empty 9 = .ok (.iconst (-1), 1) := by decide +kernel
theorem dX9_empty_10 : decode cX9_empty 10 = .ok (.invokestatic 53, 3) := by decide +kernel
theorem dX9_empty_13 : decode cX9_empty 13 = .ok (.return_, 1) := by decide +kernel
theorem dX9_variableTerm_0 : decode cX9_variableTerm 0 = .ok (.aload_n 0, 1) := by decide +kernel
theorem dX9_variableTerm_1 : decode cX9_variableTerm 1 = .ok (.iload_n 1, 1) := by decide +kernel
theorem dX9_variableTerm_2 : decode cX9_variableTerm 2 = .ok (.iconst (-1), 1) := by decide +kernel
theorem dX9_variableTerm_3 : decode cX9_variableTerm 3 = .ok (.ixor, 1) := by decide +kernel
theorem dX9_variableTerm_4 : decode cX9_variableTerm 4 = .ok (.iconst (-1), 1) := by decide +kernel
theorem dX9_variableTerm_5 : decode cX9_variableTerm 5 = .ok (.iconst (-1), 1) := by decide +kernel
theorem dX9_variableTerm_6 : decode cX9_variableTerm 6 = .ok (.iconst (-1), 1) := by decide +kernel
theorem dX9_variableTerm_7 : decode cX9_variableTerm 7 = .ok (.invokevirtual 59, 3) := by decide +kernel
theorem dX9_variableTerm_10 : decode cX9_variableTerm 10 = .ok (.ireturn, 1) := by decide +kernel
theorem dX9_made_0 : decode cX9_made 0 = .ok (.aload_n 0, 1) := by decide +kernel
theorem dX9_made_1 : decode cX9_made 1 = .ok (.getfield 45, 3) := by decide +kernel
theorem dX9_made_4 : decode cX9_made 4 = .ok (.istore 5, 2) := by decide +kernel
theorem dX9_made_6 : decode cX9_made 6 = .ok (.aload_n 0, 1) := by decide +kernel
theorem dX9_made_7 : decode cX9_made 7 = .ok (.getfield 49, 3) := by decide +kernel
theorem dX9_made_10 : decode cX9_made 10 = .ok (.iload_n 1, 1) := by decide +kernel
theorem dX9_made_11 : decode cX9_made 11 = .ok (.invokevirtual 63, 3) := by decide +kernel
theorem dX9_made_14 : decode cX9_made 14 = .ok (.istore 6, 2) := by decide +kernel
theorem dX9_made_16 : decode cX9_made 16 = .ok (.iload 6, 2) := by decide +kernel
theorem dX9_made_18 : decode cX9_made 18 = .ok (.ifCond .eq 15, 3) := by decide +kernel
theorem dX9_made_21 : decode cX9_made 21 = .ok (.aload_n 0, 1) := by decide +kernel
theorem dX9_made_22 : decode cX9_made 22 = .ok (.getfield 49, 3) := by decide +kernel
theorem dX9_made_25 : decode cX9_made 25 = .ok (.getfield 69, 3) := by decide +kernel
theorem dX9_made_28 : decode cX9_made 28 = .ok (.iload_n 1, 1) := by decide +kernel
theorem dX9_made_29 : decode cX9_made 29 = .ok (.iaload, 1) := by decide +kernel
theorem dX9_made_30 : decode cX9_made 30 = .ok (.goto 4, 3) := by decide +kernel
theorem dX9_made_33 : decode cX9_made 33 = .ok (.iconst 0, 1) := by decide +kernel
theorem dX9_made_34 : decode cX9_made 34 = .ok (.istore 7, 2) := by decide +kernel
theorem dX9_made_36 : decode cX9_made 36 = .ok (.aload_n 0, 1) := by decide +kernel
theorem dX9_made_37 : decode cX9_made 37 = .ok (.getfield 11, 3) := by decide +kernel
theorem dX9_made_40 : decode cX9_made 40 = .ok (.iload 5, 2) := by decide +kernel
theorem dX9_made_42 : decode cX9_made 42 = .ok (.iload_n 1, 1) := by decide +kernel
theorem dX9_made_43 : decode cX9_made 43 = .ok (.iastore, 1) := by decide +kernel
theorem dX9_made_44 : decode cX9_made 44 = .ok (.aload_n 0, 1) := by decide +kernel
theorem dX9_made_45 : decode cX9_made 45 = .ok (.getfield 15, 3) := by decide +kernel
theorem dX9_made_48 : decode cX9_made 48 = .ok (.iload 5, 2) := by decide +kernel
theorem dX9_made_50 : decode cX9_made 50 = .ok (.iload 7, 2) := by decide +kernel
theorem dX9_made_52 : decode cX9_made 52 = .ok (.iastore, 1) := by decide +kernel
theorem dX9_made_53 : decode cX9_made 53 = .ok (.aload_n 0, 1) := by decide +kernel
theorem dX9_made_54 : decode cX9_made 54 = .ok (.getfield 24, 3) := by decide +kernel
theorem dX9_made_57 : decode cX9_made 57 = .ok (.iload 5, 2) := by decide +kernel
theorem dX9_made_59 : decode cX9_made 59 = .ok (.iload 6, 2) := by decide +kernel
theorem dX9_made_61 : decode cX9_made 61 = .ok (.ifCond .eq 15, 3) := by decide +kernel
theorem dX9_made_64 : decode cX9_made 64 = .ok (.aload_n 0, 1) := by decide +kernel
theorem dX9_made_65 : decode cX9_made 65 = .ok (.getfield 49, 3) := by decide +kernel
theorem dX9_made_68 : decode cX9_made 68 = .ok (.getfield 70, 3) := by decide +kernel
theorem dX9_made_71 : decode cX9_made 71 = .ok (.iload_n 1, 1) := by decide +kernel
theorem dX9_made_72 : decode cX9_made 72 = .ok (.iaload, 1) := by decide +kernel
theorem dX9_made_73 : decode cX9_made 73 = .ok (.goto 4, 3) := by decide +kernel
theorem dX9_made_76 : decode cX9_made 76 = .ok (.iconst 1, 1) := by decide +kernel
theorem dX9_made_77 : decode cX9_made 77 = .ok (.iastore, 1) := by decide +kernel
theorem dX9_made_78 : decode cX9_made 78 = .ok (.aload_n 0, 1) := by decide +kernel
theorem dX9_made_79 : decode cX9_made 79 = .ok (.getfield 18, 3) := by decide +kernel
theorem dX9_made_82 : decode cX9_made 82 = .ok (.iload 5, 2) := by decide +kernel
theorem dX9_made_84 : decode cX9_made 84 = .ok (.iconst 3, 1) := by decide +kernel
theorem dX9_made_85 : decode cX9_made 85 = .ok (.imul, 1) := by decide +kernel
theorem dX9_made_86 : decode cX9_made 86 = .ok (.iload 7, 2) := by decide +kernel
theorem dX9_made_88 : decode cX9_made 88 = .ok (.ifCond .le 7, 3) := by decide +kernel
theorem dX9_made_91 : decode cX9_made 91 = .ok (.iload_n 2, 1) := by decide +kernel
theorem dX9_made_92 : decode cX9_made 92 = .ok (.goto 4, 3) := by decide +kernel
theorem dX9_made_95 : decode cX9_made 95 = .ok (.iconst (-1), 1) := by decide +kernel
theorem dX9_made_96 : decode cX9_made 96 = .ok (.iastore, 1) := by decide +kernel
theorem dX9_made_97 : decode cX9_made 97 = .ok (.aload_n 0, 1) := by decide +kernel
theorem dX9_made_98 : decode cX9_made 98 = .ok (.getfield 18, 3) := by decide +kernel
theorem dX9_made_101 : decode cX9_made 101 = .ok (.iload 5, 2) := by decide +kernel
theorem dX9_made_103 : decode cX9_made 103 = .ok (.iconst 3, 1) := by decide +kernel
theorem dX9_made_104 : decode cX9_made 104 = .ok (.imul, 1) := by decide +kernel
theorem dX9_made_105 : decode cX9_made 105 = .ok (.iconst 1, 1) := by decide +kernel
theorem dX9_made_106 : decode cX9_made 106 = .ok (.iadd, 1) := by decide +kernel
theorem dX9_made_107 : decode cX9_made 107 = .ok (.iload 7, 2) := by decide +kernel
theorem dX9_made_109 : decode cX9_made 109 = .ok (.iconst 1, 1) := by decide +kernel
theorem dX9_made_110 : decode cX9_made 110 = .ok (.if_icmp .le 7, 3) := by decide +kernel
theorem dX9_made_113 : decode cX9_made 113 = .ok (.iload_n 3, 1) := by decide +kernel
theorem dX9_made_114 : decode cX9_made 114 = .ok (.goto 4, 3) := by decide +kernel
theorem dX9_made_117 : decode cX9_made 117 = .ok (.iconst (-1), 1) := by decide +kernel
theorem dX9_made_118 : decode cX9_made 118 = .ok (.iastore, 1) := by decide +kernel
theorem dX9_made_119 : decode cX9_made 119 = .ok (.aload_n 0, 1) := by decide +kernel
theorem dX9_made_120 : decode cX9_made 120 = .ok (.getfield 18, 3) := by decide +kernel
theorem dX9_made_123 : decode cX9_made 123 = .ok (.iload 5, 2) := by decide +kernel
theorem dX9_made_125 : decode cX9_made 125 = .ok (.iconst 3, 1) := by decide +kernel
theorem dX9_made_126 : decode cX9_made 126 = .ok (.imul, 1) := by decide +kernel
theorem dX9_made_127 : decode cX9_made 127 = .ok (.iconst 2, 1) := by decide +kernel
theorem dX9_made_128 : decode cX9_made 128 = .ok (.iadd, 1) := by decide +kernel
theorem dX9_made_129 : decode cX9_made 129 = .ok (.iload 7, 2) := by decide +kernel
theorem dX9_made_131 : decode cX9_made 131 = .ok (.iconst 2, 1) := by decide +kernel
theorem dX9_made_132 : decode cX9_made 132 = .ok (.if_icmp .le 8, 3) := by decide +kernel
theorem dX9_made_135 : decode cX9_made 135 = .ok (.iload 4, 2) := by decide +kernel
theorem dX9_made_137 : decode cX9_made 137 = .ok (.goto 4, 3) := by decide +kernel
theorem dX9_made_140 : decode cX9_made 140 = .ok (.iconst (-1), 1) := by decide +kernel
theorem dX9_made_141 : decode cX9_made 141 = .ok (.iastore, 1) := by decide +kernel
theorem dX9_made_142 : decode cX9_made 142 = .ok (.iload 7, 2) := by decide +kernel
theorem dX9_made_144 : decode cX9_made 144 = .ok (.ifCond .le 7, 3) := by decide +kernel
theorem dX9_made_147 : decode cX9_made 147 = .ok (.iload_n 2, 1) := by decide +kernel
theorem dX9_made_148 : decode cX9_made 148 = .ok (.ifCond .lt 24, 3) := by decide +kernel
theorem dX9_made_151 : decode cX9_made 151 = .ok (.iload 7, 2) := by decide +kernel
theorem dX9_made_153 : decode cX9_made 153 = .ok (.iconst 1, 1) := by decide +kernel
theorem dX9_made_154 : decode cX9_made 154 = .ok (.if_icmp .le 7, 3) := by decide +kernel
theorem dX9_made_157 : decode cX9_made 157 = .ok (.iload_n 3, 1) := by decide +kernel
theorem dX9_made_158 : decode cX9_made 158 = .ok (.ifCond .lt 14, 3) := by decide +kernel
theorem dX9_made_161 : decode cX9_made 161 = .ok (.iload 7, 2) := by decide +kernel
theorem dX9_made_163 : decode cX9_made 163 = .ok (.iconst 2, 1) := by decide +kernel
theorem dX9_made_164 : decode cX9_made 164 = .ok (.if_icmp .le 11, 3) := by decide +kernel
theorem dX9_made_167 : decode cX9_made 167 = .ok (.iload 4, 2) := by decide +kernel
theorem dX9_made_169 : decode cX9_made 169 = .ok (.ifCond .ge 6, 3) := by decide +kernel
theorem dX9_made_172 : decode cX9_made 172 = .ok (.bipush (-3), 2) := by decide +kernel
theorem dX9_made_174 : decode cX9_made 174 = .ok (.ireturn, 1) := by decide +kernel
theorem dX9_made_175 : decode cX9_made 175 = .ok (.aload_n 0, 1) := by decide +kernel
theorem dX9_made_176 : decode cX9_made 176 = .ok (.iload 5, 2) := by decide +kernel
theorem dX9_made_178 : decode cX9_made 178 = .ok (.invokevirtual 71, 3) := by decide +kernel
theorem dX9_made_181 : decode cX9_made 181 = .ok (.istore 8, 2) := by decide +kernel
theorem dX9_made_183 : decode cX9_made 183 = .ok (.aload_n 0, 1) := by decide +kernel
theorem dX9_made_184 : decode cX9_made 184 = .ok (.getfield 33, 3) := by decide +kernel
theorem dX9_made_187 : decode cX9_made 187 = .ok (.iload 5, 2) := by decide +kernel
theorem dX9_made_189 : decode cX9_made 189 = .ok (.iload 5, 2) := by decide +kernel
theorem dX9_made_191 : decode cX9_made 191 = .ok (.iastore, 1) := by decide +kernel
theorem dX9_made_192 : decode cX9_made 192 = .ok (.aload_n 0, 1) := by decide +kernel
theorem dX9_made_193 : decode cX9_made 193 = .ok (.getfield 39, 3) := by decide +kernel
theorem dX9_made_196 : decode cX9_made 196 = .ok (.iload 8, 2) := by decide +kernel
theorem dX9_made_198 : decode cX9_made 198 = .ok (.iaload, 1) := by decide +kernel
theorem dX9_made_199 : decode cX9_made 199 = .ok (.istore 9, 2) := by decide +kernel
theorem dX9_made_201 : decode cX9_made 201 = .ok (.iconst 0, 1) := by decide +kernel
theorem dX9_made_202 : decode cX9_made 202 = .ok (.istore 10, 2) := by decide +kernel
theorem dX9_made_204 : decode cX9_made 204 = .ok (.iload 10, 2) := by decide +kernel
theorem dX9_made_206 : decode cX9_made 206 = .ok (.sipush 400, 3) := by decide +kernel
theorem dX9_made_209 : decode cX9_made 209 = .ok (.if_icmp .ge 63, 3) := by decide +kernel
theorem dX9_made_212 : decode cX9_made 212 = .ok (.iload 9, 2) := by decide +kernel
theorem dX9_made_214 : decode cX9_made 214 = .ok (.iconst (-1), 1) := by decide +kernel
theorem dX9_made_215 : decode cX9_made 215 = .ok (.if_icmp .eq 57, 3) := by decide +kernel
theorem dX9_made_218 : decode cX9_made 218 = .ok (.aload_n 0, 1) := by decide +kernel
theorem dX9_made_219 : decode cX9_made 219 = .ok (.iload 9, 2) := by decide +kernel
theorem dX9_made_221 : decode cX9_made 221 = .ok (.iload 5, 2) := by decide +kernel
theorem dX9_made_223 : decode cX9_made 223 = .ok (.invokevirtual 75, 3) := by decide +kernel
theorem dX9_made_226 : decode cX9_made 226 = .ok (.ifCond .eq 6, 3) := by decide +kernel
theorem dX9_made_229 : decode cX9_made 229 = .ok (.iload 9, 2) := by decide +kernel
theorem dX9_made_231 : decode cX9_made 231 = .ok (.ireturn, 1) := by decide +kernel
theorem dX9_made_232 : decode cX9_made 232 = .ok (.aload_n 0, 1) := by decide +kernel
theorem dX9_made_233 : decode cX9_made 233 = .ok (.iload 9, 2) := by decide +kernel
theorem dX9_made_235 : decode cX9_made 235 = .ok (.iload 5, 2) := by decide +kernel
theorem dX9_made_237 : decode cX9_made 237 = .ok (.invokevirtual 79, 3) := by decide +kernel
theorem dX9_made_240 : decode cX9_made 240 = .ok (.ifCond .eq 17, 3) := by decide +kernel
theorem dX9_made_243 : decode cX9_made 243 = .ok (.aload_n 0, 1) := by decide +kernel
theorem dX9_made_244 : decode cX9_made 244 = .ok (.getfield 33, 3) := by decide +kernel
theorem dX9_made_247 : decode cX9_made 247 = .ok (.iload 5, 2) := by decide +kernel
theorem dX9_made_249 : decode cX9_made 249 = .ok (.aload_n 0, 1) := by decide +kernel
theorem dX9_made_250 : decode cX9_made 250 = .ok (.getfield 33, 3) := by decide +kernel
theorem dX9_made_253 : decode cX9_made 253 = .ok (.iload 9, 2) := by decide +kernel
theorem dX9_made_255 : decode cX9_made 255 = .ok (.iaload, 1) := by decide +kernel
theorem dX9_made_256 : decode cX9_made 256 = .ok (.iastore, 1) := by decide +kernel
theorem dX9_made_257 : decode cX9_made 257 = .ok (.aload_n 0, 1) := by decide +kernel
theorem dX9_made_258 : decode cX9_made 258 = .ok (.getfield 36, 3) := by decide +kernel
theorem dX9_made_261 : decode cX9_made 261 = .ok (.iload 9, 2) := by decide +kernel
theorem dX9_made_263 : decode cX9_made 263 = .ok (.iaload, 1) := by decide +kernel
theorem dX9_made_264 : decode cX9_made 264 = .ok (.istore 9, 2) := by decide +kernel
theorem dX9_made_266 : decode cX9_made 266 = .ok (.iinc 10 1, 3) := by decide +kernel
theorem dX9_made_269 : decode cX9_made 269 = .ok (.goto (-65), 3) := by decide +kernel
theorem dX9_made_272 : decode cX9_made 272 = .ok (.aload_n 0, 1) := by decide +kernel
theorem dX9_made_273 : decode cX9_made 273 = .ok (.iload 5, 2) := by decide +kernel
theorem dX9_made_275 : decode cX9_made 275 = .ok (.invokevirtual 82, 3) := by decide +kernel
theorem dX9_made_278 : decode cX9_made 278 = .ok (.iload 5, 2) := by decide +kernel
theorem dX9_made_280 : decode cX9_made 280 = .ok (.sipush 400, 3) := by decide +kernel
theorem dX9_made_283 : decode cX9_made 283 = .ok (.if_icmp .ge 15, 3) := by decide +kernel
theorem dX9_made_286 : decode cX9_made 286 = .ok (.aload_n 0, 1) := by decide +kernel
theorem dX9_made_287 : decode cX9_made 287 = .ok (.getfield 27, 3) := by decide +kernel
theorem dX9_made_290 : decode cX9_made 290 = .ok (.iload 5, 2) := by decide +kernel
theorem dX9_made_292 : decode cX9_made 292 = .ok (.iaload, 1) := by decide +kernel
theorem dX9_made_293 : decode cX9_made 293 = .ok (.bipush 6, 2) := by decide +kernel
theorem dX9_made_295 : decode cX9_made 295 = .ok (.if_icmp .le 6, 3) := by decide +kernel
theorem dX9_made_298 : decode cX9_made 298 = .ok (.bipush (-3), 2) := by decide +kernel
theorem dX9_made_300 : decode cX9_made 300 = .ok (.ireturn, 1) := by decide +kernel
theorem dX9_made_301 : decode cX9_made 301 = .ok (.aload_n 0, 1) := by decide +kernel
theorem dX9_made_302 : decode cX9_made 302 = .ok (.getfield 36, 3) := by decide +kernel
theorem dX9_made_305 : decode cX9_made 305 = .ok (.iload 5, 2) := by decide +kernel
theorem dX9_made_307 : decode cX9_made 307 = .ok (.aload_n 0, 1) := by decide +kernel
theorem dX9_made_308 : decode cX9_made 308 = .ok (.getfield 39, 3) := by decide +kernel
theorem dX9_made_311 : decode cX9_made 311 = .ok (.iload 8, 2) := by decide +kernel
theorem dX9_made_313 : decode cX9_made 313 = .ok (.iaload, 1) := by decide +kernel
theorem dX9_made_314 : decode cX9_made 314 = .ok (.iastore, 1) := by decide +kernel
theorem dX9_made_315 : decode cX9_made 315 = .ok (.aload_n 0, 1) := by decide +kernel
theorem dX9_made_316 : decode cX9_made 316 = .ok (.getfield 39, 3) := by decide +kernel
theorem dX9_made_319 : decode cX9_made 319 = .ok (.iload 8, 2) := by decide +kernel
theorem dX9_made_321 : decode cX9_made 321 = .ok (.iload 5, 2) := by decide +kernel
theorem dX9_made_323 : decode cX9_made 323 = .ok (.iastore, 1) := by decide +kernel
theorem dX9_made_324 : decode cX9_made 324 = .ok (.aload_n 0, 1) := by decide +kernel
theorem dX9_made_325 : decode cX9_made 325 = .ok (.dup, 1) := by decide +kernel
theorem dX9_made_326 : decode cX9_made 326 = .ok (.getfield 45, 3) := by decide +kernel
theorem dX9_made_329 : decode cX9_made 329 = .ok (.iconst 1, 1) := by decide +kernel
theorem dX9_made_330 : decode cX9_made 330 = .ok (.iadd, 1) := by decide +kernel
theorem dX9_made_331 : decode cX9_made 331 = .ok (.putfield 45, 3) := by decide +kernel
theorem dX9_made_334 : decode cX9_made 334 = .ok (.iload 5, 2) := by decide +kernel
theorem dX9_made_336 : decode cX9_made 336 = .ok (.ireturn, 1) := by decide +kernel
theorem dX9_bucketOf_0 : decode cX9_bucketOf 0 = .ok (.aload_n 0, 1) := by decide +kernel
theorem dX9_bucketOf_1 : decode cX9_bucketOf 1 = .ok (.getfield 11, 3) := by decide +kernel
theorem dX9_bucketOf_4 : decode cX9_bucketOf 4 = .ok (.iload_n 1, 1) := by decide +kernel
theorem dX9_bucketOf_5 : decode cX9_bucketOf 5 = .ok (.iaload, 1) := by decide +kernel
theorem dX9_bucketOf_6 : decode cX9_bucketOf 6 = .ok (.iconst (-1), 1) := by decide +kernel
theorem dX9_bucketOf_7 : decode cX9_bucketOf 7 = .ok (.invokestatic 86, 3) := by decide +kernel
theorem dX9_bucketOf_10 : decode cX9_bucketOf 10 = .ok (.istore_n 2, 1) := by decide +kernel
theorem dX9_bucketOf_11 : decode cX9_bucketOf 11 = .ok (.iconst 0, 1) := by decide +kernel
theorem dX9_bucketOf_12 : decode cX9_bucketOf 12 = .ok (.istore_n 3, 1) := by decide +kernel
theorem dX9_bucketOf_13 : decode cX9_bucketOf 13 = .ok (.iload_n 3, 1) := by decide +kernel
theorem dX9_bucketOf_14 : decode cX9_bucketOf 14 = .ok (.aload_n 0, 1) := by decide +kernel
theorem dX9_bucketOf_15 : decode cX9_bucketOf 15 = .ok (.getfield 15, 3) := by decide +kernel
theorem dX9_bucketOf_18 : decode cX9_bucketOf 18 = .ok (.iload_n 1, 1) := by decide +kernel
theorem dX9_bucketOf_19 : decode cX9_bucketOf 19 = .ok (.iaload, 1) := by decide +kernel
theorem dX9_bucketOf_20 : decode cX9_bucketOf 20 = .ok (.if_icmp .ge 30, 3) := by decide +kernel
theorem dX9_bucketOf_23 : decode cX9_bucketOf 23 = .ok (.iload_n 2, 1) := by decide +kernel
theorem dX9_bucketOf_24 : decode cX9_bucketOf 24 = .ok (.bipush 37, 2) := by decide +kernel
theorem dX9_bucketOf_26 : decode cX9_bucketOf 26 = .ok (.imul, 1) := by decide +kernel
theorem dX9_bucketOf_27 : decode cX9_bucketOf 27 = .ok (.aload_n 0, 1) := by decide +kernel
theorem dX9_bucketOf_28 : decode cX9_bucketOf 28 = .ok (.getfield 33, 3) := by decide +kernel
theorem dX9_bucketOf_31 : decode cX9_bucketOf 31 = .ok (.aload_n 0, 1) := by decide +kernel
theorem dX9_bucketOf_32 : decode cX9_bucketOf 32 = .ok (.getfield 18, 3) := by decide +kernel
theorem dX9_bucketOf_35 : decode cX9_bucketOf 35 = .ok (.iload_n 1, 1) := by decide +kernel
theorem dX9_bucketOf_36 : decode cX9_bucketOf 36 = .ok (.iconst 3, 1) := by decide +kernel
theorem dX9_bucketOf_37 : decode cX9_bucketOf 37 = .ok (.imul, 1) := by decide +kernel
theorem dX9_bucketOf_38 : decode cX9_bucketOf 38 = .ok (.iload_n 3, 1) := by decide +kernel
theorem dX9_bucketOf_39 : decode cX9_bucketOf 39 = .ok (.iadd, 1) := by decide +kernel
theorem dX9_bucketOf_40 : decode cX9_bucketOf 40 = .ok (.iaload, 1) := by decide +kernel
theorem dX9_bucketOf_41 : decode cX9_bucketOf 41 = .ok (.iaload, 1) := by decide +kernel
theorem dX9_bucketOf_42 : decode cX9_bucketOf 42 = .ok (.iadd, 1) := by decide +kernel
theorem dX9_bucketOf_43 : decode cX9_bucketOf 43 = .ok (.istore_n 2, 1) := by decide +kernel
theorem dX9_bucketOf_44 : decode cX9_bucketOf 44 = .ok (.iinc 3 1, 3) := by decide +kernel
theorem dX9_bucketOf_47 : decode cX9_bucketOf 47 = .ok (.goto (-34), 3) := by decide +kernel
theorem dX9_bucketOf_50 : decode cX9_bucketOf 50 = .ok (.iload_n 2, 1) := by decide +kernel
theorem dX9_bucketOf_51 : decode cX9_bucketOf 51 = .ok (.iload_n 2, 1) := by decide +kernel
theorem dX9_bucketOf_52 : decode cX9_bucketOf 52 = .ok (.bipush 8, 2) := by decide +kernel
theorem dX9_bucketOf_54 : decode cX9_bucketOf 54 = .ok (.iushr, 1) := by decide +kernel
theorem dX9_bucketOf_55 : decode cX9_bucketOf 55 = .ok (.ixor, 1) := by decide +kernel
theorem dX9_bucketOf_56 : decode cX9_bucketOf 56 = .ok (.sipush 255, 3) := by decide +kernel
theorem dX9_bucketOf_59 : decode cX9_bucketOf 59 = .ok (.iand, 1) := by decide +kernel
theorem dX9_bucketOf_60 : decode cX9_bucketOf 60 = .ok (.ireturn, 1) := by decide +kernel
theorem dX9_isSame_0 : decode cX9_isSame 0 = .ok (.aload_n 0, 1) := by decide +kernel
theorem dX9_isSame_1 : decode cX9_isSame 1 = .ok (.getfield 11, 3) := by decide +kernel
theorem dX9_isSame_4 : decode cX9_isSame 4 = .ok (.iload_n 1, 1) := by decide +kernel
theorem dX9_isSame_5 : decode cX9_isSame 5 = .ok (.iaload, 1) := by decide +kernel
theorem dX9_isSame_6 : decode cX9_isSame 6 = .ok (.aload_n 0, 1) := by decide +kernel
theorem dX9_isSame_7 : decode cX9_isSame 7 = .ok (.getfield 11, 3) := by decide +kernel
theorem dX9_isSame_10 : decode cX9_isSame 10 = .ok (.iload_n 2, 1) := by decide +kernel
theorem dX9_isSame_11 : decode cX9_isSame 11 = .ok (.iaload, 1) := by decide +kernel
theorem dX9_isSame_12 : decode cX9_isSame 12 = .ok (.if_icmp .ne 7, 3) := by decide +kernel
theorem dX9_isSame_15 : decode cX9_isSame 15 = .ok (.iconst 1, 1) := by decide +kernel
theorem dX9_isSame_16 : decode cX9_isSame 16 = .ok (.goto 4, 3) := by decide +kernel
theorem dX9_isSame_19 : decode cX9_isSame 19 = .ok (.iconst 0, 1) := by decide +kernel
theorem dX9_isSame_20 : decode cX9_isSame 20 = .ok (.istore_n 3, 1) := by decide +kernel
theorem dX9_isSame_21 : decode cX9_isSame 21 = .ok (.iconst 0, 1) := by decide +kernel
theorem dX9_isSame_22 : decode cX9_isSame 22 = .ok (.istore 4, 2) := by decide +kernel
theorem dX9_isSame_24 : decode cX9_isSame 24 = .ok (.iload 4, 2) := by decide +kernel
theorem dX9_isSame_26 : decode cX9_isSame 26 = .ok (.aload_n 0, 1) := by decide +kernel
theorem dX9_isSame_27 : decode cX9_isSame 27 = .ok (.getfield 15, 3) := by decide +kernel
theorem dX9_isSame_30 : decode cX9_isSame 30 = .ok (.iload_n 2, 1) := by decide +kernel
theorem dX9_isSame_31 : decode cX9_isSame 31 = .ok (.iaload, 1) := by decide +kernel
theorem dX9_isSame_32 : decode cX9_isSame 32 = .ok (.if_icmp .ge 44, 3) := by decide +kernel
theorem dX9_isSame_35 : decode cX9_isSame 35 = .ok (.iload_n 3, 1) := by decide +kernel
theorem dX9_isSame_36 : decode cX9_isSame 36 = .ok (.ifCond .eq 40, 3) := by decide +kernel
theorem dX9_isSame_39 : decode cX9_isSame 39 = .ok (.aload_n 0, 1) := by decide +kernel
theorem dX9_isSame_40 : decode cX9_isSame 40 = .ok (.getfield 18, 3) := by decide +kernel
theorem dX9_isSame_43 : decode cX9_isSame 43 = .ok (.iload_n 1, 1) := by decide +kernel
theorem dX9_isSame_44 : decode cX9_isSame 44 = .ok (.iconst 3, 1) := by decide +kernel
theorem dX9_isSame_45 : decode cX9_isSame 45 = .ok (.imul, 1) := by decide +kernel
theorem dX9_isSame_46 : decode cX9_isSame 46 = .ok (.iload 4, 2) := by decide +kernel
theorem dX9_isSame_48 : decode cX9_isSame 48 = .ok (.iadd, 1) := by decide +kernel
theorem dX9_isSame_49 : decode cX9_isSame 49 = .ok (.iaload, 1) := by decide +kernel
theorem dX9_isSame_50 : decode cX9_isSame 50 = .ok (.aload_n 0, 1) := by decide +kernel
theorem dX9_isSame_51 : decode cX9_isSame 51 = .ok (.getfield 18, 3) := by decide +kernel
theorem dX9_isSame_54 : decode cX9_isSame 54 = .ok (.iload_n 2, 1) := by decide +kernel
theorem dX9_isSame_55 : decode cX9_isSame 55 = .ok (.iconst 3, 1) := by decide +kernel
theorem dX9_isSame_56 : decode cX9_isSame 56 = .ok (.imul, 1) := by decide +kernel
theorem dX9_isSame_57 : decode cX9_isSame 57 = .ok (.iload 4, 2) := by decide +kernel
theorem dX9_isSame_59 : decode cX9_isSame 59 = .ok (.iadd, 1) := by decide +kernel
theorem dX9_isSame_60 : decode cX9_isSame 60 = .ok (.iaload, 1) := by decide +kernel
theorem dX9_isSame_61 : decode cX9_isSame 61 = .ok (.if_icmp .ne 7, 3) := by decide +kernel
theorem dX9_isSame_64 : decode cX9_isSame 64 = .ok (.iconst 1, 1) := by decide +kernel
theorem dX9_isSame_65 : decode cX9_isSame 65 = .ok (.goto 4, 3) := by decide +kernel
theorem dX9_isSame_68 : decode cX9_isSame 68 = .ok (.iconst 0, 1) := by decide +kernel
theorem dX9_isSame_69 : decode cX9_isSame 69 = .ok (.istore_n 3, 1) := by decide +kernel
theorem dX9_isSame_70 : decode cX9_isSame 70 = .ok (.iinc 4 1, 3) := by decide +kernel
theorem dX9_isSame_73 : decode cX9_isSame 73 = .ok (.goto (-49), 3) := by decide +kernel
theorem dX9_isSame_76 : decode cX9_isSame 76 = .ok (.iload_n 3, 1) := by decide +kernel
theorem dX9_isSame_77 : decode cX9_isSame 77 = .ok (.ireturn, 1) := by decide +kernel
theorem dX9_hasShapeOf_0 : decode cX9_hasShapeOf 0 = .ok (.aload_n 0, 1) := by decide +kernel
theorem dX9_hasShapeOf_1 : decode cX9_hasShapeOf 1 = .ok (.getfield 11, 3) := by decide +kernel
theorem dX9_hasShapeOf_4 : decode cX9_hasShapeOf 4 = .ok (.iload_n 1, 1) := by decide +kernel
theorem dX9_hasShapeOf_5 : decode cX9_hasShapeOf 5 = .ok (.iaload, 1) := by decide +kernel
theorem dX9_hasShapeOf_6 : decode cX9_hasShapeOf 6 = .ok (.aload_n 0, 1) := by decide +kernel
theorem dX9_hasShapeOf_7 : decode cX9_hasShapeOf 7 = .ok (.getfield 11, 3) := by decide +kernel
theorem dX9_hasShapeOf_10 : decode cX9_hasShapeOf 10 = .ok (.iload_n 2, 1) := by decide +kernel
theorem dX9_hasShapeOf_11 : decode cX9_hasShapeOf 11 = .ok (.iaload, 1) := by decide +kernel
theorem dX9_hasShapeOf_12 : decode cX9_hasShapeOf 12 = .ok (.if_icmp .eq 21, 3) := by decide +kernel
theorem dX9_hasShapeOf_15 : decode cX9_hasShapeOf 15 = .ok (.aload_n 0, 1) := by decide +kernel
theorem dX9_hasShapeOf_16 : decode cX9_hasShapeOf 16 = .ok (.getfield 11, 3) := by decide +kernel
theorem dX9_hasShapeOf_19 : decode cX9_hasShapeOf 19 = .ok (.iload_n 1, 1) := by decide +kernel
theorem dX9_hasShapeOf_20 : decode cX9_hasShapeOf 20 = .ok (.iaload, 1) := by decide +kernel
theorem dX9_hasShapeOf_21 : decode cX9_hasShapeOf 21 = .ok (.ifCond .ge 16, 3) := by decide +kernel
theorem dX9_hasShapeOf_24 : decode cX9_hasShapeOf 24 = .ok (.aload_n 0, 1) := by decide +kernel
theorem dX9_hasShapeOf_25 : decode cX9_hasShapeOf 25 = .ok (.getfield 11, 3) := by decide +kernel
theorem dX9_hasShapeOf_28 : decode cX9_hasShapeOf 28 = .ok (.iload_n 2, 1) := by decide +kernel
theorem dX9_hasShapeOf_29 : decode cX9_hasShapeOf 29 = .ok (.iaload, 1) := by decide +kernel
theorem dX9_hasShapeOf_30 : decode cX9_hasShapeOf 30 = .ok (.ifCond .ge 7, 3) := by decide +kernel
theorem dX9_hasShapeOf_33 : decode cX9_hasShapeOf 33 = .ok (.iconst 1, 1) := by decide +kernel
theorem dX9_hasShapeOf_34 : decode cX9_hasShapeOf 34 = .ok (.goto 4, 3) := by decide +kernel
theorem dX9_hasShapeOf_37 : decode cX9_hasShapeOf 37 = .ok (.iconst 0, 1) := by decide +kernel
theorem dX9_hasShapeOf_38 : decode cX9_hasShapeOf 38 = .ok (.istore_n 3, 1) := by decide +kernel
theorem dX9_hasShapeOf_39 : decode cX9_hasShapeOf 39 = .ok (.iconst 0, 1) := by decide +kernel
theorem dX9_hasShapeOf_40 : decode cX9_hasShapeOf 40 = .ok (.istore 4, 2) := by decide +kernel
theorem dX9_hasShapeOf_42 : decode cX9_hasShapeOf 42 = .ok (.iload 4, 2) := by decide +kernel
theorem dX9_hasShapeOf_44 : decode cX9_hasShapeOf 44 = .ok (.aload_n 0, 1) := by decide +kernel
theorem dX9_hasShapeOf_45 : decode cX9_hasShapeOf 45 = .ok (.getfield 15, 3) := by decide +kernel
theorem dX9_hasShapeOf_48 : decode cX9_hasShapeOf 48 = .ok (.iload_n 2, 1) := by decide +kernel
theorem dX9_hasShapeOf_49 : decode cX9_hasShapeOf 49 = .ok (.iaload, 1) := by decide +kernel
theorem dX9_hasShapeOf_50 : decode cX9_hasShapeOf 50 = .ok (.if_icmp .ge 54, 3) := by decide +kernel
theorem dX9_hasShapeOf_53 : decode cX9_hasShapeOf 53 = .ok (.iload_n 3, 1) := by decide +kernel
theorem dX9_hasShapeOf_54 : decode cX9_hasShapeOf 54 = .ok (.ifCond .eq 50, 3) := by decide +kernel
theorem dX9_hasShapeOf_57 : decode cX9_hasShapeOf 57 = .ok (.aload_n 0, 1) := by decide +kernel
theorem dX9_hasShapeOf_58 : decode cX9_hasShapeOf 58 = .ok (.getfield 33, 3) := by decide +kernel
theorem dX9_hasShapeOf_61 : decode cX9_hasShapeOf 61 = .ok (.aload_n 0, 1) := by decide +kernel
theorem dX9_hasShapeOf_62 : decode cX9_hasShapeOf 62 = .ok (.getfield 18, 3) := by decide +kernel
theorem dX9_hasShapeOf_65 : decode cX9_hasShapeOf 65 = .ok (.iload_n 1, 1) := by decide +kernel
theorem dX9_hasShapeOf_66 : decode cX9_hasShapeOf 66 = .ok (.iconst 3, 1) := by decide +kernel
theorem dX9_hasShapeOf_67 : decode cX9_hasShapeOf 67 = .ok (.imul, 1) := by decide +kernel
theorem dX9_hasShapeOf_68 : decode cX9_hasShapeOf 68 = .ok (.iload 4, 2) := by decide +kernel
theorem dX9_hasShapeOf_70 : decode cX9_hasShapeOf 70 = .ok (.iadd, 1) := by decide +kernel
theorem dX9_hasShapeOf_71 : decode cX9_hasShapeOf 71 = .ok (.iaload, 1) := by decide +kernel
theorem dX9_hasShapeOf_72 : decode cX9_hasShapeOf 72 = .ok (.iaload, 1) := by decide +kernel
theorem dX9_hasShapeOf_73 : decode cX9_hasShapeOf 73 = .ok (.aload_n 0, 1) := by decide +kernel
theorem dX9_hasShapeOf_74 : decode cX9_hasShapeOf 74 = .ok (.getfield 33, 3) := by decide +kernel
theorem dX9_hasShapeOf_77 : decode cX9_hasShapeOf 77 = .ok (.aload_n 0, 1) := by decide +kernel
theorem dX9_hasShapeOf_78 : decode cX9_hasShapeOf 78 = .ok (.getfield 18, 3) := by decide +kernel
theorem dX9_hasShapeOf_81 : decode cX9_hasShapeOf 81 = .ok (.iload_n 2, 1) := by decide +kernel
theorem dX9_hasShapeOf_82 : decode cX9_hasShapeOf 82 = .ok (.iconst 3, 1) := by decide +kernel
theorem dX9_hasShapeOf_83 : decode cX9_hasShapeOf 83 = .ok (.imul, 1) := by decide +kernel
theorem dX9_hasShapeOf_84 : decode cX9_hasShapeOf 84 = .ok (.iload 4, 2) := by decide +kernel
theorem dX9_hasShapeOf_86 : decode cX9_hasShapeOf 86 = .ok (.iadd, 1) := by decide +kernel
theorem dX9_hasShapeOf_87 : decode cX9_hasShapeOf 87 = .ok (.iaload, 1) := by decide +kernel
theorem dX9_hasShapeOf_88 : decode cX9_hasShapeOf 88 = .ok (.iaload, 1) := by decide +kernel
theorem dX9_hasShapeOf_89 : decode cX9_hasShapeOf 89 = .ok (.if_icmp .ne 7, 3) := by decide +kernel
theorem dX9_hasShapeOf_92 : decode cX9_hasShapeOf 92 = .ok (.iconst 1, 1) := by decide +kernel
theorem dX9_hasShapeOf_93 : decode cX9_hasShapeOf 93 = .ok (.goto 4, 3) := by decide +kernel
theorem dX9_hasShapeOf_96 : decode cX9_hasShapeOf 96 = .ok (.iconst 0, 1) := by decide +kernel
theorem dX9_hasShapeOf_97 : decode cX9_hasShapeOf 97 = .ok (.istore_n 3, 1) := by decide +kernel
theorem dX9_hasShapeOf_98 : decode cX9_hasShapeOf 98 = .ok (.iinc 4 1, 3) := by decide +kernel
theorem dX9_hasShapeOf_101 : decode cX9_hasShapeOf 101 = .ok (.goto (-59), 3) := by decide +kernel
theorem dX9_hasShapeOf_104 : decode cX9_hasShapeOf 104 = .ok (.iload_n 3, 1) := by decide +kernel
theorem dX9_hasShapeOf_105 : decode cX9_hasShapeOf 105 = .ok (.ireturn, 1) := by decide +kernel
theorem dX9_measure_0 : decode cX9_measure 0 = .ok (.aload_n 0, 1) := by decide +kernel
theorem dX9_measure_1 : decode cX9_measure 1 = .ok (.getfield 21, 3) := by decide +kernel
theorem dX9_measure_4 : decode cX9_measure 4 = .ok (.iload_n 1, 1) := by decide +kernel
theorem dX9_measure_5 : decode cX9_measure 5 = .ok (.iconst 1, 1) := by decide +kernel
theorem dX9_measure_6 : decode cX9_measure 6 = .ok (.iastore, 1) := by decide +kernel
theorem dX9_measure_7 : decode cX9_measure 7 = .ok (.aload_n 0, 1) := by decide +kernel
theorem dX9_measure_8 : decode cX9_measure 8 = .ok (.getfield 27, 3) := by decide +kernel
theorem dX9_measure_11 : decode cX9_measure 11 = .ok (.iload_n 1, 1) := by decide +kernel
theorem dX9_measure_12 : decode cX9_measure 12 = .ok (.iconst 1, 1) := by decide +kernel
theorem dX9_measure_13 : decode cX9_measure 13 = .ok (.iastore, 1) := by decide +kernel
theorem dX9_measure_14 : decode cX9_measure 14 = .ok (.aload_n 0, 1) := by decide +kernel
theorem dX9_measure_15 : decode cX9_measure 15 = .ok (.getfield 30, 3) := by decide +kernel
theorem dX9_measure_18 : decode cX9_measure 18 = .ok (.iload_n 1, 1) := by decide +kernel
theorem dX9_measure_19 : decode cX9_measure 19 = .ok (.aload_n 0, 1) := by decide +kernel
theorem dX9_measure_20 : decode cX9_measure 20 = .ok (.getfield 11, 3) := by decide +kernel
theorem dX9_measure_23 : decode cX9_measure 23 = .ok (.iload_n 1, 1) := by decide +kernel
theorem dX9_measure_24 : decode cX9_measure 24 = .ok (.iaload, 1) := by decide +kernel
theorem dX9_measure_25 : decode cX9_measure 25 = .ok (.ifCond .ge 16, 3) := by decide +kernel
theorem dX9_measure_28 : decode cX9_measure 28 = .ok (.iconst 1, 1) := by decide +kernel
theorem dX9_measure_29 : decode cX9_measure 29 = .ok (.aload_n 0, 1) := by decide +kernel
theorem dX9_measure_30 : decode cX9_measure 30 = .ok (.getfield 11, 3) := by decide +kernel
theorem dX9_measure_33 : decode cX9_measure 33 = .ok (.iload_n 1, 1) := by decide +kernel
theorem dX9_measure_34 : decode cX9_measure 34 = .ok (.iaload, 1) := by decide +kernel
theorem dX9_measure_35 : decode cX9_measure 35 = .ok (.iconst (-1), 1) := by decide +kernel
theorem dX9_measure_36 : decode cX9_measure 36 = .ok (.ixor, 1) := by decide +kernel
theorem dX9_measure_37 : decode cX9_measure 37 = .ok (.ishl, 1) := by decide +kernel
theorem dX9_measure_38 : decode cX9_measure 38 = .ok (.goto 4, 3) := by decide +kernel
theorem dX9_measure_41 : decode cX9_measure 41 = .ok (.iconst 0, 1) := by decide +kernel
theorem dX9_measure_42 : decode cX9_measure 42 = .ok (.iastore, 1) := by decide +kernel
theorem dX9_measure_43 : decode cX9_measure 43 = .ok (.iconst 0, 1) := by decide +kernel
theorem dX9_measure_44 : decode cX9_measure 44 = .ok (.istore_n 2, 1) := by decide +kernel
theorem dX9_measure_45 : decode cX9_measure 45 = .ok (.iload_n 2, 1) := by decide +kernel
theorem dX9_measure_46 : decode cX9_measure 46 = .ok (.aload_n 0, 1) := by decide +kernel
theorem dX9_measure_47 : decode cX9_measure 47 = .ok (.getfield 15, 3) := by decide +kernel
theorem dX9_measure_50 : decode cX9_measure 50 = .ok (.iload_n 1, 1) := by decide +kernel
theorem dX9_measure_51 : decode cX9_measure 51 = .ok (.iaload, 1) := by decide +kernel
theorem dX9_measure_52 : decode cX9_measure 52 = .ok (.if_icmp .ge 88, 3) := by decide +kernel
theorem dX9_measure_55 : decode cX9_measure 55 = .ok (.aload_n 0, 1) := by decide +kernel
theorem dX9_measure_56 : decode cX9_measure 56 = .ok (.getfield 18, 3) := by decide +kernel
theorem dX9_measure_59 : decode cX9_measure 59 = .ok (.iload_n 1, 1) := by decide +kernel
theorem dX9_measure_60 : decode cX9_measure 60 = .ok (.iconst 3, 1) := by decide +kernel
theorem dX9_measure_61 : decode cX9_measure 61 = .ok (.imul, 1) := by decide +kernel
theorem dX9_measure_62 : decode cX9_measure 62 = .ok (.iload_n 2, 1) := by decide +kernel
theorem dX9_measure_63 : decode cX9_measure 63 = .ok (.iadd, 1) := by decide +kernel
theorem dX9_measure_64 : decode cX9_measure 64 = .ok (.iaload, 1) := by decide +kernel
theorem dX9_measure_65 : decode cX9_measure 65 = .ok (.istore_n 3, 1) := by decide +kernel
theorem dX9_measure_66 : decode cX9_measure 66 = .ok (.aload_n 0, 1) := by decide +kernel
theorem dX9_measure_67 : decode cX9_measure 67 = .ok (.getfield 21, 3) := by decide +kernel
theorem dX9_measure_70 : decode cX9_measure 70 = .ok (.iload_n 1, 1) := by decide +kernel
theorem dX9_measure_71 : decode cX9_measure 71 = .ok (.dup2, 1) := by decide +kernel
theorem dX9_measure_72 : decode cX9_measure 72 = .ok (.iaload, 1) := by decide +kernel
theorem dX9_measure_73 : decode cX9_measure 73 = .ok (.aload_n 0, 1) := by decide +kernel
theorem dX9_measure_74 : decode cX9_measure 74 = .ok (.getfield 21, 3) := by decide +kernel
theorem dX9_measure_77 : decode cX9_measure 77 = .ok (.iload_n 3, 1) := by decide +kernel
theorem dX9_measure_78 : decode cX9_measure 78 = .ok (.iaload, 1) := by decide +kernel
theorem dX9_measure_79 : decode cX9_measure 79 = .ok (.iadd, 1) := by decide +kernel
theorem dX9_measure_80 : decode cX9_measure 80 = .ok (.iastore, 1) := by decide +kernel
theorem dX9_measure_81 : decode cX9_measure 81 = .ok (.aload_n 0, 1) := by decide +kernel
theorem dX9_measure_82 : decode cX9_measure 82 = .ok (.getfield 24, 3) := by decide +kernel
theorem dX9_measure_85 : decode cX9_measure 85 = .ok (.iload_n 1, 1) := by decide +kernel
theorem dX9_measure_86 : decode cX9_measure 86 = .ok (.dup2, 1) := by decide +kernel
theorem dX9_measure_87 : decode cX9_measure 87 = .ok (.iaload, 1) := by decide +kernel
theorem dX9_measure_88 : decode cX9_measure 88 = .ok (.aload_n 0, 1) := by decide +kernel
theorem dX9_measure_89 : decode cX9_measure 89 = .ok (.getfield 24, 3) := by decide +kernel
theorem dX9_measure_92 : decode cX9_measure 92 = .ok (.iload_n 3, 1) := by decide +kernel
theorem dX9_measure_93 : decode cX9_measure 93 = .ok (.iaload, 1) := by decide +kernel
theorem dX9_measure_94 : decode cX9_measure 94 = .ok (.iadd, 1) := by decide +kernel
theorem dX9_measure_95 : decode cX9_measure 95 = .ok (.iastore, 1) := by decide +kernel
theorem dX9_measure_96 : decode cX9_measure 96 = .ok (.aload_n 0, 1) := by decide +kernel
theorem dX9_measure_97 : decode cX9_measure 97 = .ok (.getfield 27, 3) := by decide +kernel
theorem dX9_measure_100 : decode cX9_measure 100 = .ok (.iload_n 1, 1) := by decide +kernel
theorem dX9_measure_101 : decode cX9_measure 101 = .ok (.aload_n 0, 1) := by decide +kernel
theorem dX9_measure_102 : decode cX9_measure 102 = .ok (.getfield 27, 3) := by decide +kernel
theorem dX9_measure_105 : decode cX9_measure 105 = .ok (.iload_n 1, 1) := by decide +kernel
theorem dX9_measure_106 : decode cX9_measure 106 = .ok (.iaload, 1) := by decide +kernel
theorem dX9_measure_107 : decode cX9_measure 107 = .ok (.aload_n 0, 1) := by decide +kernel
theorem dX9_measure_108 : decode cX9_measure 108 = .ok (.getfield 27, 3) := by decide +kernel
theorem dX9_measure_111 : decode cX9_measure 111 = .ok (.iload_n 3, 1) := by decide +kernel
theorem dX9_measure_112 : decode cX9_measure 112 = .ok (.iaload, 1) := by decide +kernel
theorem dX9_measure_113 : decode cX9_measure 113 = .ok (.iconst 1, 1) := by decide +kernel
theorem dX9_measure_114 : decode cX9_measure 114 = .ok (.iadd, 1) := by decide +kernel
theorem dX9_measure_115 : decode cX9_measure 115 = .ok (.invokestatic 86, 3) := by decide +kernel
theorem dX9_measure_118 : decode cX9_measure 118 = .ok (.iastore, 1) := by decide +kernel
theorem dX9_measure_119 : decode cX9_measure 119 = .ok (.aload_n 0, 1) := by decide +kernel
theorem dX9_measure_120 : decode cX9_measure 120 = .ok (.getfield 30, 3) := by decide +kernel
theorem dX9_measure_123 : decode cX9_measure 123 = .ok (.iload_n 1, 1) := by decide +kernel
theorem dX9_measure_124 : decode cX9_measure 124 = .ok (.dup2, 1) := by decide +kernel
theorem dX9_measure_125 : decode cX9_measure 125 = .ok (.iaload, 1) := by decide +kernel
theorem dX9_measure_126 : decode cX9_measure 126 = .ok (.aload_n 0, 1) := by decide +kernel
theorem dX9_measure_127 : decode cX9_measure 127 = .ok (.getfield 30, 3) := by decide +kernel
theorem dX9_measure_130 : decode cX9_measure 130 = .ok (.iload_n 3, 1) := by decide +kernel
theorem dX9_measure_131 : decode cX9_measure 131 = .ok (.iaload, 1) := by decide +kernel
theorem dX9_measure_132 : decode cX9_measure 132 = .ok (.ior, 1) := by decide +kernel
theorem dX9_measure_133 : decode cX9_measure 133 = .ok (.iastore, 1) := by decide +kernel
theorem dX9_measure_134 : decode cX9_measure 134 = .ok (.iinc 2 1, 3) := by decide +kernel
theorem dX9_measure_137 : decode cX9_measure 137 = .ok (.goto (-92), 3) := by decide +kernel
theorem dX9_measure_140 : decode cX9_measure 140 = .ok (.return_, 1) := by decide +kernel
theorem dX9_cutTo_0 : decode cX9_cutTo 0 = .ok (.aload_n 0, 1) := by decide +kernel
theorem dX9_cutTo_1 : decode cX9_cutTo 1 = .ok (.getfield 45, 3) := by decide +kernel
theorem dX9_cutTo_4 : decode cX9_cutTo 4 = .ok (.iconst 1, 1) := by decide +kernel
theorem dX9_cutTo_5 : decode cX9_cutTo 5 = .ok (.isub, 1) := by decide +kernel
theorem dX9_cutTo_6 : decode cX9_cutTo 6 = .ok (.istore_n 2, 1) := by decide +kernel
theorem dX9_cutTo_7 : decode cX9_cutTo 7 = .ok (.iload_n 2, 1) := by decide +kernel
theorem dX9_cutTo_8 : decode cX9_cutTo 8 = .ok (.iload_n 1, 1) := by decide +kernel
theorem dX9_cutTo_9 : decode cX9_cutTo 9 = .ok (.if_icmp .lt 34, 3) := by decide +kernel
theorem dX9_cutTo_12 : decode cX9_cutTo 12 = .ok (.iload_n 2, 1) := by decide +kernel
theorem dX9_cutTo_13 : decode cX9_cutTo 13 = .ok (.ifCond .lt 30, 3) := by decide +kernel
theorem dX9_cutTo_16 : decode cX9_cutTo 16 = .ok (.aload_n 0, 1) := by decide +kernel
theorem dX9_cutTo_17 : decode cX9_cutTo 17 = .ok (.getfield 39, 3) := by decide +kernel
theorem dX9_cutTo_20 : decode cX9_cutTo 20 = .ok (.aload_n 0, 1) := by decide +kernel
theorem dX9_cutTo_21 : decode cX9_cutTo 21 = .ok (.iload_n 2, 1) := by decide +kernel
theorem dX9_cutTo_22 : decode cX9_cutTo 22 = .ok (.invokevirtual 71, 3) := by decide +kernel
theorem dX9_cutTo_25 : decode cX9_cutTo 25 = .ok (.aload_n 0, 1) := by decide +kernel
theorem dX9_cutTo_26 : decode cX9_cutTo 26 = .ok (.getfield 36, 3) := by decide +kernel
theorem dX9_cutTo_29 : decode cX9_cutTo 29 = .ok (.iload_n 2, 1) := by decide +kernel
theorem dX9_cutTo_30 : decode cX9_cutTo 30 = .ok (.iaload, 1) := by decide +kernel
theorem dX9_cutTo_31 : decode cX9_cutTo 31 = .ok (.iastore, 1) := by decide +kernel
theorem dX9_cutTo_32 : decode cX9_cutTo 32 = .ok (.aload_n 0, 1) := by decide +kernel
theorem dX9_cutTo_33 : decode cX9_cutTo 33 = .ok (.iload_n 2, 1) := by decide +kernel
theorem dX9_cutTo_34 : decode cX9_cutTo 34 = .ok (.putfield 45, 3) := by decide +kernel
theorem dX9_cutTo_37 : decode cX9_cutTo 37 = .ok (.iinc 2 (-1), 3) := by decide +kernel
theorem dX9_cutTo_40 : decode cX9_cutTo 40 = .ok (.goto (-33), 3) := by decide +kernel
theorem dX9_cutTo_43 : decode cX9_cutTo 43 = .ok (.return_, 1) := by decide +kernel
theorem dX9_hasPlace_0 : decode cX9_hasPlace 0 = .ok (.iload_n 2, 1) := by decide +kernel
theorem dX9_hasPlace_1 : decode cX9_hasPlace 1 = .ok (.ifCond .lt 17, 3) := by decide +kernel
theorem dX9_hasPlace_4 : decode cX9_hasPlace 4 = .ok (.iload_n 2, 1) := by decide +kernel
theorem dX9_hasPlace_5 : decode cX9_hasPlace 5 = .ok (.aload_n 0, 1) := by decide +kernel
theorem dX9_hasPlace_6 : decode cX9_hasPlace 6 = .ok (.getfield 21, 3) := by decide +kernel
theorem dX9_hasPlace_9 : decode cX9_hasPlace 9 = .ok (.iload_n 1, 1) := by decide +kernel
theorem dX9_hasPlace_10 : decode cX9_hasPlace 10 = .ok (.iaload, 1) := by decide +kernel
theorem dX9_hasPlace_11 : decode cX9_hasPlace 11 = .ok (.if_icmp .ge 7, 3) := by decide +kernel
theorem dX9_hasPlace_14 : decode cX9_hasPlace 14 = .ok (.iconst 1, 1) := by decide +kernel
theorem dX9_hasPlace_15 : decode cX9_hasPlace 15 = .ok (.goto 4, 3) := by decide +kernel
theorem dX9_hasPlace_18 : decode cX9_hasPlace 18 = .ok (.iconst 0, 1) := by decide +kernel
theorem dX9_hasPlace_19 : decode cX9_hasPlace 19 = .ok (.ireturn, 1) := by decide +kernel
theorem dX9_inPlace_0 : decode cX9_inPlace 0 = .ok (.iload_n 1, 1) := by decide +kernel
theorem dX9_inPlace_1 : decode cX9_inPlace 1 = .ok (.istore_n 3, 1) := by decide +kernel
theorem dX9_inPlace_2 : decode cX9_inPlace 2 = .ok (.iload_n 2, 1) := by decide +kernel
theorem dX9_inPlace_3 : decode cX9_inPlace 3 = .ok (.istore 4, 2) := by decide +kernel
theorem dX9_inPlace_5 : decode cX9_inPlace 5 = .ok (.iconst 0, 1) := by decide +kernel
theorem dX9_inPlace_6 : decode cX9_inPlace 6 = .ok (.istore 5, 2) := by decide +kernel
theorem dX9_inPlace_8 : decode cX9_inPlace 8 = .ok (.iload 5, 2) := by decide +kernel
theorem dX9_inPlace_10 : decode cX9_inPlace 10 = .ok (.bipush 6, 2) := by decide +kernel
theorem dX9_inPlace_12 : decode cX9_inPlace 12 = .ok (.if_icmp .ge 42, 3) := by decide +kernel
theorem dX9_inPlace_15 : decode cX9_inPlace 15 = .ok (.iload 4, 2) := by decide +kernel
theorem dX9_inPlace_17 : decode cX9_inPlace 17 = .ok (.ifCond .le 37, 3) := by decide +kernel
theorem dX9_inPlace_20 : decode cX9_inPlace 20 = .ok (.aload_n 0, 1) := by decide +kernel
theorem dX9_inPlace_21 : decode cX9_inPlace 21 = .ok (.iload_n 3, 1) := by decide +kernel
theorem dX9_inPlace_22 : decode cX9_inPlace 22 = .ok (.iload 4, 2) := by decide +kernel
theorem dX9_inPlace_24 : decode cX9_inPlace 24 = .ok (.invokevirtual 92, 3) := by decide +kernel
theorem dX9_inPlace_27 : decode cX9_inPlace 27 = .ok (.istore 6, 2) := by decide +kernel
theorem dX9_inPlace_29 : decode cX9_inPlace 29 = .ok (.aload_n 0, 1) := by decide +kernel
theorem dX9_inPlace_30 : decode cX9_inPlace 30 = .ok (.iload_n 3, 1) := by decide +kernel
theorem dX9_inPlace_31 : decode cX9_inPlace 31 = .ok (.iload 4, 2) := by decide +kernel
theorem dX9_inPlace_33 : decode cX9_inPlace 33 = .ok (.iload 6, 2) := by decide +kernel
theorem dX9_inPlace_35 : decode cX9_inPlace 35 = .ok (.invokevirtual 95, 3) := by decide +kernel
theorem dX9_inPlace_38 : decode cX9_inPlace 38 = .ok (.istore 4, 2) := by decide +kernel
theorem dX9_inPlace_40 : decode cX9_inPlace 40 = .ok (.aload_n 0, 1) := by decide +kernel
theorem dX9_inPlace_41 : decode cX9_inPlace 41 = .ok (.iload_n 3, 1) := by decide +kernel
theorem dX9_inPlace_42 : decode cX9_inPlace 42 = .ok (.iload 6, 2) := by decide +kernel
theorem dX9_inPlace_44 : decode cX9_inPlace 44 = .ok (.invokevirtual 99, 3) := by decide +kernel
theorem dX9_inPlace_47 : decode cX9_inPlace 47 = .ok (.istore_n 3, 1) := by decide +kernel
theorem dX9_inPlace_48 : decode cX9_inPlace 48 = .ok (.iinc 5 1, 3) := by decide +kernel
theorem dX9_inPlace_51 : decode cX9_inPlace 51 = .ok (.goto (-43), 3) := by decide +kernel
theorem dX9_inPlace_54 : decode cX9_inPlace 54 = .ok (.iload_n 3, 1) := by decide +kernel
theorem dX9_inPlace_55 : decode cX9_inPlace 55 = .ok (.ireturn, 1) := by decide +kernel
theorem dX9_argumentAtPlace_0 : decode cX9_argumentAtPlace 0 = .ok (.iconst 1, 1) := by decide +kernel
theorem dX9_argumentAtPlace_1 : decode cX9_argumentAtPlace 1 = .ok (.istore_n 3, 1) := by decide +kernel
theorem dX9_argumentAtPlace_2 : decode cX9_argumentAtPlace 2 = .ok (.aload_n 0, 1) := by decide +kernel
theorem dX9_argumentAtPlace_3 : decode cX9_argumentAtPlace 3 = .ok (.getfield 15, 3) := by decide +kernel
theorem dX9_argumentAtPlace_6 : decode cX9_argumentAtPlace 6 = .ok (.iload_n 1, 1) := by decide +kernel
theorem dX9_argumentAtPlace_7 : decode cX9_argumentAtPlace 7 = .ok (.iaload, 1) := by decide +kernel
theorem dX9_argumentAtPlace_8 : decode cX9_argumentAtPlace 8 = .ok (.iconst 1, 1) := by decide +kernel
theorem dX9_argumentAtPlace_9 : decode cX9_argumentAtPlace 9 = .ok (.isub, 1) := by decide +kernel
theorem dX9_argumentAtPlace_10 : decode cX9_argumentAtPlace 10 = .ok (.istore 4, 2) := by decide +kernel
theorem dX9_argumentAtPlace_12 : decode cX9_argumentAtPlace 12 = .ok (.iconst 0, 1) := by decide +kernel
theorem dX9_argumentAtPlace_13 : decode cX9_argumentAtPlace 13 = .ok (.istore 5, 2) := by decide +kernel
theorem dX9_argumentAtPlace_15 : decode cX9_argumentAtPlace 15 = .ok (.iload 5, 2) := by decide +kernel
theorem dX9_argumentAtPlace_17 : decode cX9_argumentAtPlace 17 = .ok (.iload 4, 2) := by decide +kernel
theorem dX9_argumentAtPlace_19 : decode cX9_argumentAtPlace 19 = .ok (.if_icmp .ge 32, 3) := by decide +kernel
theorem dX9_argumentAtPlace_22 : decode cX9_argumentAtPlace 22 = .ok (.iload_n 3, 1) := by decide +kernel
theorem dX9_argumentAtPlace_23 : decode cX9_argumentAtPlace 23 = .ok (.aload_n 0, 1) := by decide +kernel
theorem dX9_argumentAtPlace_24 : decode cX9_argumentAtPlace 24 = .ok (.getfield 21, 3) := by decide +kernel
theorem dX9_argumentAtPlace_27 : decode cX9_argumentAtPlace 27 = .ok (.aload_n 0, 1) := by decide +kernel
theorem dX9_argumentAtPlace_28 : decode cX9_argumentAtPlace 28 = .ok (.iload_n 1, 1) := by decide +kernel
theorem dX9_argumentAtPlace_29 : decode cX9_argumentAtPlace 29 = .ok (.iload 5, 2) := by decide +kernel
theorem dX9_argumentAtPlace_31 : decode cX9_argumentAtPlace 31 = .ok (.invokevirtual 99, 3) := by decide +kernel
theorem dX9_argumentAtPlace_34 : decode cX9_argumentAtPlace 34 = .ok (.iaload, 1) := by decide +kernel
theorem dX9_argumentAtPlace_35 : decode cX9_argumentAtPlace 35 = .ok (.iadd, 1) := by decide +kernel
theorem dX9_argumentAtPlace_36 : decode cX9_argumentAtPlace 36 = .ok (.istore_n 3, 1) := by decide +kernel
theorem dX9_argumentAtPlace_37 : decode cX9_argumentAtPlace 37 = .ok (.iload_n 2, 1) := by decide +kernel
theorem dX9_argumentAtPlace_38 : decode cX9_argumentAtPlace 38 = .ok (.iload_n 3, 1) := by decide +kernel
theorem dX9_argumentAtPlace_39 : decode cX9_argumentAtPlace 39 = .ok (.if_icmp .ge 6, 3) := by decide +kernel
theorem dX9_argumentAtPlace_42 : decode cX9_argumentAtPlace 42 = .ok (.iload 5, 2) := by decide +kernel
theorem dX9_argumentAtPlace_44 : decode cX9_argumentAtPlace 44 = .ok (.ireturn, 1) := by decide +kernel
theorem dX9_argumentAtPlace_45 : decode cX9_argumentAtPlace 45 = .ok (.iinc 5 1, 3) := by decide +kernel
theorem dX9_argumentAtPlace_48 : decode cX9_argumentAtPlace 48 = .ok (.goto (-33), 3) := by decide +kernel
theorem dX9_argumentAtPlace_51 : decode cX9_argumentAtPlace 51 = .ok (.iload 4, 2) := by decide +kernel
theorem dX9_argumentAtPlace_53 : decode cX9_argumentAtPlace 53 = .ok (.iconst 0, 1) := by decide +kernel
theorem dX9_argumentAtPlace_54 : decode cX9_argumentAtPlace 54 = .ok (.invokestatic 86, 3) := by decide +kernel
theorem dX9_argumentAtPlace_57 : decode cX9_argumentAtPlace 57 = .ok (.ireturn, 1) := by decide +kernel
theorem dX9_placeInArgument_0 : decode cX9_placeInArgument 0 = .ok (.iconst 1, 1) := by decide +kernel
theorem dX9_placeInArgument_1 : decode cX9_placeInArgument 1 = .ok (.istore 4, 2) := by decide +kernel
theorem dX9_placeInArgument_3 : decode cX9_placeInArgument 3 = .ok (.iconst 0, 1) := by decide +kernel
theorem dX9_placeInArgument_4 : decode cX9_placeInArgument 4 = .ok (.istore 5, 2) := by decide +kernel
theorem dX9_placeInArgument_6 : decode cX9_placeInArgument 6 = .ok (.iload 5, 2) := by decide +kernel
theorem dX9_placeInArgument_8 : decode cX9_placeInArgument 8 = .ok (.iload_n 3, 1) := by decide +kernel
theorem dX9_placeInArgument_9 : decode cX9_placeInArgument 9 = .ok (.if_icmp .ge 26, 3) := by decide +kernel
theorem dX9_placeInArgument_12 : decode cX9_placeInArgument 12 = .ok (.iload 4, 2) := by decide +kernel
theorem dX9_placeInArgument_14 : decode cX9_placeInArgument 14 = .ok (.aload_n 0, 1) := by decide +kernel
theorem dX9_placeInArgument_15 : decode cX9_placeInArgument 15 = .ok (.getfield 21, 3) := by decide +kernel
theorem dX9_placeInArgument_18 : decode cX9_placeInArgument 18 = .ok (.aload_n 0, 1) := by decide +kernel
theorem dX9_placeInArgument_19 : decode cX9_placeInArgument 19 = .ok (.iload_n 1, 1) := by decide +kernel
theorem dX9_placeInArgument_20 : decode cX9_placeInArgument 20 = .ok (.iload 5, 2) := by decide +kernel
theorem dX9_placeInArgument_22 : decode cX9_placeInArgument 22 = .ok (.invokevirtual 99, 3) := by decide +kernel
theorem dX9_placeInArgument_25 : decode cX9_placeInArgument 25 = .ok (.iaload, 1) := by decide +kernel
theorem dX9_placeInArgument_26 : decode cX9_placeInArgument 26 = .ok (.iadd, 1) := by decide +kernel
theorem dX9_placeInArgument_27 : decode cX9_placeInArgument 27 = .ok (.istore 4, 2) := by decide +kernel
theorem dX9_placeInArgument_29 : decode cX9_placeInArgument 29 = .ok (.iinc 5 1, 3) := by decide +kernel
theorem dX9_placeInArgument_32 : decode cX9_placeInArgument 32 = .ok (.goto (-26), 3) := by decide +kernel
theorem dX9_placeInArgument_35 : decode cX9_placeInArgument 35 = .ok (.iload_n 2, 1) := by decide +kernel
theorem dX9_placeInArgument_36 : decode cX9_placeInArgument 36 = .ok (.iload 4, 2) := by decide +kernel
theorem dX9_placeInArgument_38 : decode cX9_placeInArgument 38 = .ok (.isub, 1) := by decide +kernel
theorem dX9_placeInArgument_39 : decode cX9_placeInArgument 39 = .ok (.ireturn, 1) := by decide +kernel
theorem dX9_markParts_0 : decode cX9_markParts 0 = .ok (.aload_n 0, 1) := by decide +kernel
theorem dX9_markParts_1 : decode cX9_markParts 1 = .ok (.getfield 42, 3) := by decide +kernel
theorem dX9_markParts_4 : decode cX9_markParts 4 = .ok (.iconst 0, 1) := by decide +kernel
theorem dX9_markParts_5 : decode cX9_markParts 5 = .ok (.invokestatic 53, 3) := by decide +kernel
theorem dX9_markParts_8 : decode cX9_markParts 8 = .ok (.aload_n 0, 1) := by decide +kernel
theorem dX9_markParts_9 : decode cX9_markParts 9 = .ok (.getfield 42, 3) := by decide +kernel
theorem dX9_markParts_12 : decode cX9_markParts 12 = .ok (.iload_n 1, 1) := by decide +kernel
theorem dX9_markParts_13 : decode cX9_markParts 13 = .ok (.iconst 1, 1) := by decide +kernel
theorem dX9_markParts_14 : decode cX9_markParts 14 = .ok (.iastore, 1) := by decide +kernel
theorem dX9_markParts_15 : decode cX9_markParts 15 = .ok (.iload_n 1, 1) := by decide +kernel
theorem dX9_markParts_16 : decode cX9_markParts 16 = .ok (.istore_n 2, 1) := by decide +kernel
theorem dX9_markParts_17 : decode cX9_markParts 17 = .ok (.iload_n 2, 1) := by decide +kernel
theorem dX9_markParts_18 : decode cX9_markParts 18 = .ok (.ifCond .lt 49, 3) := by decide +kernel
theorem dX9_markParts_21 : decode cX9_markParts 21 = .ok (.iconst 0, 1) := by decide +kernel
theorem dX9_markParts_22 : decode cX9_markParts 22 = .ok (.istore_n 3, 1) := by decide +kernel
theorem dX9_markParts_23 : decode cX9_markParts 23 = .ok (.aload_n 0, 1) := by decide +kernel
theorem dX9_markParts_24 : decode cX9_markParts 24 = .ok (.getfield 42, 3) := by decide +kernel
theorem dX9_markParts_27 : decode cX9_markParts 27 = .ok (.iload_n 2, 1) := by decide +kernel
theorem dX9_markParts_28 : decode cX9_markParts 28 = .ok (.iaload, 1) := by decide +kernel
theorem dX9_markParts_29 : decode cX9_markParts 29 = .ok (.iconst 1, 1) := by decide +kernel
theorem dX9_markParts_30 : decode cX9_markParts 30 = .ok (.if_icmp .ne 31, 3) := by decide +kernel
theorem dX9_markParts_33 : decode cX9_markParts 33 = .ok (.iload_n 3, 1) := by decide +kernel
theorem dX9_markParts_34 : decode cX9_markParts 34 = .ok (.aload_n 0, 1) := by decide +kernel
theorem dX9_markParts_35 : decode cX9_markParts 35 = .ok (.getfield 15, 3) := by decide +kernel
theorem dX9_markParts_38 : decode cX9_markParts 38 = .ok (.iload_n 2, 1) := by decide +kernel
theorem dX9_markParts_39 : decode cX9_markParts 39 = .ok (.iaload, 1) := by decide +kernel
theorem dX9_markParts_40 : decode cX9_markParts 40 = .ok (.if_icmp .ge 21, 3) := by decide +kernel
theorem dX9_markParts_43 : decode cX9_markParts 43 = .ok (.aload_n 0, 1) := by decide +kernel
theorem dX9_markParts_44 : decode cX9_markParts 44 = .ok (.getfield 42, 3) := by decide +kernel
theorem dX9_markParts_47 : decode cX9_markParts 47 = .ok (.aload_n 0, 1) := by decide +kernel
theorem dX9_markParts_48 : decode cX9_markParts 48 = .ok (.iload_n 2, 1) := by decide +kernel
theorem dX9_markParts_49 : decode cX9_markParts 49 = .ok (.iload_n 3, 1) := by decide +kernel
theorem dX9_markParts_50 : decode cX9_markParts 50 = .ok (.invokevirtual 99, 3) := by decide +kernel
theorem dX9_markParts_53 : decode cX9_markParts 53 = .ok (.iconst 1, 1) := by decide +kernel
theorem dX9_markParts_54 : decode cX9_markParts 54 = .ok (.iastore, 1) := by decide +kernel
theorem dX9_markParts_55 : decode cX9_markParts 55 = .ok (.iinc 3 1, 3) := by decide +kernel
theorem dX9_markParts_58 : decode cX9_markParts 58 = .ok (.goto (-35), 3) := by decide +kernel
theorem dX9_markParts_61 : decode cX9_markParts 61 = .ok (.iinc 2 (-1), 3) := by decide +kernel
theorem dX9_markParts_64 : decode cX9_markParts 64 = .ok (.goto (-47), 3) := by decide +kernel
theorem dX9_markParts_67 : decode cX9_markParts 67 = .ok (.return_, 1) := by decide +kernel
theorem dX9_shared_0 : decode cX9_shared 0 = .ok (.aload_n 0, 1) := by decide +kernel
theorem dX9_shared_1 : decode cX9_shared 1 = .ok (.iload_n 1, 1) := by decide +kernel
theorem dX9_shared_2 : decode cX9_shared 2 = .ok (.invokevirtual 102, 3) := by decide +kernel
theorem dX9_shared_5 : decode cX9_shared 5 = .ok (.iconst 0, 1) := by decide +kernel
theorem dX9_shared_6 : decode cX9_shared 6 = .ok (.istore_n 2, 1) := by decide +kernel
theorem dX9_shared_7 : decode cX9_shared 7 = .ok (.iconst 0, 1) := by decide +kernel
theorem dX9_shared_8 : decode cX9_shared 8 = .ok (.istore_n 3, 1) := by decide +kernel
theorem dX9_shared_9 : decode cX9_shared 9 = .ok (.iload_n 3, 1) := by decide +kernel
theorem dX9_shared_10 : decode cX9_shared 10 = .ok (.iload_n 1, 1) := by decide +kernel
theorem dX9_shared_11 : decode cX9_shared 11 = .ok (.if_icmp .gt 18, 3) := by decide +kernel
theorem dX9_shared_14 : decode cX9_shared 14 = .ok (.iload_n 2, 1) := by decide +kernel
theorem dX9_shared_15 : decode cX9_shared 15 = .ok (.aload_n 0, 1) := by decide +kernel
theorem dX9_shared_16 : decode cX9_shared 16 = .ok (.getfield 42, 3) := by decide +kernel
theorem dX9_shared_19 : decode cX9_shared 19 = .ok (.iload_n 3, 1) := by decide +kernel
theorem dX9_shared_20 : decode cX9_shared 20 = .ok (.iaload, 1) := by decide +kernel
theorem dX9_shared_21 : decode cX9_shared 21 = .ok (.iadd, 1) := by decide +kernel
theorem dX9_shared_22 : decode cX9_shared 22 = .ok (.istore_n 2, 1) := by decide +kernel
theorem dX9_shared_23 : decode cX9_shared 23 = .ok (.iinc 3 1, 3) := by decide +kernel
theorem dX9_shared_26 : decode cX9_shared 26 = .ok (.goto (-17), 3) := by decide +kernel
theorem dX9_shared_29 : decode cX9_shared 29 = .ok (.iload_n 2, 1) := by decide +kernel
theorem dX9_shared_30 : decode cX9_shared 30 = .ok (.ireturn, 1) := by decide +kernel
theorem dX9_users_0 : decode cX9_users 0 = .ok (.iconst 0, 1) := by decide +kernel
theorem dX9_users_1 : decode cX9_users 1 = .ok (.istore_n 2, 1) := by decide +kernel
theorem dX9_users_2 : decode cX9_users 2 = .ok (.iload_n 1, 1) := by decide +kernel
theorem dX9_users_3 : decode cX9_users 3 = .ok (.iconst 1, 1) := by decide +kernel
theorem dX9_users_4 : decode cX9_users 4 = .ok (.iadd, 1) := by decide +kernel
theorem dX9_users_5 : decode cX9_users 5 = .ok (.istore_n 3, 1) := by decide +kernel
theorem dX9_users_6 : decode cX9_users 6 = .ok (.iload_n 3, 1) := by decide +kernel
theorem dX9_users_7 : decode cX9_users 7 = .ok (.aload_n 0, 1) := by decide +kernel
theorem dX9_users_8 : decode cX9_users 8 = .ok (.getfield 45, 3) := by decide +kernel
theorem dX9_users_11 : decode cX9_users 11 = .ok (.if_icmp .ge 42, 3) := by decide +kernel
theorem dX9_users_14 : decode cX9_users 14 = .ok (.aload_n 0, 1) := by decide +kernel
theorem dX9_users_15 : decode cX9_users 15 = .ok (.iload_n 3, 1) := by decide +kernel
theorem dX9_users_16 : decode cX9_users 16 = .ok (.iconst 0, 1) := by decide +kernel
theorem dX9_users_17 : decode cX9_users 17 = .ok (.invokevirtual 99, 3) := by decide +kernel
theorem dX9_users_20 : decode cX9_users 20 = .ok (.iload_n 1, 1) := by decide +kernel
theorem dX9_users_21 : decode cX9_users 21 = .ok (.if_icmp .eq 23, 3) := by decide +kernel
theorem dX9_users_24 : decode cX9_users 24 = .ok (.aload_n 0, 1) := by decide +kernel
theorem dX9_users_25 : decode cX9_users 25 = .ok (.iload_n 3, 1) := by decide +kernel
theorem dX9_users_26 : decode cX9_users 26 = .ok (.iconst 1, 1) := by decide +kernel
theorem dX9_users_27 : decode cX9_users 27 = .ok (.invokevirtual 99, 3) := by decide +kernel
theorem dX9_users_30 : decode cX9_users 30 = .ok (.iload_n 1, 1) := by decide +kernel
theorem dX9_users_31 : decode cX9_users 31 = .ok (.if_icmp .eq 13, 3) := by decide +kernel
theorem dX9_users_34 : decode cX9_users 34 = .ok (.aload_n 0, 1) := by decide +kernel
theorem dX9_users_35 : decode cX9_users 35 = .ok (.iload_n 3, 1) := by decide +kernel
theorem dX9_users_36 : decode cX9_users 36 = .ok (.iconst 2, 1) := by decide +kernel
theorem dX9_users_37 : decode cX9_users 37 = .ok (.invokevirtual 99, 3) := by decide +kernel
theorem dX9_users_40 : decode cX9_users 40 = .ok (.iload_n 1, 1) := by decide +kernel
theorem dX9_users_41 : decode cX9_users 41 = .ok (.if_icmp .ne 6, 3) := by decide +kernel
theorem dX9_users_44 : decode cX9_users 44 = .ok (.iinc 2 1, 3) := by decide +kernel
theorem dX9_users_47 : decode cX9_users 47 = .ok (.iinc 3 1, 3) := by decide +kernel
theorem dX9_users_50 : decode cX9_users 50 = .ok (.goto (-44), 3) := by decide +kernel
theorem dX9_users_53 : decode cX9_users 53 = .ok (.iload_n 2, 1) := by decide +kernel
theorem dX9_users_54 : decode cX9_users 54 = .ok (.ireturn, 1) := by decide +kernel
theorem dX9_unlikeShapes_0 : decode cX9_unlikeShapes 0 = .ok (.iconst 0, 1) := by decide +kernel
theorem dX9_unlikeShapes_1 : decode cX9_unlikeShapes 1 = .ok (.istore_n 1, 1) := by decide +kernel
theorem dX9_unlikeShapes_2 : decode cX9_unlikeShapes 2 = .ok (.iconst 0, 1) := by decide +kernel
theorem dX9_unlikeShapes_3 : decode cX9_unlikeShapes 3 = .ok (.istore_n 2, 1) := by decide +kernel
theorem dX9_unlikeShapes_4 : decode cX9_unlikeShapes 4 = .ok (.iload_n 2, 1) := by decide +kernel
theorem dX9_unlikeShapes_5 : decode cX9_unlikeShapes 5 = .ok (.aload_n 0, 1) := by decide +kernel
theorem dX9_unlikeShapes_6 : decode cX9_unlikeShapes 6 = .ok (.getfield 45, 3) := by decide +kernel
theorem dX9_unlikeShapes_9 : decode cX9_unlikeShapes 9 = .ok (.if_icmp .ge 27, 3) := by decide +kernel
theorem dX9_unlikeShapes_12 : decode cX9_unlikeShapes 12 = .ok (.iload_n 1, 1) := by decide +kernel
theorem dX9_unlikeShapes_13 : decode cX9_unlikeShapes 13 = .ok (.aload_n 0, 1) := by decide +kernel
theorem dX9_unlikeShapes_14 : decode cX9_unlikeShapes 14 = .ok (.getfield 33, 3) := by decide +kernel
theorem dX9_unlikeShapes_17 : decode cX9_unlikeShapes 17 = .ok (.iload_n 2, 1) := by decide +kernel
theorem dX9_unlikeShapes_18 : decode cX9_unlikeShapes 18 = .ok (.iaload, 1) := by decide +kernel
theorem dX9_unlikeShapes_19 : decode cX9_unlikeShapes 19 = .ok (.iload_n 2, 1) := by decide +kernel
theorem dX9_unlikeShapes_20 : decode cX9_unlikeShapes 20 = .ok (.if_icmp .ne 7, 3) := by decide +kernel
theorem dX9_unlikeShapes_23 : decode cX9_unlikeShapes 23 = .ok (.iconst 1, 1) := by decide +kernel
theorem dX9_unlikeShapes_24 : decode cX9_unlikeShapes 24 = .ok (.goto 4, 3) := by decide +kernel
theorem dX9_unlikeShapes_27 : decode cX9_unlikeShapes 27 = .ok (.iconst 0, 1) := by decide +kernel
theorem dX9_unlikeShapes_28 : decode cX9_unlikeShapes 28 = .ok (.iadd, 1) := by decide +kernel
theorem dX9_unlikeShapes_29 : decode cX9_unlikeShapes 29 = .ok (.istore_n 1, 1) := by decide +kernel
theorem dX9_unlikeShapes_30 : decode cX9_unlikeShapes 30 = .ok (.iinc 2 1, 3) := by decide +kernel
theorem dX9_unlikeShapes_33 : decode cX9_unlikeShapes 33 = .ok (.goto (-29), 3) := by decide +kernel
theorem dX9_unlikeShapes_36 : decode cX9_unlikeShapes 36 = .ok (.iload_n 1, 1) := by decide +kernel
theorem dX9_unlikeShapes_37 : decode cX9_unlikeShapes 37 = .ok (.ireturn, 1) := by decide +kernel
theorem dX9_takeFrom_0 : decode cX9_takeFrom 0 = .ok (.aload_n 0, 1) := by decide +kernel
theorem dX9_takeFrom_1 : decode cX9_takeFrom 1 = .ok (.aload_n 1, 1) := by decide +kernel
theorem dX9_takeFrom_2 : decode cX9_takeFrom 2 = .ok (.getfield 45, 3) := by decide +kernel
theorem dX9_takeFrom_5 : decode cX9_takeFrom 5 = .ok (.putfield 45, 3) := by decide +kernel
theorem dX9_takeFrom_8 : decode cX9_takeFrom 8 = .ok (.aload_n 1, 1) := by decide +kernel
theorem dX9_takeFrom_9 : decode cX9_takeFrom 9 = .ok (.getfield 11, 3) := by decide +kernel
theorem dX9_takeFrom_12 : decode cX9_takeFrom 12 = .ok (.iconst 0, 1) := by decide +kernel
theorem dX9_takeFrom_13 : decode cX9_takeFrom 13 = .ok (.aload_n 0, 1) := by decide +kernel
theorem dX9_takeFrom_14 : decode cX9_takeFrom 14 = .ok (.getfield 11, 3) := by decide +kernel
theorem dX9_takeFrom_17 : decode cX9_takeFrom 17 = .ok (.iconst 0, 1) := by decide +kernel
theorem dX9_takeFrom_18 : decode cX9_takeFrom 18 = .ok (.aload_n 0, 1) := by decide +kernel
theorem dX9_takeFrom_19 : decode cX9_takeFrom 19 = .ok (.getfield 45, 3) := by decide +kernel
theorem dX9_takeFrom_22 : decode cX9_takeFrom 22 = .ok (.invokestatic 105, 3) := by decide +kernel
theorem dX9_takeFrom_25 : decode cX9_takeFrom 25 = .ok (.aload_n 1, 1) := by decide +kernel
theorem dX9_takeFrom_26 : decode cX9_takeFrom 26 = .ok (.getfield 15, 3) := by decide +kernel
theorem dX9_takeFrom_29 : decode cX9_takeFrom 29 = .ok (.iconst 0, 1) := by decide +kernel
theorem dX9_takeFrom_30 : decode cX9_takeFrom 30 = .ok (.aload_n 0, 1) := by decide +kernel
theorem dX9_takeFrom_31 : decode cX9_takeFrom 31 = .ok (.getfield 15, 3) := by decide +kernel
theorem dX9_takeFrom_34 : decode cX9_takeFrom 34 = .ok (.iconst 0, 1) := by decide +kernel
theorem dX9_takeFrom_35 : decode cX9_takeFrom 35 = .ok (.aload_n 0, 1) := by decide +kernel
theorem dX9_takeFrom_36 : decode cX9_takeFrom 36 = .ok (.getfield 45, 3) := by decide +kernel
theorem dX9_takeFrom_39 : decode cX9_takeFrom 39 = .ok (.invokestatic 105, 3) := by decide +kernel
theorem dX9_takeFrom_42 : decode cX9_takeFrom 42 = .ok (.aload_n 1, 1) := by decide +kernel
theorem dX9_takeFrom_43 : decode cX9_takeFrom 43 = .ok (.getfield 18, 3) := by decide +kernel
theorem dX9_takeFrom_46 : decode cX9_takeFrom 46 = .ok (.iconst 0, 1) := by decide +kernel
theorem dX9_takeFrom_47 : decode cX9_takeFrom 47 = .ok (.aload_n 0, 1) := by decide +kernel
theorem dX9_takeFrom_48 : decode cX9_takeFrom 48 = .ok (.getfield 18, 3) := by decide +kernel
theorem dX9_takeFrom_51 : decode cX9_takeFrom 51 = .ok (.iconst 0, 1) := by decide +kernel
theorem dX9_takeFrom_52 : decode cX9_takeFrom 52 = .ok (.aload_n 0, 1) := by decide +kernel
theorem dX9_takeFrom_53 : decode cX9_takeFrom 53 = .ok (.getfield 45, 3) := by decide +kernel
theorem dX9_takeFrom_56 : decode cX9_takeFrom 56 = .ok (.iconst 3, 1) := by decide +kernel
theorem dX9_takeFrom_57 : decode cX9_takeFrom 57 = .ok (.imul, 1) := by decide +kernel
theorem dX9_takeFrom_58 : decode cX9_takeFrom 58 = .ok (.invokestatic 105, 3) := by decide +kernel
theorem dX9_takeFrom_61 : decode cX9_takeFrom 61 = .ok (.aload_n 1, 1) := by decide +kernel
theorem dX9_takeFrom_62 : decode cX9_takeFrom 62 = .ok (.getfield 21, 3) := by decide +kernel
theorem dX9_takeFrom_65 : decode cX9_takeFrom 65 = .ok (.iconst 0, 1) := by decide +kernel
theorem dX9_takeFrom_66 : decode cX9_takeFrom 66 = .ok (.aload_n 0, 1) := by decide +kernel
theorem dX9_takeFrom_67 : decode cX9_takeFrom 67 = .ok (.getfield 21, 3) := by decide +kernel
theorem dX9_takeFrom_70 : decode cX9_takeFrom 70 = .ok (.iconst 0, 1) := by decide +kernel
theorem dX9_takeFrom_71 : decode cX9_takeFrom 71 = .ok (.aload_n 0, 1) := by decide +kernel
theorem dX9_takeFrom_72 : decode cX9_takeFrom 72 = .ok (.getfield 45, 3) := by decide +kernel
theorem dX9_takeFrom_75 : decode cX9_takeFrom 75 = .ok (.invokestatic 105, 3) := by decide +kernel
theorem dX9_takeFrom_78 : decode cX9_takeFrom 78 = .ok (.aload_n 1, 1) := by decide +kernel
theorem dX9_takeFrom_79 : decode cX9_takeFrom 79 = .ok (.getfield 24, 3) := by decide +kernel
theorem dX9_takeFrom_82 : decode cX9_takeFrom 82 = .ok (.iconst 0, 1) := by decide +kernel
theorem dX9_takeFrom_83 : decode cX9_takeFrom 83 = .ok (.aload_n 0, 1) := by decide +kernel
theorem dX9_takeFrom_84 : decode cX9_takeFrom 84 = .ok (.getfield 24, 3) := by decide +kernel
theorem dX9_takeFrom_87 : decode cX9_takeFrom 87 = .ok (.iconst 0, 1) := by decide +kernel
theorem dX9_takeFrom_88 : decode cX9_takeFrom 88 = .ok (.aload_n 0, 1) := by decide +kernel
theorem dX9_takeFrom_89 : decode cX9_takeFrom 89 = .ok (.getfield 45, 3) := by decide +kernel
theorem dX9_takeFrom_92 : decode cX9_takeFrom 92 = .ok (.invokestatic 105, 3) := by decide +kernel
theorem dX9_takeFrom_95 : decode cX9_takeFrom 95 = .ok (.aload_n 1, 1) := by decide +kernel
theorem dX9_takeFrom_96 : decode cX9_takeFrom 96 = .ok (.getfield 27, 3) := by decide +kernel
theorem dX9_takeFrom_99 : decode cX9_takeFrom 99 = .ok (.iconst 0, 1) := by decide +kernel
theorem dX9_takeFrom_100 : decode cX9_takeFrom 100 = .ok (.aload_n 0, 1) := by decide +kernel
theorem dX9_takeFrom_101 : decode cX9_takeFrom 101 = .ok (.getfield 27, 3) := by decide +kernel
theorem dX9_takeFrom_104 : decode cX9_takeFrom 104 = .ok (.iconst 0, 1) := by decide +kernel
theorem dX9_takeFrom_105 : decode cX9_takeFrom 105 = .ok (.aload_n 0, 1) := by decide +kernel
theorem dX9_takeFrom_106 : decode cX9_takeFrom 106 = .ok (.getfield 45, 3) := by decide +kernel
theorem dX9_takeFrom_109 : decode cX9_takeFrom 109 = .ok (.invokestatic 105, 3) := by decide +kernel
theorem dX9_takeFrom_112 : decode cX9_takeFrom 112 = .ok (.aload_n 1, 1) := by decide +kernel
theorem dX9_takeFrom_113 : decode cX9_takeFrom 113 = .ok (.getfield 30, 3) := by decide +kernel
theorem dX9_takeFrom_116 : decode cX9_takeFrom 116 = .ok (.iconst 0, 1) := by decide +kernel
theorem dX9_takeFrom_117 : decode cX9_takeFrom 117 = .ok (.aload_n 0, 1) := by decide +kernel
theorem dX9_takeFrom_118 : decode cX9_takeFrom 118 = .ok (.getfield 30, 3) := by decide +kernel
theorem dX9_takeFrom_121 : decode cX9_takeFrom 121 = .ok (.iconst 0, 1) := by decide +kernel
theorem dX9_takeFrom_122 : decode cX9_takeFrom 122 = .ok (.aload_n 0, 1) := by decide +kernel
theorem dX9_takeFrom_123 : decode cX9_takeFrom 123 = .ok (.getfield 45, 3) := by decide +kernel
theorem dX9_takeFrom_126 : decode cX9_takeFrom 126 = .ok (.invokestatic 105, 3) := by decide +kernel
theorem dX9_takeFrom_129 : decode cX9_takeFrom 129 = .ok (.aload_n 1, 1) := by decide +kernel
theorem dX9_takeFrom_130 : decode cX9_takeFrom 130 = .ok (.getfield 33, 3) := by decide +kernel
theorem dX9_takeFrom_133 : decode cX9_takeFrom 133 = .ok (.iconst 0, 1) := by decide +kernel
theorem dX9_takeFrom_134 : decode cX9_takeFrom 134 = .ok (.aload_n 0, 1) := by decide +kernel
theorem dX9_takeFrom_135 : decode cX9_takeFrom 135 = .ok (.getfield 33, 3) := by decide +kernel
theorem dX9_takeFrom_138 : decode cX9_takeFrom 138 = .ok (.iconst 0, 1) := by decide +kernel
theorem dX9_takeFrom_139 : decode cX9_takeFrom 139 = .ok (.aload_n 0, 1) := by decide +kernel
theorem dX9_takeFrom_140 : decode cX9_takeFrom 140 = .ok (.getfield 45, 3) := by decide +kernel
theorem dX9_takeFrom_143 : decode cX9_takeFrom 143 = .ok (.invokestatic 105, 3) := by decide +kernel
theorem dX9_takeFrom_146 : decode cX9_takeFrom 146 = .ok (.aload_n 1, 1) := by decide +kernel
theorem dX9_takeFrom_147 : decode cX9_takeFrom 147 = .ok (.getfield 36, 3) := by decide +kernel
theorem dX9_takeFrom_150 : decode cX9_takeFrom 150 = .ok (.iconst 0, 1) := by decide +kernel
theorem dX9_takeFrom_151 : decode cX9_takeFrom 151 = .ok (.aload_n 0, 1) := by decide +kernel
theorem dX9_takeFrom_152 : decode cX9_takeFrom 152 = .ok (.getfield 36, 3) := by decide +kernel
theorem dX9_takeFrom_155 : decode cX9_takeFrom 155 = .ok (.iconst 0, 1) := by decide +kernel
theorem dX9_takeFrom_156 : decode cX9_takeFrom 156 = .ok (.aload_n 0, 1) := by decide +kernel
theorem dX9_takeFrom_157 : decode cX9_takeFrom 157 = .ok (.getfield 45, 3) := by decide +kernel
theorem dX9_takeFrom_160 : decode cX9_takeFrom 160 = .ok (.invokestatic 105, 3) := by decide +kernel
theorem dX9_takeFrom_163 : decode cX9_takeFrom 163 = .ok (.aload_n 1, 1) := by decide +kernel
theorem dX9_takeFrom_164 : decode cX9_takeFrom 164 = .ok (.getfield 39, 3) := by decide +kernel
theorem dX9_takeFrom_167 : decode cX9_takeFrom 167 = .ok (.iconst 0, 1) := by decide +kernel
theorem dX9_takeFrom_168 : decode cX9_takeFrom 168 = .ok (.aload_n 0, 1) := by decide +kernel
theorem dX9_takeFrom_169 : decode cX9_takeFrom 169 = .ok (.getfield 39, 3) := by decide +kernel
theorem dX9_takeFrom_172 : decode cX9_takeFrom 172 = .ok (.iconst 0, 1) := by decide +kernel
theorem dX9_takeFrom_173 : decode cX9_takeFrom 173 = .ok (.sipush 256, 3) := by decide +kernel
theorem dX9_takeFrom_176 : decode cX9_takeFrom 176 = .ok (.invokestatic 105, 3) := by decide +kernel
theorem dX9_takeFrom_179 : decode cX9_takeFrom 179 = .ok (.return_, 1) := by decide +kernel
end
