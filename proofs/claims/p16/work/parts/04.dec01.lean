theorem dX2_init_0 : decode cX2_init 0 = .ok (.aload_n 0, 1) := by decide +kernel
theorem dX2_init_1 : decode cX2_init 1 = .ok (.invokespecial 3, 3) := by decide +kernel
theorem dX2_init_4 : decode cX2_init 4 = .ok (.aload_n 0, 1) := by decide +kernel
theorem dX2_init_5 : decode cX2_init 5 = .ok (.bipush 8, 2) := by decide +kernel
theorem dX2_init_7 : decode cX2_init 7 = .ok (.newarray .int, 2) := by decide +kernel
theorem dX2_init_9 : decode cX2_init 9 = .ok (.putfield 9, 3) := by decide +kernel
theorem dX2_init_12 : decode cX2_init 12 = .ok (.aload_n 0, 1) := by decide +kernel
theorem dX2_init_13 : decode cX2_init 13 = .ok (.bipush 8, 2) := by decide +kernel
theorem dX2_init_15 : decode cX2_init 15 = .ok (.newarray .int, 2) := by decide +kernel
theorem dX2_init_17 : decode cX2_init 17 = .ok (.putfield 15, 3) := by decide +kernel
theorem dX2_init_20 : decode cX2_init 20 = .ok (.aload_n 0, 1) := by decide +kernel
theorem dX2_init_21 : decode cX2_init 21 = .ok (.bipush 8, 2) := by decide +kernel
theorem dX2_init_23 : decode cX2_init 23 = .ok (.newarray .int, 2) := by decide +kernel
theorem dX2_init_25 : decode cX2_init 25 = .ok (.putfield 18, 3) := by decide +kernel
theorem dX2_init_28 : decode cX2_init 28 = .ok (.aload_n 0, 1) := by decide +kernel
theorem dX2_init_29 : decode cX2_init 29 = .ok (.iconst 0, 1) := by decide +kernel
theorem dX2_init_30 : decode cX2_init 30 = .ok (.putfield 21, 3) := by decide +kernel
theorem dX2_init_33 : decode cX2_init 33 = .ok (.aload_n 0, 1) := by decide +kernel
theorem dX2_init_34 : decode cX2_init 34 = .ok (.iconst 0, 1) := by decide +kernel
theorem dX2_init_35 : decode cX2_init 35 = .ok (.putfield 25, 3) := by decide +kernel
theorem dX2_init_38 : decode cX2_init 38 = .ok (.aload_n 0, 1) := by decide +kernel
theorem dX2_init_39 : decode cX2_init 39 = .ok (.aload_n 1, 1) := by decide +kernel
theorem dX2_init_40 : decode cX2_init 40 = .ok (.putfield 28, 3) := by decide +kernel
theorem dX2_init_43 : decode cX2_init 43 = .ok (.return_, 1) := by decide +kernel
theorem dX2_applied_0 : decode cX2_applied 0 = .ok (.aload_n 0, 1) := by decide +kernel
theorem dX2_applied_1 : decode cX2_applied 1 = .ok (.iload_n 1, 1) := by decide +kernel
theorem dX2_applied_2 : decode cX2_applied 2 = .ok (.aload_n 2, 1) := by decide +kernel
theorem dX2_applied_3 : decode cX2_applied 3 = .ok (.iload_n 3, 1) := by decide +kernel
theorem dX2_applied_4 : decode cX2_applied 4 = .ok (.iconst 1, 1) := by decide +kernel
theorem dX2_applied_5 : decode cX2_applied 5 = .ok (.invokevirtual 32, 3) := by decide +kernel
theorem dX2_applied_8 : decode cX2_applied 8 = .ok (.ireturn, 1) := by decide +kernel
theorem dX2_appliedPart_0 : decode cX2_appliedPart 0 = .ok (.iload 4, 2) := by decide +kernel
theorem dX2_appliedPart_2 : decode cX2_appliedPart 2 = .ok (.bipush 6, 2) := by decide +kernel
theorem dX2_appliedPart_4 : decode cX2_appliedPart 4 = .ok (.if_icmp .le 6, 3) := by decide +kernel
theorem dX2_appliedPart_7 : decode cX2_appliedPart 7 = .ok (.bipush (-3), 2) := by decide +kernel
theorem dX2_appliedPart_9 : decode cX2_appliedPart 9 = .ok (.ireturn, 1) := by decide +kernel
theorem dX2_appliedPart_10 : decode cX2_appliedPart 10 = .ok (.aload_n 0, 1) := by decide +kernel
theorem dX2_appliedPart_11 : decode cX2_appliedPart 11 = .ok (.getfield 28, 3) := by decide +kernel
theorem dX2_appliedPart_14 : decode cX2_appliedPart 14 = .ok (.iload_n 1, 1) := by decide +kernel
theorem dX2_appliedPart_15 : decode cX2_appliedPart 15 = .ok (.invokevirtual 36, 3) := by decide +kernel
theorem dX2_appliedPart_18 : decode cX2_appliedPart 18 = .ok (.ifCond .eq 33, 3) := by decide +kernel
theorem dX2_appliedPart_21 : decode cX2_appliedPart 21 = .ok (.aload_n 2, 1) := by decide +kernel
theorem dX2_appliedPart_22 : decode cX2_appliedPart 22 = .ok (.iload_n 3, 1) := by decide +kernel
theorem dX2_appliedPart_23 : decode cX2_appliedPart 23 = .ok (.aload_n 0, 1) := by decide +kernel
theorem dX2_appliedPart_24 : decode cX2_appliedPart 24 = .ok (.getfield 28, 3) := by decide +kernel
theorem dX2_appliedPart_27 : decode cX2_appliedPart 27 = .ok (.getfield 42, 3) := by decide +kernel
theorem dX2_appliedPart_30 : decode cX2_appliedPart 30 = .ok (.iload_n 1, 1) := by decide +kernel
theorem dX2_appliedPart_31 : decode cX2_appliedPart 31 = .ok (.iaload, 1) := by decide +kernel
theorem dX2_appliedPart_32 : decode cX2_appliedPart 32 = .ok (.iconst (-1), 1) := by decide +kernel
theorem dX2_appliedPart_33 : decode cX2_appliedPart 33 = .ok (.ixor, 1) := by decide +kernel
theorem dX2_appliedPart_34 : decode cX2_appliedPart 34 = .ok (.iadd, 1) := by decide +kernel
theorem dX2_appliedPart_35 : decode cX2_appliedPart 35 = .ok (.iaload, 1) := by decide +kernel
theorem dX2_appliedPart_36 : decode cX2_appliedPart 36 = .ok (.istore 5, 2) := by decide +kernel
theorem dX2_appliedPart_38 : decode cX2_appliedPart 38 = .ok (.iload 5, 2) := by decide +kernel
theorem dX2_appliedPart_40 : decode cX2_appliedPart 40 = .ok (.iconst (-1), 1) := by decide +kernel
theorem dX2_appliedPart_41 : decode cX2_appliedPart 41 = .ok (.if_icmp .ne 7, 3) := by decide +kernel
theorem dX2_appliedPart_44 : decode cX2_appliedPart 44 = .ok (.iload_n 1, 1) := by decide +kernel
theorem dX2_appliedPart_45 : decode cX2_appliedPart 45 = .ok (.goto 5, 3) := by decide +kernel
theorem dX2_appliedPart_48 : decode cX2_appliedPart 48 = .ok (.iload 5, 2) := by decide +kernel
theorem dX2_appliedPart_50 : decode cX2_appliedPart 50 = .ok (.ireturn, 1) := by decide +kernel
theorem dX2_appliedPart_51 : decode cX2_appliedPart 51 = .ok (.aload_n 0, 1) := by decide +kernel
theorem dX2_appliedPart_52 : decode cX2_appliedPart 52 = .ok (.getfield 28, 3) := by decide +kernel
theorem dX2_appliedPart_55 : decode cX2_appliedPart 55 = .ok (.getfield 45, 3) := by decide +kernel
theorem dX2_appliedPart_58 : decode cX2_appliedPart 58 = .ok (.iload_n 1, 1) := by decide +kernel
theorem dX2_appliedPart_59 : decode cX2_appliedPart 59 = .ok (.iaload, 1) := by decide +kernel
theorem dX2_appliedPart_60 : decode cX2_appliedPart 60 = .ok (.istore 5, 2) := by decide +kernel
theorem dX2_appliedPart_62 : decode cX2_appliedPart 62 = .ok (.iload 5, 2) := by decide +kernel
theorem dX2_appliedPart_64 : decode cX2_appliedPart 64 = .ok (.iconst 1, 1) := by decide +kernel
theorem dX2_appliedPart_65 : decode cX2_appliedPart 65 = .ok (.if_icmp .ge 7, 3) := by decide +kernel
theorem dX2_appliedPart_68 : decode cX2_appliedPart 68 = .ok (.iconst (-1), 1) := by decide +kernel
theorem dX2_appliedPart_69 : decode cX2_appliedPart 69 = .ok (.goto 22, 3) := by decide +kernel
theorem dX2_appliedPart_72 : decode cX2_appliedPart 72 = .ok (.aload_n 0, 1) := by decide +kernel
theorem dX2_appliedPart_73 : decode cX2_appliedPart 73 = .ok (.aload_n 0, 1) := by decide +kernel
theorem dX2_appliedPart_74 : decode cX2_appliedPart 74 = .ok (.getfield 28, 3) := by decide +kernel
theorem dX2_appliedPart_77 : decode cX2_appliedPart 77 = .ok (.iload_n 1, 1) := by decide +kernel
theorem dX2_appliedPart_78 : decode cX2_appliedPart 78 = .ok (.iconst 0, 1) := by decide +kernel
theorem dX2_appliedPart_79 : decode cX2_appliedPart 79 = .ok (.invokevirtual 48, 3) := by decide +kernel
theorem dX2_appliedPart_82 : decode cX2_appliedPart 82 = .ok (.aload_n 2, 1) := by decide +kernel
theorem dX2_appliedPart_83 : decode cX2_appliedPart 83 = .ok (.iload_n 3, 1) := by decide +kernel
theorem dX2_appliedPart_84 : decode cX2_appliedPart 84 = .ok (.iload 4, 2) := by decide +kernel
theorem dX2_appliedPart_86 : decode cX2_appliedPart 86 = .ok (.iconst 1, 1) := by decide +kernel
theorem dX2_appliedPart_87 : decode cX2_appliedPart 87 = .ok (.iadd, 1) := by decide +kernel
theorem dX2_appliedPart_88 : decode cX2_appliedPart 88 = .ok (.invokevirtual 32, 3) := by decide +kernel
theorem dX2_appliedPart_91 : decode cX2_appliedPart 91 = .ok (.istore 6, 2) := by decide +kernel
theorem dX2_appliedPart_93 : decode cX2_appliedPart 93 = .ok (.iload 5, 2) := by decide +kernel
theorem dX2_appliedPart_95 : decode cX2_appliedPart 95 = .ok (.iconst 2, 1) := by decide +kernel
theorem dX2_appliedPart_96 : decode cX2_appliedPart 96 = .ok (.if_icmp .ge 7, 3) := by decide +kernel
theorem dX2_appliedPart_99 : decode cX2_appliedPart 99 = .ok (.iconst (-1), 1) := by decide +kernel
theorem dX2_appliedPart_100 : decode cX2_appliedPart 100 = .ok (.goto 22, 3) := by decide +kernel
theorem dX2_appliedPart_103 : decode cX2_appliedPart 103 = .ok (.aload_n 0, 1) := by decide +kernel
theorem dX2_appliedPart_104 : decode cX2_appliedPart 104 = .ok (.aload_n 0, 1) := by decide +kernel
theorem dX2_appliedPart_105 : decode cX2_appliedPart 105 = .ok (.getfield 28, 3) := by decide +kernel
theorem dX2_appliedPart_108 : decode cX2_appliedPart 108 = .ok (.iload_n 1, 1) := by decide +kernel
theorem dX2_appliedPart_109 : decode cX2_appliedPart 109 = .ok (.iconst 1, 1) := by decide +kernel
theorem dX2_appliedPart_110 : decode cX2_appliedPart 110 = .ok (.invokevirtual 48, 3) := by decide +kernel
theorem dX2_appliedPart_113 : decode cX2_appliedPart 113 = .ok (.aload_n 2, 1) := by decide +kernel
theorem dX2_appliedPart_114 : decode cX2_appliedPart 114 = .ok (.iload_n 3, 1) := by decide +kernel
theorem dX2_appliedPart_115 : decode cX2_appliedPart 115 = .ok (.iload 4, 2) := by decide +kernel
theorem dX2_appliedPart_117 : decode cX2_appliedPart 117 = .ok (.iconst 1, 1) := by decide +kernel
theorem dX2_appliedPart_118 : decode cX2_appliedPart 118 = .ok (.iadd, 1) := by decide +kernel
theorem dX2_appliedPart_119 : decode cX2_appliedPart 119 = .ok (.invokevirtual 32, 3) := by decide +kernel
theorem dX2_appliedPart_122 : decode cX2_appliedPart 122 = .ok (.istore 7, 2) := by decide +kernel
theorem dX2_appliedPart_124 : decode cX2_appliedPart 124 = .ok (.iload 5, 2) := by decide +kernel
theorem dX2_appliedPart_126 : decode cX2_appliedPart 126 = .ok (.iconst 3, 1) := by decide +kernel
theorem dX2_appliedPart_127 : decode cX2_appliedPart 127 = .ok (.if_icmp .ge 7, 3) := by decide +kernel
theorem dX2_appliedPart_130 : decode cX2_appliedPart 130 = .ok (.iconst (-1), 1) := by decide +kernel
theorem dX2_appliedPart_131 : decode cX2_appliedPart 131 = .ok (.goto 22, 3) := by decide +kernel
theorem dX2_appliedPart_134 : decode cX2_appliedPart 134 = .ok (.aload_n 0, 1) := by decide +kernel
theorem dX2_appliedPart_135 : decode cX2_appliedPart 135 = .ok (.aload_n 0, 1) := by decide +kernel
theorem dX2_appliedPart_136 : decode cX2_appliedPart 136 = .ok (.getfield 28, 3) := by decide +kernel
theorem dX2_appliedPart_139 : decode cX2_appliedPart 139 = .ok (.iload_n 1, 1) := by decide +kernel
theorem dX2_appliedPart_140 : decode cX2_appliedPart 140 = .ok (.iconst 2, 1) := by decide +kernel
theorem dX2_appliedPart_141 : decode cX2_appliedPart 141 = .ok (.invokevirtual 48, 3) := by decide +kernel
theorem dX2_appliedPart_144 : decode cX2_appliedPart 144 = .ok (.aload_n 2, 1) := by decide +kernel
theorem dX2_appliedPart_145 : decode cX2_appliedPart 145 = .ok (.iload_n 3, 1) := by decide +kernel
theorem dX2_appliedPart_146 : decode cX2_appliedPart 146 = .ok (.iload 4, 2) := by decide +kernel
theorem dX2_appliedPart_148 : decode cX2_appliedPart 148 = .ok (.iconst 1, 1) := by decide +kernel
theorem dX2_appliedPart_149 : decode cX2_appliedPart 149 = .ok (.iadd, 1) := by decide +kernel
theorem dX2_appliedPart_150 : decode cX2_appliedPart 150 = .ok (.invokevirtual 32, 3) := by decide +kernel
theorem dX2_appliedPart_153 : decode cX2_appliedPart 153 = .ok (.istore 8, 2) := by decide +kernel
theorem dX2_appliedPart_155 : decode cX2_appliedPart 155 = .ok (.aload_n 0, 1) := by decide +kernel
theorem dX2_appliedPart_156 : decode cX2_appliedPart 156 = .ok (.getfield 28, 3) := by decide +kernel
theorem dX2_appliedPart_159 : decode cX2_appliedPart 159 = .ok (.aload_n 0, 1) := by decide +kernel
theorem dX2_appliedPart_160 : decode cX2_appliedPart 160 = .ok (.getfield 28, 3) := by decide +kernel
theorem dX2_appliedPart_163 : decode cX2_appliedPart 163 = .ok (.getfield 42, 3) := by decide +kernel
theorem dX2_appliedPart_166 : decode cX2_appliedPart 166 = .ok (.iload_n 1, 1) := by decide +kernel
theorem dX2_appliedPart_167 : decode cX2_appliedPart 167 = .ok (.iaload, 1) := by decide +kernel
theorem dX2_appliedPart_168 : decode cX2_appliedPart 168 = .ok (.iload 6, 2) := by decide +kernel
theorem dX2_appliedPart_170 : decode cX2_appliedPart 170 = .ok (.iload 7, 2) := by decide +kernel
theorem dX2_appliedPart_172 : decode cX2_appliedPart 172 = .ok (.iload 8, 2) := by decide +kernel
theorem dX2_appliedPart_174 : decode cX2_appliedPart 174 = .ok (.invokevirtual 52, 3) := by decide +kernel
theorem dX2_appliedPart_177 : decode cX2_appliedPart 177 = .ok (.ireturn, 1) := by decide +kernel
theorem dX2_hasRing_0 : decode cX2_hasRing 0 = .ok (.aload_n 0, 1) := by decide +kernel
theorem dX2_hasRing_1 : decode cX2_hasRing 1 = .ok (.aload_n 0, 1) := by decide +kernel
theorem dX2_hasRing_2 : decode cX2_hasRing 2 = .ok (.getfield 28, 3) := by decide +kernel
theorem dX2_hasRing_5 : decode cX2_hasRing 5 = .ok (.getfield 56, 3) := by decide +kernel
theorem dX2_hasRing_8 : decode cX2_hasRing 8 = .ok (.iload_n 1, 1) := by decide +kernel
theorem dX2_hasRing_9 : decode cX2_hasRing 9 = .ok (.iaload, 1) := by decide +kernel
theorem dX2_hasRing_10 : decode cX2_hasRing 10 = .ok (.aload_n 2, 1) := by decide +kernel
theorem dX2_hasRing_11 : decode cX2_hasRing 11 = .ok (.iload_n 3, 1) := by decide +kernel
theorem dX2_hasRing_12 : decode cX2_hasRing 12 = .ok (.invokevirtual 59, 3) := by decide +kernel
theorem dX2_hasRing_15 : decode cX2_hasRing 15 = .ok (.istore 4, 2) := by decide +kernel
theorem dX2_hasRing_17 : decode cX2_hasRing 17 = .ok (.iconst 0, 1) := by decide +kernel
theorem dX2_hasRing_18 : decode cX2_hasRing 18 = .ok (.istore 5, 2) := by decide +kernel
theorem dX2_hasRing_20 : decode cX2_hasRing 20 = .ok (.iload 5, 2) := by decide +kernel
theorem dX2_hasRing_22 : decode cX2_hasRing 22 = .ok (.bipush 8, 2) := by decide +kernel
theorem dX2_hasRing_24 : decode cX2_hasRing 24 = .ok (.if_icmp .ge 59, 3) := by decide +kernel
theorem dX2_hasRing_27 : decode cX2_hasRing 27 = .ok (.aload_n 2, 1) := by decide +kernel
theorem dX2_hasRing_28 : decode cX2_hasRing 28 = .ok (.iload_n 3, 1) := by decide +kernel
theorem dX2_hasRing_29 : decode cX2_hasRing 29 = .ok (.iload 5, 2) := by decide +kernel
theorem dX2_hasRing_31 : decode cX2_hasRing 31 = .ok (.iadd, 1) := by decide +kernel
theorem dX2_hasRing_32 : decode cX2_hasRing 32 = .ok (.iaload, 1) := by decide +kernel
theorem dX2_hasRing_33 : decode cX2_hasRing 33 = .ok (.istore 6, 2) := by decide +kernel
theorem dX2_hasRing_35 : decode cX2_hasRing 35 = .ok (.iload 4, 2) := by decide +kernel
theorem dX2_hasRing_37 : decode cX2_hasRing 37 = .ok (.iload 5, 2) := by decide +kernel
theorem dX2_hasRing_39 : decode cX2_hasRing 39 = .ok (.ishr, 1) := by decide +kernel
theorem dX2_hasRing_40 : decode cX2_hasRing 40 = .ok (.iconst 1, 1) := by decide +kernel
theorem dX2_hasRing_41 : decode cX2_hasRing 41 = .ok (.iand, 1) := by decide +kernel
theorem dX2_hasRing_42 : decode cX2_hasRing 42 = .ok (.ifCond .eq 35, 3) := by decide +kernel
theorem dX2_hasRing_45 : decode cX2_hasRing 45 = .ok (.iload 6, 2) := by decide +kernel
theorem dX2_hasRing_47 : decode cX2_hasRing 47 = .ok (.iconst (-1), 1) := by decide +kernel
theorem dX2_hasRing_48 : decode cX2_hasRing 48 = .ok (.if_icmp .eq 29, 3) := by decide +kernel
theorem dX2_hasRing_51 : decode cX2_hasRing 51 = .ok (.aload_n 0, 1) := by decide +kernel
theorem dX2_hasRing_52 : decode cX2_hasRing 52 = .ok (.aload_n 0, 1) := by decide +kernel
theorem dX2_hasRing_53 : decode cX2_hasRing 53 = .ok (.getfield 28, 3) := by decide +kernel
theorem dX2_hasRing_56 : decode cX2_hasRing 56 = .ok (.getfield 56, 3) := by decide +kernel
theorem dX2_hasRing_59 : decode cX2_hasRing 59 = .ok (.iload 6, 2) := by decide +kernel
theorem dX2_hasRing_61 : decode cX2_hasRing 61 = .ok (.iaload, 1) := by decide +kernel
theorem dX2_hasRing_62 : decode cX2_hasRing 62 = .ok (.aload_n 2, 1) := by decide +kernel
theorem dX2_hasRing_63 : decode cX2_hasRing 63 = .ok (.iload_n 3, 1) := by decide +kernel
theorem dX2_hasRing_64 : decode cX2_hasRing 64 = .ok (.invokevirtual 59, 3) := by decide +kernel
theorem dX2_hasRing_67 : decode cX2_hasRing 67 = .ok (.iload 5, 2) := by decide +kernel
theorem dX2_hasRing_69 : decode cX2_hasRing 69 = .ok (.ishr, 1) := by decide +kernel
theorem dX2_hasRing_70 : decode cX2_hasRing 70 = .ok (.iconst 1, 1) := by decide +kernel
theorem dX2_hasRing_71 : decode cX2_hasRing 71 = .ok (.iand, 1) := by decide +kernel
theorem dX2_hasRing_72 : decode cX2_hasRing 72 = .ok (.ifCond .eq 5, 3) := by decide +kernel
theorem dX2_hasRing_75 : decode cX2_hasRing 75 = .ok (.iconst 1, 1) := by decide +kernel
theorem dX2_hasRing_76 : decode cX2_hasRing 76 = .ok (.ireturn, 1) := by decide +kernel
theorem dX2_hasRing_77 : decode cX2_hasRing 77 = .ok (.iinc 5 1, 3) := by decide +kernel
theorem dX2_hasRing_80 : decode cX2_hasRing 80 = .ok (.goto (-60), 3) := by decide +kernel
theorem dX2_hasRing_83 : decode cX2_hasRing 83 = .ok (.iconst 0, 1) := by decide +kernel
theorem dX2_hasRing_84 : decode cX2_hasRing 84 = .ok (.ireturn, 1) := by decide +kernel
theorem dX2_reachedFrom_0 : decode cX2_reachedFrom 0 = .ok (.iload_n 1, 1) := by decide +kernel
theorem dX2_reachedFrom_1 : decode cX2_reachedFrom 1 = .ok (.istore 4, 2) := by decide +kernel
theorem dX2_reachedFrom_3 : decode cX2_reachedFrom 3 = .ok (.iconst 0, 1) := by decide +kernel
theorem dX2_reachedFrom_4 : decode cX2_reachedFrom 4 = .ok (.istore 5, 2) := by decide +kernel
theorem dX2_reachedFrom_6 : decode cX2_reachedFrom 6 = .ok (.iload 5, 2) := by decide +kernel
theorem dX2_reachedFrom_8 : decode cX2_reachedFrom 8 = .ok (.bipush 8, 2) := by decide +kernel
theorem dX2_reachedFrom_10 : decode cX2_reachedFrom 10 = .ok (.if_icmp .ge 64, 3) := by decide +kernel
theorem dX2_reachedFrom_13 : decode cX2_reachedFrom 13 = .ok (.iconst 0, 1) := by decide +kernel
theorem dX2_reachedFrom_14 : decode cX2_reachedFrom 14 = .ok (.istore 6, 2) := by decide +kernel
theorem dX2_reachedFrom_16 : decode cX2_reachedFrom 16 = .ok (.iload 6, 2) := by decide +kernel
theorem dX2_reachedFrom_18 : decode cX2_reachedFrom 18 = .ok (.bipush 8, 2) := by decide +kernel
theorem dX2_reachedFrom_20 : decode cX2_reachedFrom 20 = .ok (.if_icmp .ge 48, 3) := by decide +kernel
theorem dX2_reachedFrom_23 : decode cX2_reachedFrom 23 = .ok (.aload_n 2, 1) := by decide +kernel
theorem dX2_reachedFrom_24 : decode cX2_reachedFrom 24 = .ok (.iload_n 3, 1) := by decide +kernel
theorem dX2_reachedFrom_25 : decode cX2_reachedFrom 25 = .ok (.iload 6, 2) := by decide +kernel
theorem dX2_reachedFrom_27 : decode cX2_reachedFrom 27 = .ok (.iadd, 1) := by decide +kernel
theorem dX2_reachedFrom_28 : decode cX2_reachedFrom 28 = .ok (.iaload, 1) := by decide +kernel
theorem dX2_reachedFrom_29 : decode cX2_reachedFrom 29 = .ok (.istore 7, 2) := by decide +kernel
theorem dX2_reachedFrom_31 : decode cX2_reachedFrom 31 = .ok (.iload 4, 2) := by decide +kernel
theorem dX2_reachedFrom_33 : decode cX2_reachedFrom 33 = .ok (.iload 6, 2) := by decide +kernel
theorem dX2_reachedFrom_35 : decode cX2_reachedFrom 35 = .ok (.ishr, 1) := by decide +kernel
theorem dX2_reachedFrom_36 : decode cX2_reachedFrom 36 = .ok (.iconst 1, 1) := by decide +kernel
theorem dX2_reachedFrom_37 : decode cX2_reachedFrom 37 = .ok (.iand, 1) := by decide +kernel
theorem dX2_reachedFrom_38 : decode cX2_reachedFrom 38 = .ok (.ifCond .eq 24, 3) := by decide +kernel
theorem dX2_reachedFrom_41 : decode cX2_reachedFrom 41 = .ok (.iload 7, 2) := by decide +kernel
theorem dX2_reachedFrom_43 : decode cX2_reachedFrom 43 = .ok (.iconst (-1), 1) := by decide +kernel
theorem dX2_reachedFrom_44 : decode cX2_reachedFrom 44 = .ok (.if_icmp .eq 18, 3) := by decide +kernel
theorem dX2_reachedFrom_47 : decode cX2_reachedFrom 47 = .ok (.iload 4, 2) := by decide +kernel
theorem dX2_reachedFrom_49 : decode cX2_reachedFrom 49 = .ok (.aload_n 0, 1) := by decide +kernel
theorem dX2_reachedFrom_50 : decode cX2_reachedFrom 50 = .ok (.getfield 28, 3) := by decide +kernel
theorem dX2_reachedFrom_53 : decode cX2_reachedFrom 53 = .ok (.getfield 56, 3) := by decide +kernel
theorem dX2_reachedFrom_56 : decode cX2_reachedFrom 56 = .ok (.iload 7, 2) := by decide +kernel
theorem dX2_reachedFrom_58 : decode cX2_reachedFrom 58 = .ok (.iaload, 1) := by decide +kernel
theorem dX2_reachedFrom_59 : decode cX2_reachedFrom 59 = .ok (.ior, 1) := by decide +kernel
theorem dX2_reachedFrom_60 : decode cX2_reachedFrom 60 = .ok (.istore 4, 2) := by decide +kernel
theorem dX2_reachedFrom_62 : decode cX2_reachedFrom 62 = .ok (.iinc 6 1, 3) := by decide +kernel
theorem dX2_reachedFrom_65 : decode cX2_reachedFrom 65 = .ok (.goto (-49), 3) := by decide +kernel
theorem dX2_reachedFrom_68 : decode cX2_reachedFrom 68 = .ok (.iinc 5 1, 3) := by decide +kernel
theorem dX2_reachedFrom_71 : decode cX2_reachedFrom 71 = .ok (.goto (-65), 3) := by decide +kernel
theorem dX2_reachedFrom_74 : decode cX2_reachedFrom 74 = .ok (.iload 4, 2) := by decide +kernel
theorem dX2_reachedFrom_76 : decode cX2_reachedFrom 76 = .ok (.ireturn, 1) := by decide +kernel
theorem dX2_closed_0 : decode cX2_closed 0 = .ok (.aload_n 0, 1) := by decide +kernel
theorem dX2_closed_1 : decode cX2_closed 1 = .ok (.getfield 9, 3) := by decide +kernel
theorem dX2_closed_4 : decode cX2_closed 4 = .ok (.iconst (-1), 1) := by decide +kernel
theorem dX2_closed_5 : decode cX2_closed 5 = .ok (.invokestatic 63, 3) := by decide +kernel
theorem dX2_closed_8 : decode cX2_closed 8 = .ok (.aload_n 0, 1) := by decide +kernel
theorem dX2_closed_9 : decode cX2_closed 9 = .ok (.iload_n 1, 1) := by decide +kernel
theorem dX2_closed_10 : decode cX2_closed 10 = .ok (.aload_n 2, 1) := by decide +kernel
theorem dX2_closed_11 : decode cX2_closed 11 = .ok (.iload_n 3, 1) := by decide +kernel
theorem dX2_closed_12 : decode cX2_closed 12 = .ok (.iconst 1, 1) := by decide +kernel
theorem dX2_closed_13 : decode cX2_closed 13 = .ok (.invokevirtual 69, 3) := by decide +kernel
theorem dX2_closed_16 : decode cX2_closed 16 = .ok (.ireturn, 1) := by decide +kernel
theorem dX2_closedPart_0 : decode cX2_closedPart 0 = .ok (.iload 4, 2) := by decide +kernel
theorem dX2_closedPart_2 : decode cX2_closedPart 2 = .ok (.bipush 14, 2) := by decide +kernel
theorem dX2_closedPart_4 : decode cX2_closedPart 4 = .ok (.if_icmp .le 6, 3) := by decide +kernel
theorem dX2_closedPart_7 : decode cX2_closedPart 7 = .ok (.bipush (-3), 2) := by decide +kernel
theorem dX2_closedPart_9 : decode cX2_closedPart 9 = .ok (.ireturn, 1) := by decide +kernel
theorem dX2_closedPart_10 : decode cX2_closedPart 10 = .ok (.aload_n 0, 1) := by decide +kernel
theorem dX2_closedPart_11 : decode cX2_closedPart 11 = .ok (.getfield 28, 3) := by decide +kernel
theorem dX2_closedPart_14 : decode cX2_closedPart 14 = .ok (.iload_n 1, 1) := by decide +kernel
theorem dX2_closedPart_15 : decode cX2_closedPart 15 = .ok (.invokevirtual 36, 3) := by decide +kernel
theorem dX2_closedPart_18 : decode cX2_closedPart 18 = .ok (.ifCond .eq 13, 3) := by decide +kernel
theorem dX2_closedPart_21 : decode cX2_closedPart 21 = .ok (.aload_n 0, 1) := by decide +kernel
theorem dX2_closedPart_22 : decode cX2_closedPart 22 = .ok (.iload_n 1, 1) := by decide +kernel
theorem dX2_closedPart_23 : decode cX2_closedPart 23 = .ok (.aload_n 2, 1) := by decide +kernel
theorem dX2_closedPart_24 : decode cX2_closedPart 24 = .ok (.iload_n 3, 1) := by decide +kernel
theorem dX2_closedPart_25 : decode cX2_closedPart 25 = .ok (.iload 4, 2) := by decide +kernel
theorem dX2_closedPart_27 : decode cX2_closedPart 27 = .ok (.invokevirtual 72, 3) := by decide +kernel
theorem dX2_closedPart_30 : decode cX2_closedPart 30 = .ok (.ireturn, 1) := by decide +kernel
theorem dX2_closedPart_31 : decode cX2_closedPart 31 = .ok (.aload_n 0, 1) := by decide +kernel
theorem dX2_closedPart_32 : decode cX2_closedPart 32 = .ok (.getfield 28, 3) := by decide +kernel
theorem dX2_closedPart_35 : decode cX2_closedPart 35 = .ok (.getfield 45, 3) := by decide +kernel
theorem dX2_closedPart_38 : decode cX2_closedPart 38 = .ok (.iload_n 1, 1) := by decide +kernel
theorem dX2_closedPart_39 : decode cX2_closedPart 39 = .ok (.iaload, 1) := by decide +kernel
theorem dX2_closedPart_40 : decode cX2_closedPart 40 = .ok (.istore 5, 2) := by decide +kernel
theorem dX2_closedPart_42 : decode cX2_closedPart 42 = .ok (.iload 5, 2) := by decide +kernel
theorem dX2_closedPart_44 : decode cX2_closedPart 44 = .ok (.iconst 1, 1) := by decide +kernel
theorem dX2_closedPart_45 : decode cX2_closedPart 45 = .ok (.if_icmp .ge 7, 3) := by decide +kernel
theorem dX2_closedPart_48 : decode cX2_closedPart 48 = .ok (.iconst (-1), 1) := by decide +kernel
theorem dX2_closedPart_49 : decode cX2_closedPart 49 = .ok (.goto 22, 3) := by decide +kernel
theorem dX2_closedPart_52 : decode cX2_closedPart 52 = .ok (.aload_n 0, 1) := by decide +kernel
theorem dX2_closedPart_53 : decode cX2_closedPart 53 = .ok (.aload_n 0, 1) := by decide +kernel
theorem dX2_closedPart_54 : decode cX2_closedPart 54 = .ok (.getfield 28, 3) := by decide +kernel
theorem dX2_closedPart_57 : decode cX2_closedPart 57 = .ok (.iload_n 1, 1) := by decide +kernel
theorem dX2_closedPart_58 : decode cX2_closedPart 58 = .ok (.iconst 0, 1) := by decide +kernel
theorem dX2_closedPart_59 : decode cX2_closedPart 59 = .ok (.invokevirtual 48, 3) := by decide +kernel
theorem dX2_closedPart_62 : decode cX2_closedPart 62 = .ok (.aload_n 2, 1) := by decide +kernel
theorem dX2_closedPart_63 : decode cX2_closedPart 63 = .ok (.iload_n 3, 1) := by decide +kernel
theorem dX2_closedPart_64 : decode cX2_closedPart 64 = .ok (.iload 4, 2) := by decide +kernel
theorem dX2_closedPart_66 : decode cX2_closedPart 66 = .ok (.iconst 1, 1) := by decide +kernel
theorem dX2_closedPart_67 : decode cX2_closedPart 67 = .ok (.iadd, 1) := by decide +kernel
theorem dX2_closedPart_68 : decode cX2_closedPart 68 = .ok (.invokevirtual 69, 3) := by decide +kernel
theorem dX2_closedPart_71 : decode cX2_closedPart 71 = .ok (.istore 6, 2) := by decide +kernel
theorem dX2_closedPart_73 : decode cX2_closedPart 73 = .ok (.iload 5, 2) := by decide +kernel
theorem dX2_closedPart_75 : decode cX2_closedPart 75 = .ok (.iconst 2, 1) := by decide +kernel
theorem dX2_closedPart_76 : decode cX2_closedPart 76 = .ok (.if_icmp .ge 7, 3) := by decide +kernel
theorem dX2_closedPart_79 : decode cX2_closedPart 79 = .ok (.iconst (-1), 1) := by decide +kernel
theorem dX2_closedPart_80 : decode cX2_closedPart 80 = .ok (.goto 22, 3) := by decide +kernel
theorem dX2_closedPart_83 : decode cX2_closedPart 83 = .ok (.aload_n 0, 1) := by decide +kernel
theorem dX2_closedPart_84 : decode cX2_closedPart 84 = .ok (.aload_n 0, 1) := by decide +kernel
theorem dX2_closedPart_85 : decode cX2_closedPart 85 = .ok (.getfield 28, 3) := by decide +kernel
theorem dX2_closedPart_88 : decode cX2_closedPart 88 = .ok (.iload_n 1, 1) := by decide +kernel
theorem dX2_closedPart_89 : decode cX2_closedPart 89 = .ok (.iconst 1, 1) := by decide +kernel
theorem dX2_closedPart_90 : decode cX2_closedPart 90 = .ok (.invokevirtual 48, 3) := by decide +kernel
theorem dX2_closedPart_93 : decode cX2_closedPart 93 = .ok (.aload_n 2, 1) := by decide +kernel
theorem dX2_closedPart_94 : decode cX2_closedPart 94 = .ok (.iload_n 3, 1) := by decide +kernel
theorem dX2_closedPart_95 : decode cX2_closedPart 95 = .ok (.iload 4, 2) := by decide +kernel
theorem dX2_closedPart_97 : decode cX2_closedPart 97 = .ok (.iconst 1, 1) := by decide +kernel
theorem dX2_closedPart_98 : decode cX2_closedPart 98 = .ok (.iadd, 1) := by decide +kernel
theorem dX2_closedPart_99 : decode cX2_closedPart 99 = .ok (.invokevirtual 69, 3) := by decide +kernel
theorem dX2_closedPart_102 : decode cX2_closedPart 102 = .ok (.istore 7, 2) := by decide +kernel
theorem dX2_closedPart_104 : decode cX2_closedPart 104 = .ok (.iload 5, 2) := by decide +kernel
theorem dX2_closedPart_106 : decode cX2_closedPart 106 = .ok (.iconst 3, 1) := by decide +kernel
theorem dX2_closedPart_107 : decode cX2_closedPart 107 = .ok (.if_icmp .ge 7, 3) := by decide +kernel
theorem dX2_closedPart_110 : decode cX2_closedPart 110 = .ok (.iconst (-1), 1) := by decide +kernel
theorem dX2_closedPart_111 : decode cX2_closedPart 111 = .ok (.goto 22, 3) := by decide +kernel
theorem dX2_closedPart_114 : decode cX2_closedPart 114 = .ok (.aload_n 0, 1) := by decide +kernel
theorem dX2_closedPart_115 : decode cX2_closedPart 115 = .ok (.aload_n 0, 1) := by decide +kernel
theorem dX2_closedPart_116 : decode cX2_closedPart 116 = .ok (.getfield 28, 3) := by decide +kernel
theorem dX2_closedPart_119 : decode cX2_closedPart 119 = .ok (.iload_n 1, 1) := by decide +kernel
theorem dX2_closedPart_120 : decode cX2_closedPart 120 = .ok (.iconst 2, 1) := by decide +kernel
theorem dX2_closedPart_121 : decode cX2_closedPart 121 = .ok (.invokevirtual 48, 3) := by decide +kernel
theorem dX2_closedPart_124 : decode cX2_closedPart 124 = .ok (.aload_n 2, 1) := by decide +kernel
theorem dX2_closedPart_125 : decode cX2_closedPart 125 = .ok (.iload_n 3, 1) := by decide +kernel
theorem dX2_closedPart_126 : decode cX2_closedPart 126 = .ok (.iload 4, 2) := by decide +kernel
theorem dX2_closedPart_128 : decode cX2_closedPart 128 = .ok (.iconst 1, 1) := by decide +kernel
theorem dX2_closedPart_129 : decode cX2_closedPart 129 = .ok (.iadd, 1) := by decide +kernel
theorem dX2_closedPart_130 : decode cX2_closedPart 130 = .ok (.invokevirtual 69, 3) := by decide +kernel
theorem dX2_closedPart_133 : decode cX2_closedPart 133 = .ok (.istore 8, 2) := by decide +kernel
theorem dX2_closedPart_135 : decode cX2_closedPart 135 = .ok (.aload_n 0, 1) := by decide +kernel
theorem dX2_closedPart_136 : decode cX2_closedPart 136 = .ok (.getfield 28, 3) := by decide +kernel
theorem dX2_closedPart_139 : decode cX2_closedPart 139 = .ok (.aload_n 0, 1) := by decide +kernel
theorem dX2_closedPart_140 : decode cX2_closedPart 140 = .ok (.getfield 28, 3) := by decide +kernel
theorem dX2_closedPart_143 : decode cX2_closedPart 143 = .ok (.getfield 42, 3) := by decide +kernel
theorem dX2_closedPart_146 : decode cX2_closedPart 146 = .ok (.iload_n 1, 1) := by decide +kernel
theorem dX2_closedPart_147 : decode cX2_closedPart 147 = .ok (.iaload, 1) := by decide +kernel
theorem dX2_closedPart_148 : decode cX2_closedPart 148 = .ok (.iload 6, 2) := by decide +kernel
theorem dX2_closedPart_150 : decode cX2_closedPart 150 = .ok (.iload 7, 2) := by decide +kernel
theorem dX2_closedPart_152 : decode cX2_closedPart 152 = .ok (.iload 8, 2) := by decide +kernel
theorem dX2_closedPart_154 : decode cX2_closedPart 154 = .ok (.invokevirtual 52, 3) := by decide +kernel
theorem dX2_closedPart_157 : decode cX2_closedPart 157 = .ok (.ireturn, 1) := by decide +kernel
theorem dX2_closedVariable_0 : decode cX2_closedVariable 0 = .ok (.aload_n 0, 1) := by decide +kernel
theorem dX2_closedVariable_1 : decode cX2_closedVariable 1 = .ok (.getfield 28, 3) := by decide +kernel
theorem dX2_closedVariable_4 : decode cX2_closedVariable 4 = .ok (.getfield 42, 3) := by decide +kernel
theorem dX2_closedVariable_7 : decode cX2_closedVariable 7 = .ok (.iload_n 1, 1) := by decide +kernel
theorem dX2_closedVariable_8 : decode cX2_closedVariable 8 = .ok (.iaload, 1) := by decide +kernel
theorem dX2_closedVariable_9 : decode cX2_closedVariable 9 = .ok (.iconst (-1), 1) := by decide +kernel
theorem dX2_closedVariable_10 : decode cX2_closedVariable 10 = .ok (.ixor, 1) := by decide +kernel
theorem dX2_closedVariable_11 : decode cX2_closedVariable 11 = .ok (.istore 5, 2) := by decide +kernel
theorem dX2_closedVariable_13 : decode cX2_closedVariable 13 = .ok (.aload_n 2, 1) := by decide +kernel
theorem dX2_closedVariable_14 : decode cX2_closedVariable 14 = .ok (.iload_n 3, 1) := by decide +kernel
theorem dX2_closedVariable_15 : decode cX2_closedVariable 15 = .ok (.iload 5, 2) := by decide +kernel
theorem dX2_closedVariable_17 : decode cX2_closedVariable 17 = .ok (.iadd, 1) := by decide +kernel
theorem dX2_closedVariable_18 : decode cX2_closedVariable 18 = .ok (.iaload, 1) := by decide +kernel
theorem dX2_closedVariable_19 : decode cX2_closedVariable 19 = .ok (.istore 6, 2) := by decide +kernel
theorem dX2_closedVariable_21 : decode cX2_closedVariable 21 = .ok (.iload 6, 2) := by decide +kernel
theorem dX2_closedVariable_23 : decode cX2_closedVariable 23 = .ok (.iconst (-1), 1) := by decide +kernel
theorem dX2_closedVariable_24 : decode cX2_closedVariable 24 = .ok (.if_icmp .ne 5, 3) := by decide +kernel
theorem dX2_closedVariable_27 : decode cX2_closedVariable 27 = .ok (.iload_n 1, 1) := by decide +kernel
theorem dX2_closedVariable_28 : decode cX2_closedVariable 28 = .ok (.ireturn, 1) := by decide +kernel
theorem dX2_closedVariable_29 : decode cX2_closedVariable 29 = .ok (.aload_n 0, 1) := by decide +kernel
theorem dX2_closedVariable_30 : decode cX2_closedVariable 30 = .ok (.getfield 9, 3) := by decide +kernel
theorem dX2_closedVariable_33 : decode cX2_closedVariable 33 = .ok (.iload 5, 2) := by decide +kernel
theorem dX2_closedVariable_35 : decode cX2_closedVariable 35 = .ok (.iaload, 1) := by decide +kernel
theorem dX2_closedVariable_36 : decode cX2_closedVariable 36 = .ok (.iconst (-1), 1) := by decide +kernel
theorem dX2_closedVariable_37 : decode cX2_closedVariable 37 = .ok (.if_icmp .ne 22, 3) := by decide +kernel
theorem dX2_closedVariable_40 : decode cX2_closedVariable 40 = .ok (.aload_n 0, 1) := by decide +kernel
theorem dX2_closedVariable_41 : decode cX2_closedVariable 41 = .ok (.getfield 9, 3) := by decide +kernel
theorem dX2_closedVariable_44 : decode cX2_closedVariable 44 = .ok (.iload 5, 2) := by decide +kernel
theorem dX2_closedVariable_46 : decode cX2_closedVariable 46 = .ok (.aload_n 0, 1) := by decide +kernel
theorem dX2_closedVariable_47 : decode cX2_closedVariable 47 = .ok (.iload 6, 2) := by decide +kernel
theorem dX2_closedVariable_49 : decode cX2_closedVariable 49 = .ok (.aload_n 2, 1) := by decide +kernel
theorem dX2_closedVariable_50 : decode cX2_closedVariable 50 = .ok (.iload_n 3, 1) := by decide +kernel
theorem dX2_closedVariable_51 : decode cX2_closedVariable 51 = .ok (.iload 4, 2) := by decide +kernel
theorem dX2_closedVariable_53 : decode cX2_closedVariable 53 = .ok (.iconst 1, 1) := by decide +kernel
theorem dX2_closedVariable_54 : decode cX2_closedVariable 54 = .ok (.iadd, 1) := by decide +kernel
theorem dX2_closedVariable_55 : decode cX2_closedVariable 55 = .ok (.invokevirtual 69, 3) := by decide +kernel
theorem dX2_closedVariable_58 : decode cX2_closedVariable 58 = .ok (.iastore, 1) := by decide +kernel
theorem dX2_closedVariable_59 : decode cX2_closedVariable 59 = .ok (.aload_n 0, 1) := by decide +kernel
theorem dX2_closedVariable_60 : decode cX2_closedVariable 60 = .ok (.getfield 9, 3) := by decide +kernel
theorem dX2_closedVariable_63 : decode cX2_closedVariable 63 = .ok (.iload 5, 2) := by decide +kernel
theorem dX2_closedVariable_65 : decode cX2_closedVariable 65 = .ok (.iaload, 1) := by decide +kernel
theorem dX2_closedVariable_66 : decode cX2_closedVariable 66 = .ok (.ireturn, 1) := by decide +kernel
theorem dX2_replaced_0 : decode cX2_replaced 0 = .ok (.aload_n 0, 1) := by decide +kernel
theorem dX2_replaced_1 : decode cX2_replaced 1 = .ok (.iload_n 1, 1) := by decide +kernel
theorem dX2_replaced_2 : decode cX2_replaced 2 = .ok (.iload_n 2, 1) := by decide +kernel
theorem dX2_replaced_3 : decode cX2_replaced 3 = .ok (.iload_n 3, 1) := by decide +kernel
theorem dX2_replaced_4 : decode cX2_replaced 4 = .ok (.iconst 1, 1) := by decide +kernel
theorem dX2_replaced_5 : decode cX2_replaced 5 = .ok (.invokevirtual 75, 3) := by decide +kernel
theorem dX2_replaced_8 : decode cX2_replaced 8 = .ok (.ireturn, 1) := by decide +kernel
theorem dX2_replacedPart_0 : decode cX2_replacedPart 0 = .ok (.iload_n 2, 1) := by decide +kernel
theorem dX2_replacedPart_1 : decode cX2_replacedPart 1 = .ok (.ifCond .gt 5, 3) := by decide +kernel
theorem dX2_replacedPart_4 : decode cX2_replacedPart 4 = .ok (.iload_n 3, 1) := by decide +kernel
theorem dX2_replacedPart_5 : decode cX2_replacedPart 5 = .ok (.ireturn, 1) := by decide +kernel
theorem dX2_replacedPart_6 : decode cX2_replacedPart 6 = .ok (.iload 4, 2) := by decide +kernel
theorem dX2_replacedPart_8 : decode cX2_replacedPart 8 = .ok (.bipush 6, 2) := by decide +kernel
theorem dX2_replacedPart_10 : decode cX2_replacedPart 10 = .ok (.if_icmp .le 6, 3) := by decide +kernel
theorem dX2_replacedPart_16 : decode cX2_replacedPart 16 = .ok (.aload_n 0, 1) := by decide +kernel
theorem dX2_replacedPart_17 : decode cX2_replacedPart 17 = .ok (.getfield 28, 3) := by decide +kernel
theorem dX2_replacedPart_20 : decode cX2_replacedPart 20 = .ok (.iload_n 1, 1) := by decide +kernel
theorem dX2_replacedPart_21 : decode cX2_replacedPart 21 = .ok (.iload_n 2, 1) := by decide +kernel
theorem dX2_replacedPart_22 : decode cX2_replacedPart 22 = .ok (.invokevirtual 78, 3) := by decide +kernel
theorem dX2_replacedPart_25 : decode cX2_replacedPart 25 = .ok (.istore 5, 2) := by decide +kernel
theorem dX2_replacedPart_27 : decode cX2_replacedPart 27 = .ok (.aload_n 0, 1) := by decide +kernel
theorem dX2_replacedPart_28 : decode cX2_replacedPart 28 = .ok (.getfield 28, 3) := by decide +kernel
theorem dX2_replacedPart_31 : decode cX2_replacedPart 31 = .ok (.iload_n 1, 1) := by decide +kernel
theorem dX2_replacedPart_32 : decode cX2_replacedPart 32 = .ok (.iload 5, 2) := by decide +kernel
theorem dX2_replacedPart_34 : decode cX2_replacedPart 34 = .ok (.invokevirtual 48, 3) := by decide +kernel
theorem dX2_replacedPart_37 : decode cX2_replacedPart 37 = .ok (.istore 6, 2) := by decide +kernel
theorem dX2_replacedPart_39 : decode cX2_replacedPart 39 = .ok (.aload_n 0, 1) := by decide +kernel
theorem dX2_replacedPart_40 : decode cX2_replacedPart 40 = .ok (.iload 6, 2) := by decide +kernel
theorem dX2_replacedPart_42 : decode cX2_replacedPart 42 = .ok (.aload_n 0, 1) := by decide +kernel
theorem dX2_replacedPart_43 : decode cX2_replacedPart 43 = .ok (.getfield 28, 3) := by decide +kernel
theorem dX2_replacedPart_46 : decode cX2_replacedPart 46 = .ok (.iload_n 1, 1) := by decide +kernel
theorem dX2_replacedPart_47 : decode cX2_replacedPart 47 = .ok (.iload_n 2, 1) := by decide +kernel
theorem dX2_replacedPart_48 : decode cX2_replacedPart 48 = .ok (.iload 5, 2) := by decide +kernel
theorem dX2_replacedPart_50 : decode cX2_replacedPart 50 = .ok (.invokevirtual 81, 3) := by decide +kernel
theorem dX2_replacedPart_53 : decode cX2_replacedPart 53 = .ok (.iload_n 3, 1) := by decide +kernel
theorem dX2_replacedPart_54 : decode cX2_replacedPart 54 = .ok (.iload 4, 2) := by decide +kernel
theorem dX2_replacedPart_56 : decode cX2_replacedPart 56 = .ok (.iconst 1, 1) := by decide +kernel
theorem dX2_replacedPart_57 : decode cX2_replacedPart 57 = .ok (.iadd, 1) := by decide +kernel
theorem dX2_replacedPart_58 : decode cX2_replacedPart 58 = .ok (.invokevirtual 75, 3) := by decide +kernel
theorem dX2_replacedPart_61 : decode cX2_replacedPart 61 = .ok (.istore 7, 2) := by decide +kernel
theorem dX2_replacedPart_63 : decode cX2_replacedPart 63 = .ok (.iload 5, 2) := by decide +kernel
theorem dX2_replacedPart_65 : decode cX2_replacedPart 65 = .ok (.ifCond .ne 8, 3) := by decide +kernel
theorem dX2_replacedPart_68 : decode cX2_replacedPart 68 = .ok (.iload 7, 2) := by decide +kernel
theorem dX2_replacedPart_70 : decode cX2_replacedPart 70 = .ok (.goto 12, 3) := by decide +kernel
theorem dX2_replacedPart_73 : decode cX2_replacedPart 73 = .ok (.aload_n 0, 1) := by decide +kernel
theorem dX2_replacedPart_74 : decode cX2_replacedPart 74 = .ok (.getfield 28, 3) := by decide +kernel
theorem dX2_replacedPart_77 : decode cX2_replacedPart 77 = .ok (.iload_n 1, 1) := by decide +kernel
theorem dX2_replacedPart_78 : decode cX2_replacedPart 78 = .ok (.iconst 0, 1) := by decide +kernel
theorem dX2_replacedPart_79 : decode cX2_replacedPart 79 = .ok (.invokevirtual 48, 3) := by decide +kernel
theorem dX2_replacedPart_82 : decode cX2_replacedPart 82 = .ok (.istore 8, 2) := by decide +kernel
theorem dX2_replacedPart_84 : decode cX2_replacedPart 84 = .ok (.iload 5, 2) := by decide +kernel
theorem dX2_replacedPart_86 : decode cX2_replacedPart 86 = .ok (.iconst 1, 1) := by decide +kernel
theorem dX2_replacedPart_87 : decode cX2_replacedPart 87 = .ok (.if_icmp .ne 8, 3) := by decide +kernel
theorem dX2_replacedPart_90 : decode cX2_replacedPart 90 = .ok (.iload 7, 2) := by decide +kernel
theorem dX2_replacedPart_92 : decode cX2_replacedPart 92 = .ok (.goto 12, 3) := by decide +kernel
theorem dX2_replacedPart_95 : decode cX2_replacedPart 95 = .ok (.aload_n 0, 1) := by decide +kernel
theorem dX2_replacedPart_96 : decode cX2_replacedPart 96 = .ok (.getfield 28, 3) := by decide +kernel
theorem dX2_replacedPart_99 : decode cX2_replacedPart 99 = .ok (.iload_n 1, 1) := by decide +kernel
theorem dX2_replacedPart_100 : decode cX2_replacedPart 100 = .ok (.iconst 1, 1) := by decide +kernel
theorem dX2_replacedPart_101 : decode cX2_replacedPart 101 = .ok (.invokevirtual 48, 3) := by decide +kernel
theorem dX2_replacedPart_104 : decode cX2_replacedPart 104 = .ok (.istore 9, 2) := by decide +kernel
theorem dX2_replacedPart_106 : decode cX2_replacedPart 106 = .ok (.iload 5, 2) := by decide +kernel
theorem dX2_replacedPart_108 : decode cX2_replacedPart 108 = .ok (.iconst 2, 1) := by decide +kernel
theorem dX2_replacedPart_109 : decode cX2_replacedPart 109 = .ok (.if_icmp .ne 8, 3) := by decide +kernel
theorem dX2_replacedPart_112 : decode cX2_replacedPart 112 = .ok (.iload 7, 2) := by decide +kernel
theorem dX2_replacedPart_114 : decode cX2_replacedPart 114 = .ok (.goto 12, 3) := by decide +kernel
theorem dX2_replacedPart_117 : decode cX2_replacedPart 117 = .ok (.aload_n 0, 1) := by decide +kernel
theorem dX2_replacedPart_118 : decode cX2_replacedPart 118 = .ok (.getfield 28, 3) := by decide +kernel
theorem dX2_replacedPart_121 : decode cX2_replacedPart 121 = .ok (.iload_n 1, 1) := by decide +kernel
theorem dX2_replacedPart_122 : decode cX2_replacedPart 122 = .ok (.iconst 2, 1) := by decide +kernel
theorem dX2_replacedPart_123 : decode cX2_replacedPart 123 = .ok (.invokevirtual 48, 3) := by decide +kernel
theorem dX2_replacedPart_126 : decode cX2_replacedPart 126 = .ok (.istore 10, 2) := by decide +kernel
theorem dX2_replacedPart_128 : decode cX2_replacedPart 128 = .ok (.aload_n 0, 1) := by decide +kernel
theorem dX2_replacedPart_129 : decode cX2_replacedPart 129 = .ok (.getfield 28, 3) := by decide +kernel
theorem dX2_replacedPart_132 : decode cX2_replacedPart 132 = .ok (.aload_n 0, 1) := by decide +kernel
theorem dX2_replacedPart_133 : decode cX2_replacedPart 133 = .ok (.getfield 28, 3) := by decide +kernel
theorem dX2_replacedPart_136 : decode cX2_replacedPart 136 = .ok (.getfield 42, 3) := by decide +kernel
theorem dX2_replacedPart_139 : decode cX2_replacedPart 139 = .ok (.iload_n 1, 1) := by decide +kernel
theorem dX2_replacedPart_140 : decode cX2_replacedPart 140 = .ok (.iaload, 1) := by decide +kernel
theorem dX2_replacedPart_141 : decode cX2_replacedPart 141 = .ok (.iload 8, 2) := by decide +kernel
theorem dX2_replacedPart_143 : decode cX2_replacedPart 143 = .ok (.iload 9, 2) := by decide +kernel
theorem dX2_replacedPart_145 : decode cX2_replacedPart 145 = .ok (.iload 10, 2) := by decide +kernel
theorem dX2_replacedPart_147 : decode cX2_replacedPart 147 = .ok (.invokevirtual 52, 3) := by decide +kernel
theorem dX2_replacedPart_150 : decode cX2_replacedPart 150 = .ok (.ireturn, 1) := by decide +kernel
theorem dX2_haveCommon_0 : decode cX2_haveCommon 0 = .ok (.aload_n 0, 1) := by decide +kernel
theorem dX2_haveCommon_1 : decode cX2_haveCommon 1 = .ok (.iconst 0, 1) := by decide +kernel
theorem dX2_haveCommon_2 : decode cX2_haveCommon 2 = .ok (.putfield 21, 3) := by decide +kernel
theorem dX2_haveCommon_5 : decode cX2_haveCommon 5 = .ok (.aload_n 0, 1) := by decide +kernel
theorem dX2_haveCommon_6 : decode cX2_haveCommon 6 = .ok (.iload_n 1, 1) := by decide +kernel
theorem dX2_haveCommon_7 : decode cX2_haveCommon 7 = .ok (.iload_n 2, 1) := by decide +kernel
theorem dX2_haveCommon_8 : decode cX2_haveCommon 8 = .ok (.iconst 1, 1) := by decide +kernel
theorem dX2_haveCommon_9 : decode cX2_haveCommon 9 = .ok (.invokevirtual 85, 3) := by decide +kernel
theorem dX2_haveCommon_12 : decode cX2_haveCommon 12 = .ok (.ireturn, 1) := by decide +kernel
theorem dX2_couple_0 : decode cX2_couple 0 = .ok (.iload_n 3, 1) := by decide +kernel
theorem dX2_couple_1 : decode cX2_couple 1 = .ok (.bipush 6, 2) := by decide +kernel
theorem dX2_couple_3 : decode cX2_couple 3 = .ok (.if_icmp .le 5, 3) := by decide +kernel
theorem dX2_couple_6 : decode cX2_couple 6 = .ok (.iconst 0, 1) := by decide +kernel
theorem dX2_couple_7 : decode cX2_couple 7 = .ok (.ireturn, 1) := by decide +kernel
theorem dX2_couple_8 : decode cX2_couple 8 = .ok (.aload_n 0, 1) := by decide +kernel
theorem dX2_couple_9 : decode cX2_couple 9 = .ok (.getfield 28, 3) := by decide +kernel
theorem dX2_couple_12 : decode cX2_couple 12 = .ok (.iload_n 1, 1) := by decide +kernel
theorem dX2_couple_13 : decode cX2_couple 13 = .ok (.invokevirtual 36, 3) := by decide +kernel
theorem dX2_couple_16 : decode cX2_couple 16 = .ok (.ifCond .ne 24, 3) := by decide +kernel
theorem dX2_couple_19 : decode cX2_couple 19 = .ok (.aload_n 0, 1) := by decide +kernel
theorem dX2_couple_20 : decode cX2_couple 20 = .ok (.getfield 28, 3) := by decide +kernel
theorem dX2_couple_23 : decode cX2_couple 23 = .ok (.getfield 42, 3) := by decide +kernel
theorem dX2_couple_26 : decode cX2_couple 26 = .ok (.iload_n 1, 1) := by decide +kernel
theorem dX2_couple_27 : decode cX2_couple 27 = .ok (.iaload, 1) := by decide +kernel
theorem dX2_couple_28 : decode cX2_couple 28 = .ok (.aload_n 0, 1) := by decide +kernel
theorem dX2_couple_29 : decode cX2_couple 29 = .ok (.getfield 28, 3) := by decide +kernel
theorem dX2_couple_32 : decode cX2_couple 32 = .ok (.getfield 42, 3) := by decide +kernel
theorem dX2_couple_35 : decode cX2_couple 35 = .ok (.iload_n 2, 1) := by decide +kernel
theorem dX2_couple_36 : decode cX2_couple 36 = .ok (.iaload, 1) := by decide +kernel
theorem dX2_couple_37 : decode cX2_couple 37 = .ok (.if_icmp .eq 10, 3) := by decide +kernel
theorem dX2_couple_40 : decode cX2_couple 40 = .ok (.aload_n 0, 1) := by decide +kernel
theorem dX2_couple_41 : decode cX2_couple 41 = .ok (.iload_n 1, 1) := by decide +kernel
theorem dX2_couple_42 : decode cX2_couple 42 = .ok (.iload_n 2, 1) := by decide +kernel
theorem dX2_couple_43 : decode cX2_couple 43 = .ok (.invokevirtual 89, 3) := by decide +kernel
theorem dX2_couple_46 : decode cX2_couple 46 = .ok (.ireturn, 1) := by decide +kernel
theorem dX2_couple_47 : decode cX2_couple 47 = .ok (.iconst 0, 1) := by decide +kernel
theorem dX2_couple_48 : decode cX2_couple 48 = .ok (.istore 4, 2) := by decide +kernel
theorem dX2_couple_50 : decode cX2_couple 50 = .ok (.iload 4, 2) := by decide +kernel
theorem dX2_couple_52 : decode cX2_couple 52 = .ok (.aload_n 0, 1) := by decide +kernel
theorem dX2_couple_53 : decode cX2_couple 53 = .ok (.getfield 28, 3) := by decide +kernel
theorem dX2_couple_56 : decode cX2_couple 56 = .ok (.getfield 45, 3) := by decide +kernel
theorem dX2_couple_59 : decode cX2_couple 59 = .ok (.iload_n 1, 1) := by decide +kernel
theorem dX2_couple_60 : decode cX2_couple 60 = .ok (.iaload, 1) := by decide +kernel
theorem dX2_couple_61 : decode cX2_couple 61 = .ok (.if_icmp .ge 41, 3) := by decide +kernel
theorem dX2_couple_64 : decode cX2_couple 64 = .ok (.aload_n 0, 1) := by decide +kernel
theorem dX2_couple_65 : decode cX2_couple 65 = .ok (.aload_n 0, 1) := by decide +kernel
theorem dX2_couple_66 : decode cX2_couple 66 = .ok (.getfield 28, 3) := by decide +kernel
theorem dX2_couple_69 : decode cX2_couple 69 = .ok (.iload_n 1, 1) := by decide +kernel
theorem dX2_couple_70 : decode cX2_couple 70 = .ok (.iload 4, 2) := by decide +kernel
theorem dX2_couple_72 : decode cX2_couple 72 = .ok (.invokevirtual 48, 3) := by decide +kernel
theorem dX2_couple_75 : decode cX2_couple 75 = .ok (.aload_n 0, 1) := by decide +kernel
theorem dX2_couple_76 : decode cX2_couple 76 = .ok (.getfield 28, 3) := by decide +kernel
theorem dX2_couple_79 : decode cX2_couple 79 = .ok (.iload_n 2, 1) := by decide +kernel
theorem dX2_couple_80 : decode cX2_couple 80 = .ok (.iload 4, 2) := by decide +kernel
theorem dX2_couple_82 : decode cX2_couple 82 = .ok (.invokevirtual 48, 3) := by decide +kernel
theorem dX2_couple_85 : decode cX2_couple 85 = .ok (.iload_n 3, 1) := by decide +kernel
theorem dX2_couple_86 : decode cX2_couple 86 = .ok (.iconst 1, 1) := by decide +kernel
theorem dX2_couple_87 : decode cX2_couple 87 = .ok (.iadd, 1) := by decide +kernel
theorem dX2_couple_88 : decode cX2_couple 88 = .ok (.invokevirtual 85, 3) := by decide +kernel
theorem dX2_couple_91 : decode cX2_couple 91 = .ok (.ifCond .ne 5, 3) := by decide +kernel
theorem dX2_couple_94 : decode cX2_couple 94 = .ok (.iconst 0, 1) := by decide +kernel
theorem dX2_couple_95 : decode cX2_couple 95 = .ok (.ireturn, 1) := by decide +kernel
theorem dX2_couple_96 : decode cX2_couple 96 = .ok (.iinc 4 1, 3) := by decide +kernel
theorem dX2_couple_99 : decode cX2_couple 99 = .ok (.goto (-49), 3) := by decide +kernel
theorem dX2_couple_102 : decode cX2_couple 102 = .ok (.iconst 1, 1) := by decide +kernel
theorem dX2_couple_103 : decode cX2_couple 103 = .ok (.ireturn, 1) := by decide +kernel
theorem dX2_addCouple_0 : decode cX2_addCouple 0 = .ok (.aload_n 0, 1) := by decide +kernel
theorem dX2_addCouple_1 : decode cX2_addCouple 1 = .ok (.iload_n 1, 1) := by decide +kernel
theorem dX2_addCouple_2 : decode cX2_addCouple 2 = .ok (.iload_n 2, 1) := by decide +kernel
theorem dX2_addCouple_3 : decode cX2_addCouple 3 = .ok (.invokevirtual 93, 3) := by decide +kernel
theorem dX2_addCouple_6 : decode cX2_addCouple 6 = .ok (.iconst (-1), 1) := by decide +kernel
theorem dX2_addCouple_7 : decode cX2_addCouple 7 = .ok (.if_icmp .eq 5, 3) := by decide +kernel
theorem dX2_addCouple_10 : decode cX2_addCouple 10 = .ok (.iconst 1, 1) := by decide +kernel
theorem dX2_addCouple_11 : decode cX2_addCouple 11 = .ok (.ireturn, 1) := by decide +kernel
theorem dX2_addCouple_12 : decode cX2_addCouple 12 = .ok (.aload_n 0, 1) := by decide +kernel
theorem dX2_addCouple_13 : decode cX2_addCouple 13 = .ok (.getfield 21, 3) := by decide +kernel
theorem dX2_addCouple_16 : decode cX2_addCouple 16 = .ok (.bipush 8, 2) := by decide +kernel
theorem dX2_addCouple_18 : decode cX2_addCouple 18 = .ok (.if_icmp .lt 5, 3) := by decide +kernel
theorem dX2_addCouple_21 : decode cX2_addCouple 21 = .ok (.iconst 0, 1) := by decide +kernel
theorem dX2_addCouple_22 : decode cX2_addCouple 22 = .ok (.ireturn, 1) := by decide +kernel
theorem dX2_addCouple_23 : decode cX2_addCouple 23 = .ok (.aload_n 0, 1) := by decide +kernel
theorem dX2_addCouple_24 : decode cX2_addCouple 24 = .ok (.getfield 15, 3) := by decide +kernel
theorem dX2_addCouple_27 : decode cX2_addCouple 27 = .ok (.aload_n 0, 1) := by decide +kernel
theorem dX2_addCouple_28 : decode cX2_addCouple 28 = .ok (.getfield 21, 3) := by decide +kernel
theorem dX2_addCouple_31 : decode cX2_addCouple 31 = .ok (.iload_n 1, 1) := by decide +kernel
theorem dX2_addCouple_32 : decode cX2_addCouple 32 = .ok (.iastore, 1) := by decide +kernel
theorem dX2_addCouple_33 : decode cX2_addCouple 33 = .ok (.aload_n 0, 1) := by decide +kernel
theorem dX2_addCouple_34 : decode cX2_addCouple 34 = .ok (.getfield 18, 3) := by decide +kernel
theorem dX2_addCouple_37 : decode cX2_addCouple 37 = .ok (.aload_n 0, 1) := by decide +kernel
theorem dX2_addCouple_38 : decode cX2_addCouple 38 = .ok (.getfield 21, 3) := by decide +kernel
theorem dX2_addCouple_41 : decode cX2_addCouple 41 = .ok (.iload_n 2, 1) := by decide +kernel
theorem dX2_addCouple_42 : decode cX2_addCouple 42 = .ok (.iastore, 1) := by decide +kernel
theorem dX2_addCouple_43 : decode cX2_addCouple 43 = .ok (.aload_n 0, 1) := by decide +kernel
theorem dX2_addCouple_44 : decode cX2_addCouple 44 = .ok (.dup, 1) := by decide +kernel
theorem dX2_addCouple_45 : decode cX2_addCouple 45 = .ok (.getfield 21, 3) := by decide +kernel
theorem dX2_addCouple_48 : decode cX2_addCouple 48 = .ok (.iconst 1, 1) := by decide +kernel
theorem dX2_addCouple_49 : decode cX2_addCouple 49 = .ok (.iadd, 1) := by decide +kernel
theorem dX2_addCouple_50 : decode cX2_addCouple 50 = .ok (.putfield 21, 3) := by decide +kernel
theorem dX2_addCouple_53 : decode cX2_addCouple 53 = .ok (.iconst 1, 1) := by decide +kernel
theorem dX2_addCouple_54 : decode cX2_addCouple 54 = .ok (.ireturn, 1) := by decide +kernel
theorem dX2_coupleOf_0 : decode cX2_coupleOf 0 = .ok (.iconst 0, 1) := by decide +kernel
theorem dX2_coupleOf_1 : decode cX2_coupleOf 1 = .ok (.istore_n 3, 1) := by decide +kernel
theorem dX2_coupleOf_2 : decode cX2_coupleOf 2 = .ok (.iload_n 3, 1) := by decide +kernel
theorem dX2_coupleOf_3 : decode cX2_coupleOf 3 = .ok (.aload_n 0, 1) := by decide +kernel
theorem dX2_coupleOf_4 : decode cX2_coupleOf 4 = .ok (.getfield 21, 3) := by decide +kernel
theorem dX2_coupleOf_7 : decode cX2_coupleOf 7 = .ok (.if_icmp .ge 31, 3) := by decide +kernel
theorem dX2_coupleOf_10 : decode cX2_coupleOf 10 = .ok (.aload_n 0, 1) := by decide +kernel
theorem dX2_coupleOf_11 : decode cX2_coupleOf 11 = .ok (.getfield 15, 3) := by decide +kernel
theorem dX2_coupleOf_14 : decode cX2_coupleOf 14 = .ok (.iload_n 3, 1) := by decide +kernel
theorem dX2_coupleOf_15 : decode cX2_coupleOf 15 = .ok (.iaload, 1) := by decide +kernel
theorem dX2_coupleOf_16 : decode cX2_coupleOf 16 = .ok (.iload_n 1, 1) := by decide +kernel
theorem dX2_coupleOf_17 : decode cX2_coupleOf 17 = .ok (.if_icmp .ne 15, 3) := by decide +kernel
theorem dX2_coupleOf_20 : decode cX2_coupleOf 20 = .ok (.aload_n 0, 1) := by decide +kernel
theorem dX2_coupleOf_21 : decode cX2_coupleOf 21 = .ok (.getfield 18, 3) := by decide +kernel
theorem dX2_coupleOf_24 : decode cX2_coupleOf 24 = .ok (.iload_n 3, 1) := by decide +kernel
theorem dX2_coupleOf_25 : decode cX2_coupleOf 25 = .ok (.iaload, 1) := by decide +kernel
theorem dX2_coupleOf_26 : decode cX2_coupleOf 26 = .ok (.iload_n 2, 1) := by decide +kernel
theorem dX2_coupleOf_27 : decode cX2_coupleOf 27 = .ok (.if_icmp .ne 5, 3) := by decide +kernel
theorem dX2_coupleOf_30 : decode cX2_coupleOf 30 = .ok (.iload_n 3, 1) := by decide +kernel
theorem dX2_coupleOf_31 : decode cX2_coupleOf 31 = .ok (.ireturn, 1) := by decide +kernel
theorem dX2_coupleOf_32 : decode cX2_coupleOf 32 = .ok (.iinc 3 1, 3) := by decide +kernel
theorem dX2_coupleOf_35 : decode cX2_coupleOf 35 = .ok (.goto (-33), 3) := by decide +kernel
theorem dX2_coupleOf_38 : decode cX2_coupleOf 38 = .ok (.iconst (-1), 1) := by decide +kernel
theorem dX2_coupleOf_39 : decode cX2_coupleOf 39 = .ok (.ireturn, 1) := by decide +kernel
theorem dX2_commonOf_0 : decode cX2_commonOf 0 = .ok (.aload_n 0, 1) := by decide +kernel
theorem dX2_commonOf_1 : decode cX2_commonOf 1 = .ok (.iload_n 1, 1) := by decide +kernel
theorem dX2_commonOf_2 : decode cX2_commonOf 2 = .ok (.iload_n 2, 1) := by decide +kernel
theorem dX2_commonOf_3 : decode cX2_commonOf 3 = .ok (.iconst 1, 1) := by decide +kernel
theorem dX2_commonOf_4 : decode cX2_commonOf 4 = .ok (.invokevirtual 96, 3) := by decide +kernel
theorem dX2_commonOf_7 : decode cX2_commonOf 7 = .ok (.ireturn, 1) := by decide +kernel
theorem dX2_commonPart_0 : decode cX2_commonPart 0 = .ok (.iload_n 3, 1) := by decide +kernel
theorem dX2_commonPart_1 : decode cX2_commonPart 1 = .ok (.bipush 6, 2) := by decide +kernel
theorem dX2_commonPart_3 : decode cX2_commonPart 3 = .ok (.if_icmp .le 6, 3) := by decide +kernel
theorem dX2_commonPart_6 : decode cX2_commonPart 6 = .ok (.bipush (-3), 2) := by decide +kernel
theorem dX2_commonPart_8 : decode cX2_commonPart 8 = .ok (.ireturn, 1) := by decide +kernel
theorem dX2_commonPart_9 : decode cX2_commonPart 9 = .ok (.aload_n 0, 1) := by decide +kernel
theorem dX2_commonPart_10 : decode cX2_commonPart 10 = .ok (.iload_n 1, 1) := by decide +kernel
theorem dX2_commonPart_11 : decode cX2_commonPart 11 = .ok (.iload_n 2, 1) := by decide +kernel
theorem dX2_commonPart_12 : decode cX2_commonPart 12 = .ok (.invokevirtual 93, 3) := by decide +kernel
theorem dX2_commonPart_15 : decode cX2_commonPart 15 = .ok (.istore 4, 2) := by decide +kernel
theorem dX2_commonPart_17 : decode cX2_commonPart 17 = .ok (.iload 4, 2) := by decide +kernel
theorem dX2_commonPart_19 : decode cX2_commonPart 19 = .ok (.iconst (-1), 1) := by decide +kernel
theorem dX2_commonPart_20 : decode cX2_commonPart 20 = .ok (.if_icmp .eq 13, 3) := by decide +kernel
theorem dX2_commonPart_23 : decode cX2_commonPart 23 = .ok (.aload_n 0, 1) := by decide +kernel
theorem dX2_commonPart_24 : decode cX2_commonPart 24 = .ok (.getfield 28, 3) := by decide +kernel
theorem dX2_commonPart_27 : decode cX2_commonPart 27 = .ok (.iload 4, 2) := by decide +kernel
theorem dX2_commonPart_29 : decode cX2_commonPart 29 = .ok (.invokevirtual 99, 3) := by decide +kernel
theorem dX2_commonPart_32 : decode cX2_commonPart 32 = .ok (.ireturn, 1) := by decide +kernel
theorem dX2_commonPart_33 : decode cX2_commonPart 33 = .ok (.aload_n 0, 1) := by decide +kernel
theorem dX2_commonPart_34 : decode cX2_commonPart 34 = .ok (.getfield 28, 3) := by decide +kernel
theorem dX2_commonPart_37 : decode cX2_commonPart 37 = .ok (.getfield 45, 3) := by decide +kernel
theorem dX2_commonPart_40 : decode cX2_commonPart 40 = .ok (.iload_n 1, 1) := by decide +kernel
theorem dX2_commonPart_41 : decode cX2_commonPart 41 = .ok (.iaload, 1) := by decide +kernel
theorem dX2_commonPart_42 : decode cX2_commonPart 42 = .ok (.istore 5, 2) := by decide +kernel
theorem dX2_commonPart_44 : decode cX2_commonPart 44 = .ok (.iload 5, 2) := by decide +kernel
theorem dX2_commonPart_46 : decode cX2_commonPart 46 = .ok (.iconst 1, 1) := by decide +kernel
theorem dX2_commonPart_47 : decode cX2_commonPart 47 = .ok (.if_icmp .ge 7, 3) := by decide +kernel
theorem dX2_commonPart_50 : decode cX2_commonPart 50 = .ok (.iconst (-1), 1) := by decide +kernel
theorem dX2_commonPart_51 : decode cX2_commonPart 51 = .ok (.goto 28, 3) := by decide +kernel
theorem dX2_commonPart_54 : decode cX2_commonPart 54 = .ok (.aload_n 0, 1) := by decide +kernel
theorem dX2_commonPart_55 : decode cX2_commonPart 55 = .ok (.aload_n 0, 1) := by decide +kernel
theorem dX2_commonPart_56 : decode cX2_commonPart 56 = .ok (.getfield 28, 3) := by decide +kernel
theorem dX2_commonPart_59 : decode cX2_commonPart 59 = .ok (.iload_n 1, 1) := by decide +kernel
theorem dX2_commonPart_60 : decode cX2_commonPart 60 = .ok (.iconst 0, 1) := by decide +kernel
theorem dX2_commonPart_61 : decode cX2_commonPart 61 = .ok (.invokevirtual 48, 3) := by decide +kernel
theorem dX2_commonPart_64 : decode cX2_commonPart 64 = .ok (.aload_n 0, 1) := by decide +kernel
theorem dX2_commonPart_65 : decode cX2_commonPart 65 = .ok (.getfield 28, 3) := by decide +kernel
theorem dX2_commonPart_68 : decode cX2_commonPart 68 = .ok (.iload_n 2, 1) := by decide +kernel
theorem dX2_commonPart_69 : decode cX2_commonPart 69 = .ok (.iconst 0, 1) := by decide +kernel
theorem dX2_commonPart_70 : decode cX2_commonPart 70 = .ok (.invokevirtual 48, 3) := by decide +kernel
theorem dX2_commonPart_73 : decode cX2_commonPart 73 = .ok (.iload_n 3, 1) := by decide +kernel
theorem dX2_commonPart_74 : decode cX2_commonPart 74 = .ok (.iconst 1, 1) := by decide +kernel
theorem dX2_commonPart_75 : decode cX2_commonPart 75 = .ok (.iadd, 1) := by decide +kernel
theorem dX2_commonPart_76 : decode cX2_commonPart 76 = .ok (.invokevirtual 96, 3) := by decide +kernel
theorem dX2_commonPart_79 : decode cX2_commonPart 79 = .ok (.istore 6, 2) := by decide +kernel
theorem dX2_commonPart_81 : decode cX2_commonPart 81 = .ok (.iload 5, 2) := by decide +kernel
theorem dX2_commonPart_83 : decode cX2_commonPart 83 = .ok (.iconst 2, 1) := by decide +kernel
theorem dX2_commonPart_84 : decode cX2_commonPart 84 = .ok (.if_icmp .ge 7, 3) := by decide +kernel
theorem dX2_commonPart_87 : decode cX2_commonPart 87 = .ok (.iconst (-1), 1) := by decide +kernel
theorem dX2_commonPart_88 : decode cX2_commonPart 88 = .ok (.goto 28, 3) := by decide +kernel
theorem dX2_commonPart_91 : decode cX2_commonPart 91 = .ok (.aload_n 0, 1) := by decide +kernel
theorem dX2_commonPart_92 : decode cX2_commonPart 92 = .ok (.aload_n 0, 1) := by decide +kernel
theorem dX2_commonPart_93 : decode cX2_commonPart 93 = .ok (.getfield 28, 3) := by decide +kernel
theorem dX2_commonPart_96 : decode cX2_commonPart 96 = .ok (.iload_n 1, 1) := by decide +kernel
theorem dX2_commonPart_97 : decode cX2_commonPart 97 = .ok (.iconst 1, 1) := by decide +kernel
theorem dX2_commonPart_98 : decode cX2_commonPart 98 = .ok (.invokevirtual 48, 3) := by decide +kernel
theorem dX2_commonPart_101 : decode cX2_commonPart 101 = .ok (.aload_n 0, 1) := by decide +kernel
theorem dX2_commonPart_102 : decode cX2_commonPart 102 = .ok (.getfield 28, 3) := by decide +kernel
theorem dX2_commonPart_105 : decode cX2_commonPart 105 = .ok (.iload_n 2, 1) := by decide +kernel
theorem dX2_commonPart_106 : decode cX2_commonPart 106 = .ok (.iconst 1, 1) := by decide +kernel
theorem dX2_commonPart_107 : decode cX2_commonPart 107 = .ok (.invokevirtual 48, 3) := by decide +kernel
theorem dX2_commonPart_110 : decode cX2_commonPart 110 = .ok (.iload_n 3, 1) := by decide +kernel
theorem dX2_commonPart_111 : decode cX2_commonPart 111 = .ok (.iconst 1, 1) := by decide +kernel
theorem dX2_commonPart_112 : decode cX2_commonPart 112 = .ok (.iadd, 1) := by decide +kernel
theorem dX2_commonPart_113 : decode cX2_commonPart 113 = .ok (.invokevirtual 96, 3) := by decide +kernel
theorem dX2_commonPart_116 : decode cX2_commonPart 116 = .ok (.istore 7, 2) := by decide +kernel
theorem dX2_commonPart_118 : decode cX2_commonPart 118 = .ok (.iload 5, 2) := by decide +kernel
theorem dX2_commonPart_120 : decode cX2_commonPart 120 = .ok (.iconst 3, 1) := by decide +kernel
theorem dX2_commonPart_121 : decode cX2_commonPart 121 = .ok (.if_icmp .ge 7, 3) := by decide +kernel
theorem dX2_commonPart_124 : decode cX2_commonPart 124 = .ok (.iconst (-1), 1) := by decide +kernel
theorem dX2_commonPart_125 : decode cX2_commonPart 125 = .ok (.goto 28, 3) := by decide +kernel
theorem dX2_commonPart_128 : decode cX2_commonPart 128 = .ok (.aload_n 0, 1) := by decide +kernel
theorem dX2_commonPart_129 : decode cX2_commonPart 129 = .ok (.aload_n 0, 1) := by decide +kernel
theorem dX2_commonPart_130 : decode cX2_commonPart 130 = .ok (.getfield 28, 3) := by decide +kernel
theorem dX2_commonPart_133 : decode cX2_commonPart 133 = .ok (.iload_n 1, 1) := by decide +kernel
theorem dX2_commonPart_134 : decode cX2_commonPart 134 = .ok (.iconst 2, 1) := by decide +kernel
theorem dX2_commonPart_135 : decode cX2_commonPart 135 = .ok (.invokevirtual 48, 3) := by decide +kernel
theorem dX2_commonPart_138 : decode cX2_commonPart 138 = .ok (.aload_n 0, 1) := by decide +kernel
theorem dX2_commonPart_139 : decode cX2_commonPart 139 = .ok (.getfield 28, 3) := by decide +kernel
theorem dX2_commonPart_142 : decode cX2_commonPart 142 = .ok (.iload_n 2, 1) := by decide +kernel
theorem dX2_commonPart_143 : decode cX2_commonPart 143 = .ok (.iconst 2, 1) := by decide +kernel
theorem dX2_commonPart_144 : decode cX2_commonPart 144 = .ok (.invokevirtual 48, 3) := by decide +kernel
theorem dX2_commonPart_147 : decode cX2_commonPart 147 = .ok (.iload_n 3, 1) := by decide +kernel
theorem dX2_commonPart_148 : decode cX2_commonPart 148 = .ok (.iconst 1, 1) := by decide +kernel
theorem dX2_commonPart_149 : decode cX2_commonPart 149 = .ok (.iadd, 1) := by decide +kernel
theorem dX2_commonPart_150 : decode cX2_commonPart 150 = .ok (.invokevirtual 96, 3) := by decide +kernel
theorem dX2_commonPart_153 : decode cX2_commonPart 153 = .ok (.istore 8, 2) := by decide +kernel
theorem dX2_commonPart_155 : decode cX2_commonPart 155 = .ok (.aload_n 0, 1) := by decide +kernel
theorem dX2_commonPart_156 : decode cX2_commonPart 156 = .ok (.getfield 28, 3) := by decide +kernel
theorem dX2_commonPart_159 : decode cX2_commonPart 159 = .ok (.aload_n 0, 1) := by decide +kernel
theorem dX2_commonPart_160 : decode cX2_commonPart 160 = .ok (.getfield 28, 3) := by decide +kernel
theorem dX2_commonPart_163 : decode cX2_commonPart 163 = .ok (.getfield 42, 3) := by decide +kernel
theorem dX2_commonPart_166 : decode cX2_commonPart 166 = .ok (.iload_n 1, 1) := by decide +kernel
theorem dX2_commonPart_167 : decode cX2_commonPart 167 = .ok (.iaload, 1) := by decide +kernel
theorem dX2_commonPart_168 : decode cX2_commonPart 168 = .ok (.iload 6, 2) := by decide +kernel
theorem dX2_commonPart_170 : decode cX2_commonPart 170 = .ok (.iload 7, 2) := by decide +kernel
theorem dX2_commonPart_172 : decode cX2_commonPart 172 = .ok (.iload 8, 2) := by decide +kernel
theorem dX2_commonPart_174 : decode cX2_commonPart 174 = .ok (.invokevirtual 52, 3) := by decide +kernel
theorem dX2_commonPart_177 : decode cX2_commonPart 177 = .ok (.ireturn, 1) := by decide +kernel
theorem dX2_drawn_0 : decode cX2_drawn 0 = .ok (.aload_n 0, 1) := by decide +kernel
theorem dX2_drawn_1 : decode cX2_drawn 1 = .ok (.iload_n 1, 1) := by decide +kernel
theorem dX2_drawn_2 : decode cX2_drawn 2 = .ok (.iconst 4, 1) := by decide +kernel
theorem dX2_drawn_3 : decode cX2_drawn 3 = .ok (.invokestatic 103, 3) := by decide +kernel
theorem dX2_drawn_6 : decode cX2_drawn 6 = .ok (.invokevirtual 108, 3) := by decide +kernel
theorem dX2_drawn_9 : decode cX2_drawn 9 = .ok (.ireturn, 1) := by decide +kernel
theorem dX2_drawnPart_0 : decode cX2_drawnPart 0 = .ok (.aload_n 0, 1) := by decide +kernel
theorem dX2_drawnPart_1 : decode cX2_drawnPart 1 = .ok (.bipush 8, 2) := by decide +kernel
theorem dX2_drawnPart_3 : decode cX2_drawnPart 3 = .ok (.invokevirtual 111, 3) := by decide +kernel
theorem dX2_drawnPart_6 : decode cX2_drawnPart 6 = .ok (.istore_n 2, 1) := by decide +kernel
theorem dX2_drawnPart_7 : decode cX2_drawnPart 7 = .ok (.aload_n 0, 1) := by decide +kernel
theorem dX2_drawnPart_8 : decode cX2_drawnPart 8 = .ok (.getfield 28, 3) := by decide +kernel
theorem dX2_drawnPart_11 : decode cX2_drawnPart 11 = .ok (.getfield 114, 3) := by decide +kernel
theorem dX2_drawnPart_14 : decode cX2_drawnPart 14 = .ok (.getfield 118, 3) := by decide +kernel
theorem dX2_drawnPart_17 : decode cX2_drawnPart 17 = .ok (.istore_n 3, 1) := by decide +kernel
theorem dX2_drawnPart_18 : decode cX2_drawnPart 18 = .ok (.iload_n 2, 1) := by decide +kernel
theorem dX2_drawnPart_19 : decode cX2_drawnPart 19 = .ok (.ifCond .eq 12, 3) := by decide +kernel
theorem dX2_drawnPart_22 : decode cX2_drawnPart 22 = .ok (.iload_n 1, 1) := by decide +kernel
theorem dX2_drawnPart_23 : decode cX2_drawnPart 23 = .ok (.iconst 1, 1) := by decide +kernel
theorem dX2_drawnPart_24 : decode cX2_drawnPart 24 = .ok (.if_icmp .le 7, 3) := by decide +kernel
theorem dX2_drawnPart_27 : decode cX2_drawnPart 27 = .ok (.iload_n 3, 1) := by decide +kernel
theorem dX2_drawnPart_28 : decode cX2_drawnPart 28 = .ok (.ifCond .ne 16, 3) := by decide +kernel
theorem dX2_drawnPart_31 : decode cX2_drawnPart 31 = .ok (.aload_n 0, 1) := by decide +kernel
theorem dX2_drawnPart_32 : decode cX2_drawnPart 32 = .ok (.getfield 28, 3) := by decide +kernel
theorem dX2_drawnPart_35 : decode cX2_drawnPart 35 = .ok (.aload_n 0, 1) := by decide +kernel
theorem dX2_drawnPart_36 : decode cX2_drawnPart 36 = .ok (.iconst 3, 1) := by decide +kernel
theorem dX2_drawnPart_37 : decode cX2_drawnPart 37 = .ok (.invokevirtual 111, 3) := by decide +kernel
theorem dX2_drawnPart_40 : decode cX2_drawnPart 40 = .ok (.invokevirtual 99, 3) := by decide +kernel
theorem dX2_drawnPart_43 : decode cX2_drawnPart 43 = .ok (.ireturn, 1) := by decide +kernel
theorem dX2_drawnPart_44 : decode cX2_drawnPart 44 = .ok (.aload_n 0, 1) := by decide +kernel
theorem dX2_drawnPart_45 : decode cX2_drawnPart 45 = .ok (.iload_n 3, 1) := by decide +kernel
theorem dX2_drawnPart_46 : decode cX2_drawnPart 46 = .ok (.invokevirtual 111, 3) := by decide +kernel
theorem dX2_drawnPart_49 : decode cX2_drawnPart 49 = .ok (.istore 4, 2) := by decide +kernel
theorem dX2_drawnPart_51 : decode cX2_drawnPart 51 = .ok (.aload_n 0, 1) := by decide +kernel
theorem dX2_drawnPart_52 : decode cX2_drawnPart 52 = .ok (.getfield 28, 3) := by decide +kernel
theorem dX2_drawnPart_55 : decode cX2_drawnPart 55 = .ok (.getfield 114, 3) := by decide +kernel
theorem dX2_drawnPart_58 : decode cX2_drawnPart 58 = .ok (.getfield 123, 3) := by decide +kernel
theorem dX2_drawnPart_61 : decode cX2_drawnPart 61 = .ok (.iload 4, 2) := by decide +kernel
theorem dX2_drawnPart_63 : decode cX2_drawnPart 63 = .ok (.iaload, 1) := by decide +kernel
theorem dX2_drawnPart_64 : decode cX2_drawnPart 64 = .ok (.istore 5, 2) := by decide +kernel
theorem dX2_drawnPart_66 : decode cX2_drawnPart 66 = .ok (.iload 5, 2) := by decide +kernel
theorem dX2_drawnPart_68 : decode cX2_drawnPart 68 = .ok (.iconst 1, 1) := by decide +kernel
theorem dX2_drawnPart_69 : decode cX2_drawnPart 69 = .ok (.if_icmp .ge 7, 3) := by decide +kernel
theorem dX2_drawnPart_72 : decode cX2_drawnPart 72 = .ok (.iconst (-1), 1) := by decide +kernel
theorem dX2_drawnPart_73 : decode cX2_drawnPart 73 = .ok (.goto 10, 3) := by decide +kernel
theorem dX2_drawnPart_76 : decode cX2_drawnPart 76 = .ok (.aload_n 0, 1) := by decide +kernel
theorem dX2_drawnPart_77 : decode cX2_drawnPart 77 = .ok (.iload_n 1, 1) := by decide +kernel
theorem dX2_drawnPart_78 : decode cX2_drawnPart 78 = .ok (.iconst 1, 1) := by decide +kernel
theorem dX2_drawnPart_79 : decode cX2_drawnPart 79 = .ok (.isub, 1) := by decide +kernel
theorem dX2_drawnPart_80 : decode cX2_drawnPart 80 = .ok (.invokevirtual 108, 3) := by decide +kernel
theorem dX2_drawnPart_83 : decode cX2_drawnPart 83 = .ok (.istore 6, 2) := by decide +kernel
theorem dX2_drawnPart_85 : decode cX2_drawnPart 85 = .ok (.iload 5, 2) := by decide +kernel
theorem dX2_drawnPart_87 : decode cX2_drawnPart 87 = .ok (.iconst 2, 1) := by decide +kernel
theorem dX2_drawnPart_88 : decode cX2_drawnPart 88 = .ok (.if_icmp .ge 7, 3) := by decide +kernel
theorem dX2_drawnPart_91 : decode cX2_drawnPart 91 = .ok (.iconst (-1), 1) := by decide +kernel
theorem dX2_drawnPart_92 : decode cX2_drawnPart 92 = .ok (.goto 10, 3) := by decide +kernel
theorem dX2_drawnPart_95 : decode cX2_drawnPart 95 = .ok (.aload_n 0, 1) := by decide +kernel
theorem dX2_drawnPart_96 : decode cX2_drawnPart 96 = .ok (.iload_n 1, 1) := by decide +kernel
theorem dX2_drawnPart_97 : decode cX2_drawnPart 97 = .ok (.iconst 1, 1) := by decide +kernel
theorem dX2_drawnPart_98 : decode cX2_drawnPart 98 = .ok (.isub, 1) := by decide +kernel
theorem dX2_drawnPart_99 : decode cX2_drawnPart 99 = .ok (.invokevirtual 108, 3) := by decide +kernel
theorem dX2_drawnPart_102 : decode cX2_drawnPart 102 = .ok (.istore 7, 2) := by decide +kernel
theorem dX2_drawnPart_104 : decode cX2_drawnPart 104 = .ok (.iload 5, 2) := by decide +kernel
theorem dX2_drawnPart_106 : decode cX2_drawnPart 106 = .ok (.iconst 3, 1) := by decide +kernel
theorem dX2_drawnPart_107 : decode cX2_drawnPart 107 = .ok (.if_icmp .ge 7, 3) := by decide +kernel
theorem dX2_drawnPart_110 : decode cX2_drawnPart 110 = .ok (.iconst (-1), 1) := by decide +kernel
theorem dX2_drawnPart_111 : decode cX2_drawnPart 111 = .ok (.goto 10, 3) := by decide +kernel
theorem dX2_drawnPart_114 : decode cX2_drawnPart 114 = .ok (.aload_n 0, 1) := by decide +kernel
theorem dX2_drawnPart_115 : decode cX2_drawnPart 115 = .ok (.iload_n 1, 1) := by decide +kernel
theorem dX2_drawnPart_116 : decode cX2_drawnPart 116 = .ok (.iconst 1, 1) := by decide +kernel
theorem dX2_drawnPart_117 : decode cX2_drawnPart 117 = .ok (.isub, 1) := by decide +kernel
theorem dX2_drawnPart_118 : decode cX2_drawnPart 118 = .ok (.invokevirtual 108, 3) := by decide +kernel
theorem dX2_drawnPart_121 : decode cX2_drawnPart 121 = .ok (.istore 8, 2) := by decide +kernel
theorem dX2_drawnPart_123 : decode cX2_drawnPart 123 = .ok (.aload_n 0, 1) := by decide +kernel
theorem dX2_drawnPart_124 : decode cX2_drawnPart 124 = .ok (.getfield 28, 3) := by decide +kernel
theorem dX2_drawnPart_127 : decode cX2_drawnPart 127 = .ok (.iload 4, 2) := by decide +kernel
theorem dX2_drawnPart_129 : decode cX2_drawnPart 129 = .ok (.iload 6, 2) := by decide +kernel
theorem dX2_drawnPart_131 : decode cX2_drawnPart 131 = .ok (.iload 7, 2) := by decide +kernel
theorem dX2_drawnPart_133 : decode cX2_drawnPart 133 = .ok (.iload 8, 2) := by decide +kernel
theorem dX2_drawnPart_135 : decode cX2_drawnPart 135 = .ok (.invokevirtual 52, 3) := by decide +kernel
theorem dX2_drawnPart_138 : decode cX2_drawnPart 138 = .ok (.ireturn, 1) := by decide +kernel
theorem dX2_drawOf_0 : decode cX2_drawOf 0 = .ok (.aload_n 0, 1) := by decide +kernel
theorem dX2_drawOf_1 : decode cX2_drawOf 1 = .ok (.aload_n 0, 1) := by decide +kernel
theorem dX2_drawOf_2 : decode cX2_drawOf 2 = .ok (.getfield 25, 3) := by decide +kernel
theorem dX2_drawOf_5 : decode cX2_drawOf 5 = .ok (.ldc 124, 2) := by decide +kernel
theorem dX2_drawOf_7 : decode cX2_drawOf 7 = .ok (.imul, 1) := by decide +kernel
theorem dX2_drawOf_8 : decode cX2_drawOf 8 = .ok (.sipush 12345, 3) := by decide +kernel
theorem dX2_drawOf_11 : decode cX2_drawOf 11 = .ok (.iadd, 1) := by decide +kernel
theorem dX2_drawOf_12 : decode cX2_drawOf 12 = .ok (.putfield 25, 3) := by decide +kernel
theorem dX2_drawOf_15 : decode cX2_drawOf 15 = .ok (.iload_n 1, 1) := by decide +kernel
theorem dX2_drawOf_16 : decode cX2_drawOf 16 = .ok (.ifCond .le 19, 3) := by decide +kernel
theorem dX2_drawOf_19 : decode cX2_drawOf 19 = .ok (.aload_n 0, 1) := by decide +kernel
theorem dX2_drawOf_20 : decode cX2_drawOf 20 = .ok (.getfield 25, 3) := by decide +kernel
theorem dX2_drawOf_23 : decode cX2_drawOf 23 = .ok (.bipush 16, 2) := by decide +kernel
theorem dX2_drawOf_25 : decode cX2_drawOf 25 = .ok (.iushr, 1) := by decide +kernel
theorem dX2_drawOf_26 : decode cX2_drawOf 26 = .ok (.sipush 32767, 3) := by decide +kernel
theorem dX2_drawOf_29 : decode cX2_drawOf 29 = .ok (.iand, 1) := by decide +kernel
theorem dX2_drawOf_30 : decode cX2_drawOf 30 = .ok (.iload_n 1, 1) := by decide +kernel
theorem dX2_drawOf_31 : decode cX2_drawOf 31 = .ok (.irem, 1) := by decide +kernel
theorem dX2_drawOf_32 : decode cX2_drawOf 32 = .ok (.goto 4, 3) := by decide +kernel
theorem dX2_drawOf_36 : decode cX2_drawOf 36 = .ok (.ireturn, 1) := by decide +kernel
theorem dX3_init_0 : decode cX3_init 0 = .ok (.aload_n 0, 1) := by decide +kernel
theorem dX3_init_1 : decode cX3_init 1 = .ok (.invokespecial 3, 3) := by decide +kernel
theorem dX3_init_4 : decode cX3_init 4 = .ok (.aload_n 0, 1) := by decide +kernel
theorem dX3_init_5 : decode cX3_init 5 = .ok (.bipush 8, 2) := by decide +kernel
theorem dX3_init_7 : decode cX3_init 7 = .ok (.newarray .int, 2) := by decide +kernel
theorem dX3_init_9 : decode cX3_init 9 = .ok (.putfield 9, 3) := by decide +kernel
theorem dX3_init_12 : decode cX3_init 12 = .ok (.aload_n 0, 1) := by decide +kernel
theorem dX3_init_13 : decode cX3_init 13 = .ok (.aload_n 1, 1) := by decide +kernel
theorem dX3_init_14 : decode cX3_init 14 = .ok (.putfield 15, 3) := by decide +kernel
theorem dX3_init_17 : decode cX3_init 17 = .ok (.return_, 1) := by decide +kernel
theorem dX3_matches_0 : decode cX3_matches 0 = .ok (.aload_n 0, 1) := by decide +kernel
theorem dX3_matches_1 : decode cX3_matches 1 = .ok (.getfield 9, 3) := by decide +kernel
theorem dX3_matches_4 : decode cX3_matches 4 = .ok (.iconst (-1), 1) := by decide +kernel
theorem dX3_matches_5 : decode cX3_matches 5 = .ok (.invokestatic 19, 3) := by decide +kernel
theorem dX3_matches_8 : decode cX3_matches 8 = .ok (.aload_n 0, 1) := by decide +kernel
theorem dX3_matches_9 : decode cX3_matches 9 = .ok (.iload_n 1, 1) := by decide +kernel
theorem dX3_matches_10 : decode cX3_matches 10 = .ok (.iload_n 2, 1) := by decide +kernel
theorem dX3_matches_11 : decode cX3_matches 11 = .ok (.iconst 1, 1) := by decide +kernel
theorem dX3_matches_12 : decode cX3_matches 12 = .ok (.invokevirtual 25, 3) := by decide +kernel
theorem dX3_matches_15 : decode cX3_matches 15 = .ok (.ireturn, 1) := by decide +kernel
theorem dX3_fitsPart_0 : decode cX3_fitsPart 0 = .ok (.iload_n 3, 1) := by decide +kernel
theorem dX3_fitsPart_1 : decode cX3_fitsPart 1 = .ok (.bipush 6, 2) := by decide +kernel
theorem dX3_fitsPart_3 : decode cX3_fitsPart 3 = .ok (.if_icmp .le 5, 3) := by decide +kernel
theorem dX3_fitsPart_6 : decode cX3_fitsPart 6 = .ok (.iconst 0, 1) := by decide +kernel
theorem dX3_fitsPart_7 : decode cX3_fitsPart 7 = .ok (.ireturn, 1) := by decide +kernel
theorem dX3_fitsPart_8 : decode cX3_fitsPart 8 = .ok (.aload_n 0, 1) := by decide +kernel
theorem dX3_fitsPart_9 : decode cX3_fitsPart 9 = .ok (.getfield 15, 3) := by decide +kernel
theorem dX3_fitsPart_12 : decode cX3_fitsPart 12 = .ok (.iload_n 1, 1) := by decide +kernel
theorem dX3_fitsPart_13 : decode cX3_fitsPart 13 = .ok (.invokevirtual 29, 3) := by decide +kernel
theorem dX3_fitsPart_16 : decode cX3_fitsPart 16 = .ok (.ifCond .eq 20, 3) := by decide +kernel
theorem dX3_fitsPart_19 : decode cX3_fitsPart 19 = .ok (.aload_n 0, 1) := by decide +kernel
theorem dX3_fitsPart_20 : decode cX3_fitsPart 20 = .ok (.aload_n 0, 1) := by decide +kernel
theorem dX3_fitsPart_21 : decode cX3_fitsPart 21 = .ok (.getfield 15, 3) := by decide +kernel
theorem dX3_fitsPart_24 : decode cX3_fitsPart 24 = .ok (.getfield 35, 3) := by decide +kernel
theorem dX3_fitsPart_27 : decode cX3_fitsPart 27 = .ok (.iload_n 1, 1) := by decide +kernel
theorem dX3_fitsPart_28 : decode cX3_fitsPart 28 = .ok (.iaload, 1) := by decide +kernel
theorem dX3_fitsPart_29 : decode cX3_fitsPart 29 = .ok (.iconst (-1), 1) := by decide +kernel
theorem dX3_fitsPart_30 : decode cX3_fitsPart 30 = .ok (.ixor, 1) := by decide +kernel
theorem dX3_fitsPart_31 : decode cX3_fitsPart 31 = .ok (.iload_n 2, 1) := by decide +kernel
theorem dX3_fitsPart_32 : decode cX3_fitsPart 32 = .ok (.invokevirtual 38, 3) := by decide +kernel
theorem dX3_fitsPart_35 : decode cX3_fitsPart 35 = .ok (.ireturn, 1) := by decide +kernel
theorem dX3_fitsPart_36 : decode cX3_fitsPart 36 = .ok (.aload_n 0, 1) := by decide +kernel
theorem dX3_fitsPart_37 : decode cX3_fitsPart 37 = .ok (.getfield 15, 3) := by decide +kernel
theorem dX3_fitsPart_40 : decode cX3_fitsPart 40 = .ok (.getfield 35, 3) := by decide +kernel
theorem dX3_fitsPart_43 : decode cX3_fitsPart 43 = .ok (.iload_n 1, 1) := by decide +kernel
theorem dX3_fitsPart_44 : decode cX3_fitsPart 44 = .ok (.iaload, 1) := by decide +kernel
theorem dX3_fitsPart_45 : decode cX3_fitsPart 45 = .ok (.aload_n 0, 1) := by decide +kernel
theorem dX3_fitsPart_46 : decode cX3_fitsPart 46 = .ok (.getfield 15, 3) := by decide +kernel
theorem dX3_fitsPart_49 : decode cX3_fitsPart 49 = .ok (.getfield 35, 3) := by decide +kernel
theorem dX3_fitsPart_52 : decode cX3_fitsPart 52 = .ok (.iload_n 2, 1) := by decide +kernel
theorem dX3_fitsPart_53 : decode cX3_fitsPart 53 = .ok (.iaload, 1) := by decide +kernel
theorem dX3_fitsPart_54 : decode cX3_fitsPart 54 = .ok (.if_icmp .eq 5, 3) := by decide +kernel
theorem dX3_fitsPart_57 : decode cX3_fitsPart 57 = .ok (.iconst 0, 1) := by decide +kernel
theorem dX3_fitsPart_58 : decode cX3_fitsPart 58 = .ok (.ireturn, 1) := by decide +kernel
theorem dX3_fitsPart_59 : decode cX3_fitsPart 59 = .ok (.iconst 0, 1) := by decide +kernel
theorem dX3_fitsPart_60 : decode cX3_fitsPart 60 = .ok (.istore 4, 2) := by decide +kernel
theorem dX3_fitsPart_62 : decode cX3_fitsPart 62 = .ok (.iload 4, 2) := by decide +kernel
theorem dX3_fitsPart_64 : decode cX3_fitsPart 64 = .ok (.aload_n 0, 1) := by decide +kernel
theorem dX3_fitsPart_65 : decode cX3_fitsPart 65 = .ok (.getfield 15, 3) := by decide +kernel
theorem dX3_fitsPart_68 : decode cX3_fitsPart 68 = .ok (.getfield 42, 3) := by decide +kernel
theorem dX3_fitsPart_71 : decode cX3_fitsPart 71 = .ok (.iload_n 1, 1) := by decide +kernel
theorem dX3_fitsPart_72 : decode cX3_fitsPart 72 = .ok (.iaload, 1) := by decide +kernel
theorem dX3_fitsPart_73 : decode cX3_fitsPart 73 = .ok (.if_icmp .ge 41, 3) := by decide +kernel
theorem dX3_fitsPart_76 : decode cX3_fitsPart 76 = .ok (.aload_n 0, 1) := by decide +kernel
theorem dX3_fitsPart_77 : decode cX3_fitsPart 77 = .ok (.aload_n 0, 1) := by decide +kernel
theorem dX3_fitsPart_78 : decode cX3_fitsPart 78 = .ok (.getfield 15, 3) := by decide +kernel
theorem dX3_fitsPart_81 : decode cX3_fitsPart 81 = .ok (.iload_n 1, 1) := by decide +kernel
theorem dX3_fitsPart_82 : decode cX3_fitsPart 82 = .ok (.iload 4, 2) := by decide +kernel
theorem dX3_fitsPart_84 : decode cX3_fitsPart 84 = .ok (.invokevirtual 45, 3) := by decide +kernel
theorem dX3_fitsPart_87 : decode cX3_fitsPart 87 = .ok (.aload_n 0, 1) := by decide +kernel
theorem dX3_fitsPart_88 : decode cX3_fitsPart 88 = .ok (.getfield 15, 3) := by decide +kernel
theorem dX3_fitsPart_91 : decode cX3_fitsPart 91 = .ok (.iload_n 2, 1) := by decide +kernel
theorem dX3_fitsPart_92 : decode cX3_fitsPart 92 = .ok (.iload 4, 2) := by decide +kernel
theorem dX3_fitsPart_94 : decode cX3_fitsPart 94 = .ok (.invokevirtual 45, 3) := by decide +kernel
theorem dX3_fitsPart_97 : decode cX3_fitsPart 97 = .ok (.iload_n 3, 1) := by decide +kernel
theorem dX3_fitsPart_98 : decode cX3_fitsPart 98 = .ok (.iconst 1, 1) := by decide +kernel
theorem dX3_fitsPart_99 : decode cX3_fitsPart 99 = .ok (.iadd, 1) := by decide +kernel
theorem dX3_fitsPart_100 : decode cX3_fitsPart 100 = .ok (.invokevirtual 25, 3) := by decide +kernel
theorem dX3_fitsPart_103 : decode cX3_fitsPart 103 = .ok (.ifCond .ne 5, 3) := by decide +kernel
theorem dX3_fitsPart_106 : decode cX3_fitsPart 106 = .ok (.iconst 0, 1) := by decide +kernel
theorem dX3_fitsPart_107 : decode cX3_fitsPart 107 = .ok (.ireturn, 1) := by decide +kernel
theorem dX3_fitsPart_108 : decode cX3_fitsPart 108 = .ok (.iinc 4 1, 3) := by decide +kernel
theorem dX3_fitsPart_111 : decode cX3_fitsPart 111 = .ok (.goto (-49), 3) := by decide +kernel
theorem dX3_fitsPart_114 : decode cX3_fitsPart 114 = .ok (.iconst 1, 1) := by decide +kernel
theorem dX3_fitsPart_115 : decode cX3_fitsPart 115 = .ok (.ireturn, 1) := by decide +kernel
theorem dX3_takes_0 : decode cX3_takes 0 = .ok (.aload_n 0, 1) := by decide +kernel
theorem dX3_takes_1 : decode cX3_takes 1 = .ok (.getfield 9, 3) := by decide +kernel
theorem dX3_takes_4 : decode cX3_takes 4 = .ok (.iload_n 1, 1) := by decide +kernel
theorem dX3_takes_5 : decode cX3_takes 5 = .ok (.iaload, 1) := by decide +kernel
theorem dX3_takes_6 : decode cX3_takes 6 = .ok (.iconst (-1), 1) := by decide +kernel
theorem dX3_takes_7 : decode cX3_takes 7 = .ok (.if_icmp .ne 10, 3) := by decide +kernel
theorem dX3_takes_10 : decode cX3_takes 10 = .ok (.aload_n 0, 1) := by decide +kernel
theorem dX3_takes_11 : decode cX3_takes 11 = .ok (.getfield 9, 3) := by decide +kernel
theorem dX3_takes_14 : decode cX3_takes 14 = .ok (.iload_n 1, 1) := by decide +kernel
theorem dX3_takes_15 : decode cX3_takes 15 = .ok (.iload_n 2, 1) := by decide +kernel
theorem dX3_takes_16 : decode cX3_takes 16 = .ok (.iastore, 1) := by decide +kernel
theorem dX3_takes_17 : decode cX3_takes 17 = .ok (.aload_n 0, 1) := by decide +kernel
theorem dX3_takes_18 : decode cX3_takes 18 = .ok (.getfield 9, 3) := by decide +kernel
theorem dX3_takes_21 : decode cX3_takes 21 = .ok (.iload_n 1, 1) := by decide +kernel
theorem dX3_takes_22 : decode cX3_takes 22 = .ok (.iaload, 1) := by decide +kernel
theorem dX3_takes_23 : decode cX3_takes 23 = .ok (.iload_n 2, 1) := by decide +kernel
theorem dX3_takes_24 : decode cX3_takes 24 = .ok (.if_icmp .ne 7, 3) := by decide +kernel
theorem dX3_takes_27 : decode cX3_takes 27 = .ok (.iconst 1, 1) := by decide +kernel
theorem dX3_takes_28 : decode cX3_takes 28 = .ok (.goto 4, 3) := by decide +kernel
theorem dX3_takes_31 : decode cX3_takes 31 = .ok (.iconst 0, 1) := by decide +kernel
theorem dX3_takes_32 : decode cX3_takes 32 = .ok (.ireturn, 1) := by decide +kernel
