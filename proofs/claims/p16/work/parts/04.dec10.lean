theorem dX12_commonOf_11 : decode cX12_commonOf 11 = .ok (.ifCond .eq 5, 3) := by decide +kernel
theorem dX12_commonOf_14 : decode cX12_commonOf 14 = .ok (.iconst 0, 1) := by decide +kernel
theorem dX12_commonOf_15 : decode cX12_commonOf 15 = .ok (.ireturn, 1) := by decide +kernel
theorem dX12_commonOf_16 : decode cX12_commonOf 16 = .ok (.aload_n 0, 1) := by decide +kernel
theorem dX12_commonOf_17 : decode cX12_commonOf 17 = .ok (.iload_n 1, 1) := by decide +kernel
theorem dX12_commonOf_18 : decode cX12_commonOf 18 = .ok (.invokevirtual 78, 3) := by decide +kernel
theorem dX12_commonOf_21 : decode cX12_commonOf 21 = .ok (.ifCond .ne 16, 3) := by decide +kernel
theorem dX12_commonOf_24 : decode cX12_commonOf 24 = .ok (.aload_n 0, 1) := by decide +kernel
theorem dX12_commonOf_25 : decode cX12_commonOf 25 = .ok (.iload_n 1, 1) := by decide +kernel
theorem dX12_commonOf_26 : decode cX12_commonOf 26 = .ok (.invokevirtual 74, 3) := by decide +kernel
theorem dX12_commonOf_29 : decode cX12_commonOf 29 = .ok (.aload_n 0, 1) := by decide +kernel
theorem dX12_commonOf_30 : decode cX12_commonOf 30 = .ok (.iload_n 2, 1) := by decide +kernel
theorem dX12_commonOf_31 : decode cX12_commonOf 31 = .ok (.invokevirtual 74, 3) := by decide +kernel
theorem dX12_commonOf_34 : decode cX12_commonOf 34 = .ok (.if_icmp .eq 27, 3) := by decide +kernel
theorem dX12_commonOf_37 : decode cX12_commonOf 37 = .ok (.aload_n 0, 1) := by decide +kernel
theorem dX12_commonOf_38 : decode cX12_commonOf 38 = .ok (.iload_n 1, 1) := by decide +kernel
theorem dX12_commonOf_39 : decode cX12_commonOf 39 = .ok (.iload_n 2, 1) := by decide +kernel
theorem dX12_commonOf_40 : decode cX12_commonOf 40 = .ok (.invokevirtual 198, 3) := by decide +kernel
theorem dX12_commonOf_43 : decode cX12_commonOf 43 = .ok (.istore_n 3, 1) := by decide +kernel
theorem dX12_commonOf_44 : decode cX12_commonOf 44 = .ok (.aload_n 0, 1) := by decide +kernel
theorem dX12_commonOf_45 : decode cX12_commonOf 45 = .ok (.getfield 195, 3) := by decide +kernel
theorem dX12_commonOf_48 : decode cX12_commonOf 48 = .ok (.ifCond .eq 7, 3) := by decide +kernel
theorem dX12_commonOf_51 : decode cX12_commonOf 51 = .ok (.iconst 0, 1) := by decide +kernel
theorem dX12_commonOf_52 : decode cX12_commonOf 52 = .ok (.goto 8, 3) := by decide +kernel
theorem dX12_commonOf_55 : decode cX12_commonOf 55 = .ok (.aload_n 0, 1) := by decide +kernel
theorem dX12_commonOf_56 : decode cX12_commonOf 56 = .ok (.iload_n 3, 1) := by decide +kernel
theorem dX12_commonOf_57 : decode cX12_commonOf 57 = .ok (.invokevirtual 180, 3) := by decide +kernel
theorem dX12_commonOf_60 : decode cX12_commonOf 60 = .ok (.ireturn, 1) := by decide +kernel
theorem dX12_commonOf_61 : decode cX12_commonOf 61 = .ok (.aload_n 0, 1) := by decide +kernel
theorem dX12_commonOf_62 : decode cX12_commonOf 62 = .ok (.iload_n 1, 1) := by decide +kernel
theorem dX12_commonOf_63 : decode cX12_commonOf 63 = .ok (.invokevirtual 111, 3) := by decide +kernel
theorem dX12_commonOf_66 : decode cX12_commonOf 66 = .ok (.istore_n 3, 1) := by decide +kernel
theorem dX12_commonOf_67 : decode cX12_commonOf 67 = .ok (.iload_n 3, 1) := by decide +kernel
theorem dX12_commonOf_68 : decode cX12_commonOf 68 = .ok (.ifCond .le 22, 3) := by decide +kernel
theorem dX12_commonOf_71 : decode cX12_commonOf 71 = .ok (.aload_n 0, 1) := by decide +kernel
theorem dX12_commonOf_72 : decode cX12_commonOf 72 = .ok (.aload_n 0, 1) := by decide +kernel
theorem dX12_commonOf_73 : decode cX12_commonOf 73 = .ok (.iload_n 1, 1) := by decide +kernel
theorem dX12_commonOf_74 : decode cX12_commonOf 74 = .ok (.iconst 0, 1) := by decide +kernel
theorem dX12_commonOf_75 : decode cX12_commonOf 75 = .ok (.invokevirtual 88, 3) := by decide +kernel
theorem dX12_commonOf_78 : decode cX12_commonOf 78 = .ok (.aload_n 0, 1) := by decide +kernel
theorem dX12_commonOf_79 : decode cX12_commonOf 79 = .ok (.iload_n 2, 1) := by decide +kernel
theorem dX12_commonOf_80 : decode cX12_commonOf 80 = .ok (.iconst 0, 1) := by decide +kernel
theorem dX12_commonOf_81 : decode cX12_commonOf 81 = .ok (.invokevirtual 88, 3) := by decide +kernel
theorem dX12_commonOf_84 : decode cX12_commonOf 84 = .ok (.invokevirtual 201, 3) := by decide +kernel
theorem dX12_commonOf_87 : decode cX12_commonOf 87 = .ok (.goto 4, 3) := by decide +kernel
theorem dX12_commonOf_90 : decode cX12_commonOf 90 = .ok (.iconst 0, 1) := by decide +kernel
theorem dX12_commonOf_91 : decode cX12_commonOf 91 = .ok (.istore 4, 2) := by decide +kernel
theorem dX12_commonOf_93 : decode cX12_commonOf 93 = .ok (.iload_n 3, 1) := by decide +kernel
theorem dX12_commonOf_94 : decode cX12_commonOf 94 = .ok (.iconst 1, 1) := by decide +kernel
theorem dX12_commonOf_95 : decode cX12_commonOf 95 = .ok (.if_icmp .le 22, 3) := by decide +kernel
theorem dX12_commonOf_98 : decode cX12_commonOf 98 = .ok (.aload_n 0, 1) := by decide +kernel
theorem dX12_commonOf_99 : decode cX12_commonOf 99 = .ok (.aload_n 0, 1) := by decide +kernel
theorem dX12_commonOf_100 : decode cX12_commonOf 100 = .ok (.iload_n 1, 1) := by decide +kernel
theorem dX12_commonOf_101 : decode cX12_commonOf 101 = .ok (.iconst 1, 1) := by decide +kernel
theorem dX12_commonOf_102 : decode cX12_commonOf 102 = .ok (.invokevirtual 88, 3) := by decide +kernel
theorem dX12_commonOf_105 : decode cX12_commonOf 105 = .ok (.aload_n 0, 1) := by decide +kernel
theorem dX12_commonOf_106 : decode cX12_commonOf 106 = .ok (.iload_n 2, 1) := by decide +kernel
theorem dX12_commonOf_107 : decode cX12_commonOf 107 = .ok (.iconst 1, 1) := by decide +kernel
theorem dX12_commonOf_108 : decode cX12_commonOf 108 = .ok (.invokevirtual 88, 3) := by decide +kernel
theorem dX12_commonOf_111 : decode cX12_commonOf 111 = .ok (.invokevirtual 201, 3) := by decide +kernel
theorem dX12_commonOf_114 : decode cX12_commonOf 114 = .ok (.goto 4, 3) := by decide +kernel
theorem dX12_commonOf_117 : decode cX12_commonOf 117 = .ok (.iconst 0, 1) := by decide +kernel
theorem dX12_commonOf_118 : decode cX12_commonOf 118 = .ok (.istore 5, 2) := by decide +kernel
theorem dX12_commonOf_120 : decode cX12_commonOf 120 = .ok (.iload_n 3, 1) := by decide +kernel
theorem dX12_commonOf_121 : decode cX12_commonOf 121 = .ok (.iconst 2, 1) := by decide +kernel
theorem dX12_commonOf_122 : decode cX12_commonOf 122 = .ok (.if_icmp .le 22, 3) := by decide +kernel
theorem dX12_commonOf_125 : decode cX12_commonOf 125 = .ok (.aload_n 0, 1) := by decide +kernel
theorem dX12_commonOf_126 : decode cX12_commonOf 126 = .ok (.aload_n 0, 1) := by decide +kernel
theorem dX12_commonOf_127 : decode cX12_commonOf 127 = .ok (.iload_n 1, 1) := by decide +kernel
theorem dX12_commonOf_128 : decode cX12_commonOf 128 = .ok (.iconst 2, 1) := by decide +kernel
theorem dX12_commonOf_129 : decode cX12_commonOf 129 = .ok (.invokevirtual 88, 3) := by decide +kernel
theorem dX12_commonOf_132 : decode cX12_commonOf 132 = .ok (.aload_n 0, 1) := by decide +kernel
theorem dX12_commonOf_133 : decode cX12_commonOf 133 = .ok (.iload_n 2, 1) := by decide +kernel
theorem dX12_commonOf_134 : decode cX12_commonOf 134 = .ok (.iconst 2, 1) := by decide +kernel
theorem dX12_commonOf_135 : decode cX12_commonOf 135 = .ok (.invokevirtual 88, 3) := by decide +kernel
theorem dX12_commonOf_138 : decode cX12_commonOf 138 = .ok (.invokevirtual 201, 3) := by decide +kernel
theorem dX12_commonOf_141 : decode cX12_commonOf 141 = .ok (.goto 4, 3) := by decide +kernel
theorem dX12_commonOf_144 : decode cX12_commonOf 144 = .ok (.iconst 0, 1) := by decide +kernel
theorem dX12_commonOf_145 : decode cX12_commonOf 145 = .ok (.istore 6, 2) := by decide +kernel
theorem dX12_commonOf_147 : decode cX12_commonOf 147 = .ok (.aload_n 0, 1) := by decide +kernel
theorem dX12_commonOf_148 : decode cX12_commonOf 148 = .ok (.getfield 195, 3) := by decide +kernel
theorem dX12_commonOf_151 : decode cX12_commonOf 151 = .ok (.ifCond .eq 7, 3) := by decide +kernel
theorem dX12_commonOf_154 : decode cX12_commonOf 154 = .ok (.iconst 0, 1) := by decide +kernel
theorem dX12_commonOf_155 : decode cX12_commonOf 155 = .ok (.goto 14, 3) := by decide +kernel
theorem dX12_commonOf_158 : decode cX12_commonOf 158 = .ok (.aload_n 0, 1) := by decide +kernel
theorem dX12_commonOf_159 : decode cX12_commonOf 159 = .ok (.iload_n 1, 1) := by decide +kernel
theorem dX12_commonOf_160 : decode cX12_commonOf 160 = .ok (.iload 4, 2) := by decide +kernel
theorem dX12_commonOf_162 : decode cX12_commonOf 162 = .ok (.iload 5, 2) := by decide +kernel
theorem dX12_commonOf_164 : decode cX12_commonOf 164 = .ok (.iload 6, 2) := by decide +kernel
theorem dX12_commonOf_166 : decode cX12_commonOf 166 = .ok (.invokevirtual 152, 3) := by decide +kernel
theorem dX12_commonOf_169 : decode cX12_commonOf 169 = .ok (.ireturn, 1) := by decide +kernel
theorem dX12_memoAt_0 : decode cX12_memoAt 0 = .ok (.iconst 0, 1) := by decide +kernel
theorem dX12_memoAt_1 : decode cX12_memoAt 1 = .ok (.istore_n 2, 1) := by decide +kernel
theorem dX12_memoAt_2 : decode cX12_memoAt 2 = .ok (.iload_n 2, 1) := by decide +kernel
theorem dX12_memoAt_3 : decode cX12_memoAt 3 = .ok (.aload_n 0, 1) := by decide +kernel
theorem dX12_memoAt_4 : decode cX12_memoAt 4 = .ok (.getfield 9, 3) := by decide +kernel
theorem dX12_memoAt_7 : decode cX12_memoAt 7 = .ok (.bipush 40, 2) := by decide +kernel
theorem dX12_memoAt_9 : decode cX12_memoAt 9 = .ok (.iaload, 1) := by decide +kernel
theorem dX12_memoAt_10 : decode cX12_memoAt 10 = .ok (.if_icmp .ge 26, 3) := by decide +kernel
theorem dX12_memoAt_13 : decode cX12_memoAt 13 = .ok (.aload_n 0, 1) := by decide +kernel
theorem dX12_memoAt_14 : decode cX12_memoAt 14 = .ok (.getfield 9, 3) := by decide +kernel
theorem dX12_memoAt_17 : decode cX12_memoAt 17 = .ok (.bipush 41, 2) := by decide +kernel
theorem dX12_memoAt_19 : decode cX12_memoAt 19 = .ok (.iconst 2, 1) := by decide +kernel
theorem dX12_memoAt_20 : decode cX12_memoAt 20 = .ok (.iload_n 2, 1) := by decide +kernel
theorem dX12_memoAt_21 : decode cX12_memoAt 21 = .ok (.imul, 1) := by decide +kernel
theorem dX12_memoAt_22 : decode cX12_memoAt 22 = .ok (.iadd, 1) := by decide +kernel
theorem dX12_memoAt_23 : decode cX12_memoAt 23 = .ok (.iaload, 1) := by decide +kernel
theorem dX12_memoAt_24 : decode cX12_memoAt 24 = .ok (.iload_n 1, 1) := by decide +kernel
theorem dX12_memoAt_25 : decode cX12_memoAt 25 = .ok (.if_icmp .ne 5, 3) := by decide +kernel
theorem dX12_memoAt_28 : decode cX12_memoAt 28 = .ok (.iload_n 2, 1) := by decide +kernel
theorem dX12_memoAt_29 : decode cX12_memoAt 29 = .ok (.ireturn, 1) := by decide +kernel
theorem dX12_memoAt_30 : decode cX12_memoAt 30 = .ok (.iinc 2 1, 3) := by decide +kernel
theorem dX12_memoAt_33 : decode cX12_memoAt 33 = .ok (.goto (-31), 3) := by decide +kernel
theorem dX12_memoAt_36 : decode cX12_memoAt 36 = .ok (.iconst (-1), 1) := by decide +kernel
theorem dX12_memoAt_37 : decode cX12_memoAt 37 = .ok (.ireturn, 1) := by decide +kernel
theorem dX12_memoLoses_0 : decode cX12_memoLoses 0 = .ok (.aload_n 0, 1) := by decide +kernel
theorem dX12_memoLoses_1 : decode cX12_memoLoses 1 = .ok (.getfield 9, 3) := by decide +kernel
theorem dX12_memoLoses_4 : decode cX12_memoLoses 4 = .ok (.bipush 40, 2) := by decide +kernel
theorem dX12_memoLoses_6 : decode cX12_memoLoses 6 = .ok (.dup2, 1) := by decide +kernel
theorem dX12_memoLoses_7 : decode cX12_memoLoses 7 = .ok (.iaload, 1) := by decide +kernel
theorem dX12_memoLoses_8 : decode cX12_memoLoses 8 = .ok (.iconst 1, 1) := by decide +kernel
theorem dX12_memoLoses_9 : decode cX12_memoLoses 9 = .ok (.isub, 1) := by decide +kernel
theorem dX12_memoLoses_10 : decode cX12_memoLoses 10 = .ok (.iastore, 1) := by decide +kernel
theorem dX12_memoLoses_11 : decode cX12_memoLoses 11 = .ok (.iconst 2, 1) := by decide +kernel
theorem dX12_memoLoses_12 : decode cX12_memoLoses 12 = .ok (.iload_n 1, 1) := by decide +kernel
theorem dX12_memoLoses_13 : decode cX12_memoLoses 13 = .ok (.imul, 1) := by decide +kernel
theorem dX12_memoLoses_14 : decode cX12_memoLoses 14 = .ok (.istore_n 2, 1) := by decide +kernel
theorem dX12_memoLoses_15 : decode cX12_memoLoses 15 = .ok (.iload_n 2, 1) := by decide +kernel
theorem dX12_memoLoses_16 : decode cX12_memoLoses 16 = .ok (.iconst 2, 1) := by decide +kernel
theorem dX12_memoLoses_17 : decode cX12_memoLoses 17 = .ok (.aload_n 0, 1) := by decide +kernel
theorem dX12_memoLoses_18 : decode cX12_memoLoses 18 = .ok (.getfield 9, 3) := by decide +kernel
theorem dX12_memoLoses_21 : decode cX12_memoLoses 21 = .ok (.bipush 40, 2) := by decide +kernel
theorem dX12_memoLoses_23 : decode cX12_memoLoses 23 = .ok (.iaload, 1) := by decide +kernel
theorem dX12_memoLoses_24 : decode cX12_memoLoses 24 = .ok (.imul, 1) := by decide +kernel
theorem dX12_memoLoses_25 : decode cX12_memoLoses 25 = .ok (.if_icmp .ge 29, 3) := by decide +kernel
theorem dX12_memoLoses_28 : decode cX12_memoLoses 28 = .ok (.aload_n 0, 1) := by decide +kernel
theorem dX12_memoLoses_29 : decode cX12_memoLoses 29 = .ok (.getfield 9, 3) := by decide +kernel
theorem dX12_memoLoses_32 : decode cX12_memoLoses 32 = .ok (.bipush 41, 2) := by decide +kernel
theorem dX12_memoLoses_34 : decode cX12_memoLoses 34 = .ok (.iload_n 2, 1) := by decide +kernel
theorem dX12_memoLoses_35 : decode cX12_memoLoses 35 = .ok (.iadd, 1) := by decide +kernel
theorem dX12_memoLoses_36 : decode cX12_memoLoses 36 = .ok (.aload_n 0, 1) := by decide +kernel
theorem dX12_memoLoses_37 : decode cX12_memoLoses 37 = .ok (.getfield 9, 3) := by decide +kernel
theorem dX12_memoLoses_40 : decode cX12_memoLoses 40 = .ok (.bipush 41, 2) := by decide +kernel
theorem dX12_memoLoses_42 : decode cX12_memoLoses 42 = .ok (.iload_n 2, 1) := by decide +kernel
theorem dX12_memoLoses_43 : decode cX12_memoLoses 43 = .ok (.iadd, 1) := by decide +kernel
theorem dX12_memoLoses_44 : decode cX12_memoLoses 44 = .ok (.iconst 2, 1) := by decide +kernel
theorem dX12_memoLoses_45 : decode cX12_memoLoses 45 = .ok (.iadd, 1) := by decide +kernel
theorem dX12_memoLoses_46 : decode cX12_memoLoses 46 = .ok (.iaload, 1) := by decide +kernel
theorem dX12_memoLoses_47 : decode cX12_memoLoses 47 = .ok (.iastore, 1) := by decide +kernel
theorem dX12_memoLoses_48 : decode cX12_memoLoses 48 = .ok (.iinc 2 1, 3) := by decide +kernel
theorem dX12_memoLoses_51 : decode cX12_memoLoses 51 = .ok (.goto (-36), 3) := by decide +kernel
theorem dX12_memoLoses_54 : decode cX12_memoLoses 54 = .ok (.return_, 1) := by decide +kernel
theorem dX12_memoGets_0 : decode cX12_memoGets 0 = .ok (.aload_n 0, 1) := by decide +kernel
theorem dX12_memoGets_1 : decode cX12_memoGets 1 = .ok (.getfield 9, 3) := by decide +kernel
theorem dX12_memoGets_4 : decode cX12_memoGets 4 = .ok (.bipush 39, 2) := by decide +kernel
theorem dX12_memoGets_6 : decode cX12_memoGets 6 = .ok (.iaload, 1) := by decide +kernel
theorem dX12_memoGets_7 : decode cX12_memoGets 7 = .ok (.ifCond .ne 4, 3) := by decide +kernel
theorem dX12_memoGets_10 : decode cX12_memoGets 10 = .ok (.return_, 1) := by decide +kernel
theorem dX12_memoGets_11 : decode cX12_memoGets 11 = .ok (.aload_n 0, 1) := by decide +kernel
theorem dX12_memoGets_12 : decode cX12_memoGets 12 = .ok (.getfield 9, 3) := by decide +kernel
theorem dX12_memoGets_15 : decode cX12_memoGets 15 = .ok (.bipush 40, 2) := by decide +kernel
theorem dX12_memoGets_17 : decode cX12_memoGets 17 = .ok (.iaload, 1) := by decide +kernel
theorem dX12_memoGets_18 : decode cX12_memoGets 18 = .ok (.aload_n 0, 1) := by decide +kernel
theorem dX12_memoGets_19 : decode cX12_memoGets 19 = .ok (.getfield 9, 3) := by decide +kernel
theorem dX12_memoGets_22 : decode cX12_memoGets 22 = .ok (.bipush 39, 2) := by decide +kernel
theorem dX12_memoGets_24 : decode cX12_memoGets 24 = .ok (.iaload, 1) := by decide +kernel
theorem dX12_memoGets_25 : decode cX12_memoGets 25 = .ok (.if_icmp .ne 8, 3) := by decide +kernel
theorem dX12_memoGets_28 : decode cX12_memoGets 28 = .ok (.aload_n 0, 1) := by decide +kernel
theorem dX12_memoGets_29 : decode cX12_memoGets 29 = .ok (.iconst 0, 1) := by decide +kernel
theorem dX12_memoGets_30 : decode cX12_memoGets 30 = .ok (.invokevirtual 204, 3) := by decide +kernel
theorem dX12_memoGets_33 : decode cX12_memoGets 33 = .ok (.aload_n 0, 1) := by decide +kernel
theorem dX12_memoGets_34 : decode cX12_memoGets 34 = .ok (.getfield 9, 3) := by decide +kernel
theorem dX12_memoGets_37 : decode cX12_memoGets 37 = .ok (.bipush 41, 2) := by decide +kernel
theorem dX12_memoGets_39 : decode cX12_memoGets 39 = .ok (.iconst 2, 1) := by decide +kernel
theorem dX12_memoGets_40 : decode cX12_memoGets 40 = .ok (.aload_n 0, 1) := by decide +kernel
theorem dX12_memoGets_41 : decode cX12_memoGets 41 = .ok (.getfield 9, 3) := by decide +kernel
theorem dX12_memoGets_44 : decode cX12_memoGets 44 = .ok (.bipush 40, 2) := by decide +kernel
theorem dX12_memoGets_46 : decode cX12_memoGets 46 = .ok (.iaload, 1) := by decide +kernel
theorem dX12_memoGets_47 : decode cX12_memoGets 47 = .ok (.imul, 1) := by decide +kernel
theorem dX12_memoGets_48 : decode cX12_memoGets 48 = .ok (.iadd, 1) := by decide +kernel
theorem dX12_memoGets_49 : decode cX12_memoGets 49 = .ok (.iload_n 1, 1) := by decide +kernel
theorem dX12_memoGets_50 : decode cX12_memoGets 50 = .ok (.iastore, 1) := by decide +kernel
theorem dX12_memoGets_51 : decode cX12_memoGets 51 = .ok (.aload_n 0, 1) := by decide +kernel
theorem dX12_memoGets_52 : decode cX12_memoGets 52 = .ok (.getfield 9, 3) := by decide +kernel
theorem dX12_memoGets_55 : decode cX12_memoGets 55 = .ok (.bipush 41, 2) := by decide +kernel
theorem dX12_memoGets_57 : decode cX12_memoGets 57 = .ok (.iconst 2, 1) := by decide +kernel
theorem dX12_memoGets_58 : decode cX12_memoGets 58 = .ok (.aload_n 0, 1) := by decide +kernel
theorem dX12_memoGets_59 : decode cX12_memoGets 59 = .ok (.getfield 9, 3) := by decide +kernel
theorem dX12_memoGets_62 : decode cX12_memoGets 62 = .ok (.bipush 40, 2) := by decide +kernel
theorem dX12_memoGets_64 : decode cX12_memoGets 64 = .ok (.iaload, 1) := by decide +kernel
theorem dX12_memoGets_65 : decode cX12_memoGets 65 = .ok (.imul, 1) := by decide +kernel
theorem dX12_memoGets_66 : decode cX12_memoGets 66 = .ok (.iadd, 1) := by decide +kernel
theorem dX12_memoGets_67 : decode cX12_memoGets 67 = .ok (.iconst 1, 1) := by decide +kernel
theorem dX12_memoGets_68 : decode cX12_memoGets 68 = .ok (.iadd, 1) := by decide +kernel
theorem dX12_memoGets_69 : decode cX12_memoGets 69 = .ok (.iload_n 2, 1) := by decide +kernel
theorem dX12_memoGets_70 : decode cX12_memoGets 70 = .ok (.iastore, 1) := by decide +kernel
theorem dX12_memoGets_71 : decode cX12_memoGets 71 = .ok (.aload_n 0, 1) := by decide +kernel
theorem dX12_memoGets_72 : decode cX12_memoGets 72 = .ok (.getfield 9, 3) := by decide +kernel
theorem dX12_memoGets_75 : decode cX12_memoGets 75 = .ok (.bipush 40, 2) := by decide +kernel
theorem dX12_memoGets_77 : decode cX12_memoGets 77 = .ok (.dup2, 1) := by decide +kernel
theorem dX12_memoGets_78 : decode cX12_memoGets 78 = .ok (.iaload, 1) := by decide +kernel
theorem dX12_memoGets_79 : decode cX12_memoGets 79 = .ok (.iconst 1, 1) := by decide +kernel
theorem dX12_memoGets_80 : decode cX12_memoGets 80 = .ok (.iadd, 1) := by decide +kernel
theorem dX12_memoGets_81 : decode cX12_memoGets 81 = .ok (.iastore, 1) := by decide +kernel
theorem dX12_memoGets_82 : decode cX12_memoGets 82 = .ok (.return_, 1) := by decide +kernel
theorem dX12_isStopped_0 : decode cX12_isStopped 0 = .ok (.aload_n 0, 1) := by decide +kernel
theorem dX12_isStopped_1 : decode cX12_isStopped 1 = .ok (.getfield 92, 3) := by decide +kernel
theorem dX12_isStopped_4 : decode cX12_isStopped 4 = .ok (.ifCond .ne 12, 3) := by decide +kernel
theorem dX12_isStopped_7 : decode cX12_isStopped 7 = .ok (.aload_n 0, 1) := by decide +kernel
theorem dX12_isStopped_8 : decode cX12_isStopped 8 = .ok (.getfield 208, 3) := by decide +kernel
theorem dX12_isStopped_11 : decode cX12_isStopped 11 = .ok (.bipush 100, 2) := by decide +kernel
theorem dX12_isStopped_13 : decode cX12_isStopped 13 = .ok (.if_icmp .le 7, 3) := by decide +kernel
theorem dX12_isStopped_16 : decode cX12_isStopped 16 = .ok (.iconst 1, 1) := by decide +kernel
theorem dX12_isStopped_17 : decode cX12_isStopped 17 = .ok (.goto 4, 3) := by decide +kernel
theorem dX12_isStopped_20 : decode cX12_isStopped 20 = .ok (.iconst 0, 1) := by decide +kernel
theorem dX12_isStopped_21 : decode cX12_isStopped 21 = .ok (.ireturn, 1) := by decide +kernel
theorem dX12_normalOf_0 : decode cX12_normalOf 0 = .ok (.aload_n 0, 1) := by decide +kernel
theorem dX12_normalOf_1 : decode cX12_normalOf 1 = .ok (.invokevirtual 211, 3) := by decide +kernel
theorem dX12_normalOf_4 : decode cX12_normalOf 4 = .ok (.ifCond .ne 11, 3) := by decide +kernel
theorem dX12_normalOf_7 : decode cX12_normalOf 7 = .ok (.aload_n 0, 1) := by decide +kernel
theorem dX12_normalOf_8 : decode cX12_normalOf 8 = .ok (.iload_n 1, 1) := by decide +kernel
theorem dX12_normalOf_9 : decode cX12_normalOf 9 = .ok (.invokevirtual 78, 3) := by decide +kernel
theorem dX12_normalOf_12 : decode cX12_normalOf 12 = .ok (.ifCond .eq 5, 3) := by decide +kernel
theorem dX12_normalOf_15 : decode cX12_normalOf 15 = .ok (.iload_n 1, 1) := by decide +kernel
theorem dX12_normalOf_16 : decode cX12_normalOf 16 = .ok (.ireturn, 1) := by decide +kernel
theorem dX12_normalOf_17 : decode cX12_normalOf 17 = .ok (.aload_n 0, 1) := by decide +kernel
theorem dX12_normalOf_18 : decode cX12_normalOf 18 = .ok (.iload_n 1, 1) := by decide +kernel
theorem dX12_normalOf_19 : decode cX12_normalOf 19 = .ok (.invokevirtual 215, 3) := by decide +kernel
theorem dX12_normalOf_22 : decode cX12_normalOf 22 = .ok (.istore_n 2, 1) := by decide +kernel
theorem dX12_normalOf_23 : decode cX12_normalOf 23 = .ok (.iload_n 2, 1) := by decide +kernel
theorem dX12_normalOf_24 : decode cX12_normalOf 24 = .ok (.iconst (-1), 1) := by decide +kernel
theorem dX12_normalOf_25 : decode cX12_normalOf 25 = .ok (.if_icmp .eq 41, 3) := by decide +kernel
theorem dX12_normalOf_28 : decode cX12_normalOf 28 = .ok (.aload_n 0, 1) := by decide +kernel
theorem dX12_normalOf_29 : decode cX12_normalOf 29 = .ok (.getfield 9, 3) := by decide +kernel
theorem dX12_normalOf_32 : decode cX12_normalOf 32 = .ok (.bipush 41, 2) := by decide +kernel
theorem dX12_normalOf_34 : decode cX12_normalOf 34 = .ok (.iconst 2, 1) := by decide +kernel
theorem dX12_normalOf_35 : decode cX12_normalOf 35 = .ok (.iload_n 2, 1) := by decide +kernel
theorem dX12_normalOf_36 : decode cX12_normalOf 36 = .ok (.imul, 1) := by decide +kernel
theorem dX12_normalOf_37 : decode cX12_normalOf 37 = .ok (.iadd, 1) := by decide +kernel
theorem dX12_normalOf_38 : decode cX12_normalOf 38 = .ok (.iconst 1, 1) := by decide +kernel
theorem dX12_normalOf_39 : decode cX12_normalOf 39 = .ok (.iadd, 1) := by decide +kernel
theorem dX12_normalOf_40 : decode cX12_normalOf 40 = .ok (.iaload, 1) := by decide +kernel
theorem dX12_normalOf_41 : decode cX12_normalOf 41 = .ok (.istore_n 3, 1) := by decide +kernel
theorem dX12_normalOf_42 : decode cX12_normalOf 42 = .ok (.aload_n 0, 1) := by decide +kernel
theorem dX12_normalOf_43 : decode cX12_normalOf 43 = .ok (.iload_n 2, 1) := by decide +kernel
theorem dX12_normalOf_44 : decode cX12_normalOf 44 = .ok (.invokevirtual 204, 3) := by decide +kernel
theorem dX12_normalOf_47 : decode cX12_normalOf 47 = .ok (.aload_n 0, 1) := by decide +kernel
theorem dX12_normalOf_48 : decode cX12_normalOf 48 = .ok (.iload_n 1, 1) := by decide +kernel
theorem dX12_normalOf_49 : decode cX12_normalOf 49 = .ok (.iload_n 3, 1) := by decide +kernel
theorem dX12_normalOf_50 : decode cX12_normalOf 50 = .ok (.invokevirtual 218, 3) := by decide +kernel
theorem dX12_normalOf_53 : decode cX12_normalOf 53 = .ok (.aload_n 0, 1) := by decide +kernel
theorem dX12_normalOf_54 : decode cX12_normalOf 54 = .ok (.getfield 9, 3) := by decide +kernel
theorem dX12_normalOf_57 : decode cX12_normalOf 57 = .ok (.bipush 61, 2) := by decide +kernel
theorem dX12_normalOf_59 : decode cX12_normalOf 59 = .ok (.dup2, 1) := by decide +kernel
theorem dX12_normalOf_60 : decode cX12_normalOf 60 = .ok (.iaload, 1) := by decide +kernel
theorem dX12_normalOf_61 : decode cX12_normalOf 61 = .ok (.iconst 1, 1) := by decide +kernel
theorem dX12_normalOf_62 : decode cX12_normalOf 62 = .ok (.iadd, 1) := by decide +kernel
theorem dX12_normalOf_63 : decode cX12_normalOf 63 = .ok (.iastore, 1) := by decide +kernel
theorem dX12_normalOf_64 : decode cX12_normalOf 64 = .ok (.iload_n 3, 1) := by decide +kernel
theorem dX12_normalOf_65 : decode cX12_normalOf 65 = .ok (.ireturn, 1) := by decide +kernel
theorem dX12_normalOf_66 : decode cX12_normalOf 66 = .ok (.aload_n 0, 1) := by decide +kernel
theorem dX12_normalOf_67 : decode cX12_normalOf 67 = .ok (.iload_n 1, 1) := by decide +kernel
theorem dX12_normalOf_68 : decode cX12_normalOf 68 = .ok (.invokevirtual 111, 3) := by decide +kernel
theorem dX12_normalOf_71 : decode cX12_normalOf 71 = .ok (.istore_n 3, 1) := by decide +kernel
theorem dX12_normalOf_72 : decode cX12_normalOf 72 = .ok (.iload_n 3, 1) := by decide +kernel
theorem dX12_normalOf_73 : decode cX12_normalOf 73 = .ok (.ifCond .le 16, 3) := by decide +kernel
theorem dX12_normalOf_76 : decode cX12_normalOf 76 = .ok (.aload_n 0, 1) := by decide +kernel
theorem dX12_normalOf_77 : decode cX12_normalOf 77 = .ok (.aload_n 0, 1) := by decide +kernel
theorem dX12_normalOf_78 : decode cX12_normalOf 78 = .ok (.iload_n 1, 1) := by decide +kernel
theorem dX12_normalOf_79 : decode cX12_normalOf 79 = .ok (.iconst 0, 1) := by decide +kernel
theorem dX12_normalOf_80 : decode cX12_normalOf 80 = .ok (.invokevirtual 88, 3) := by decide +kernel
theorem dX12_normalOf_83 : decode cX12_normalOf 83 = .ok (.invokevirtual 221, 3) := by decide +kernel
theorem dX12_normalOf_86 : decode cX12_normalOf 86 = .ok (.goto 4, 3) := by decide +kernel
theorem dX12_normalOf_89 : decode cX12_normalOf 89 = .ok (.iconst 0, 1) := by decide +kernel
theorem dX12_normalOf_90 : decode cX12_normalOf 90 = .ok (.istore 4, 2) := by decide +kernel
theorem dX12_normalOf_92 : decode cX12_normalOf 92 = .ok (.iload_n 3, 1) := by decide +kernel
theorem dX12_normalOf_93 : decode cX12_normalOf 93 = .ok (.iconst 1, 1) := by decide +kernel
theorem dX12_normalOf_94 : decode cX12_normalOf 94 = .ok (.if_icmp .le 16, 3) := by decide +kernel
theorem dX12_normalOf_97 : decode cX12_normalOf 97 = .ok (.aload_n 0, 1) := by decide +kernel
theorem dX12_normalOf_98 : decode cX12_normalOf 98 = .ok (.aload_n 0, 1) := by decide +kernel
theorem dX12_normalOf_99 : decode cX12_normalOf 99 = .ok (.iload_n 1, 1) := by decide +kernel
theorem dX12_normalOf_100 : decode cX12_normalOf 100 = .ok (.iconst 1, 1) := by decide +kernel
theorem dX12_normalOf_101 : decode cX12_normalOf 101 = .ok (.invokevirtual 88, 3) := by decide +kernel
theorem dX12_normalOf_104 : decode cX12_normalOf 104 = .ok (.invokevirtual 221, 3) := by decide +kernel
theorem dX12_normalOf_107 : decode cX12_normalOf 107 = .ok (.goto 4, 3) := by decide +kernel
theorem dX12_normalOf_110 : decode cX12_normalOf 110 = .ok (.iconst 0, 1) := by decide +kernel
theorem dX12_normalOf_111 : decode cX12_normalOf 111 = .ok (.istore 5, 2) := by decide +kernel
theorem dX12_normalOf_113 : decode cX12_normalOf 113 = .ok (.iload_n 3, 1) := by decide +kernel
theorem dX12_normalOf_114 : decode cX12_normalOf 114 = .ok (.iconst 2, 1) := by decide +kernel
theorem dX12_normalOf_115 : decode cX12_normalOf 115 = .ok (.if_icmp .le 16, 3) := by decide +kernel
theorem dX12_normalOf_118 : decode cX12_normalOf 118 = .ok (.aload_n 0, 1) := by decide +kernel
theorem dX12_normalOf_119 : decode cX12_normalOf 119 = .ok (.aload_n 0, 1) := by decide +kernel
theorem dX12_normalOf_120 : decode cX12_normalOf 120 = .ok (.iload_n 1, 1) := by decide +kernel
theorem dX12_normalOf_121 : decode cX12_normalOf 121 = .ok (.iconst 2, 1) := by decide +kernel
theorem dX12_normalOf_122 : decode cX12_normalOf 122 = .ok (.invokevirtual 88, 3) := by decide +kernel
theorem dX12_normalOf_125 : decode cX12_normalOf 125 = .ok (.invokevirtual 221, 3) := by decide +kernel
theorem dX12_normalOf_128 : decode cX12_normalOf 128 = .ok (.goto 4, 3) := by decide +kernel
theorem dX12_normalOf_131 : decode cX12_normalOf 131 = .ok (.iconst 0, 1) := by decide +kernel
theorem dX12_normalOf_132 : decode cX12_normalOf 132 = .ok (.istore 6, 2) := by decide +kernel
theorem dX12_normalOf_134 : decode cX12_normalOf 134 = .ok (.aload_n 0, 1) := by decide +kernel
theorem dX12_normalOf_135 : decode cX12_normalOf 135 = .ok (.invokevirtual 211, 3) := by decide +kernel
theorem dX12_normalOf_138 : decode cX12_normalOf 138 = .ok (.ifCond .eq 7, 3) := by decide +kernel
theorem dX12_normalOf_141 : decode cX12_normalOf 141 = .ok (.iconst 0, 1) := by decide +kernel
theorem dX12_normalOf_142 : decode cX12_normalOf 142 = .ok (.goto 14, 3) := by decide +kernel
theorem dX12_normalOf_145 : decode cX12_normalOf 145 = .ok (.aload_n 0, 1) := by decide +kernel
theorem dX12_normalOf_146 : decode cX12_normalOf 146 = .ok (.iload_n 1, 1) := by decide +kernel
theorem dX12_normalOf_147 : decode cX12_normalOf 147 = .ok (.iload 4, 2) := by decide +kernel
theorem dX12_normalOf_149 : decode cX12_normalOf 149 = .ok (.iload 5, 2) := by decide +kernel
theorem dX12_normalOf_151 : decode cX12_normalOf 151 = .ok (.iload 6, 2) := by decide +kernel
theorem dX12_normalOf_153 : decode cX12_normalOf 153 = .ok (.invokevirtual 152, 3) := by decide +kernel
theorem dX12_normalOf_156 : decode cX12_normalOf 156 = .ok (.istore 7, 2) := by decide +kernel
theorem dX12_normalOf_158 : decode cX12_normalOf 158 = .ok (.aload_n 0, 1) := by decide +kernel
theorem dX12_normalOf_159 : decode cX12_normalOf 159 = .ok (.invokevirtual 211, 3) := by decide +kernel
theorem dX12_normalOf_162 : decode cX12_normalOf 162 = .ok (.ifCond .eq 7, 3) := by decide +kernel
theorem dX12_normalOf_165 : decode cX12_normalOf 165 = .ok (.iconst 0, 1) := by decide +kernel
theorem dX12_normalOf_166 : decode cX12_normalOf 166 = .ok (.goto 9, 3) := by decide +kernel
theorem dX12_normalOf_169 : decode cX12_normalOf 169 = .ok (.aload_n 0, 1) := by decide +kernel
theorem dX12_normalOf_170 : decode cX12_normalOf 170 = .ok (.iload 7, 2) := by decide +kernel
theorem dX12_normalOf_172 : decode cX12_normalOf 172 = .ok (.invokevirtual 224, 3) := by decide +kernel
theorem dX12_normalOf_175 : decode cX12_normalOf 175 = .ok (.istore 7, 2) := by decide +kernel
theorem dX12_normalOf_177 : decode cX12_normalOf 177 = .ok (.aload_n 0, 1) := by decide +kernel
theorem dX12_normalOf_178 : decode cX12_normalOf 178 = .ok (.invokevirtual 211, 3) := by decide +kernel
theorem dX12_normalOf_181 : decode cX12_normalOf 181 = .ok (.ifCond .ne 10, 3) := by decide +kernel
theorem dX12_normalOf_184 : decode cX12_normalOf 184 = .ok (.aload_n 0, 1) := by decide +kernel
theorem dX12_normalOf_185 : decode cX12_normalOf 185 = .ok (.iload_n 1, 1) := by decide +kernel
theorem dX12_normalOf_186 : decode cX12_normalOf 186 = .ok (.iload 7, 2) := by decide +kernel
theorem dX12_normalOf_188 : decode cX12_normalOf 188 = .ok (.invokevirtual 218, 3) := by decide +kernel
theorem dX12_normalOf_191 : decode cX12_normalOf 191 = .ok (.iload 7, 2) := by decide +kernel
theorem dX12_normalOf_193 : decode cX12_normalOf 193 = .ok (.ireturn, 1) := by decide +kernel
theorem dX12_lessened_0 : decode cX12_lessened 0 = .ok (.iconst 0, 1) := by decide +kernel
theorem dX12_lessened_1 : decode cX12_lessened 1 = .ok (.istore_n 2, 1) := by decide +kernel
theorem dX12_lessened_2 : decode cX12_lessened 2 = .ok (.iload_n 2, 1) := by decide +kernel
theorem dX12_lessened_3 : decode cX12_lessened 3 = .ok (.aload_n 0, 1) := by decide +kernel
theorem dX12_lessened_4 : decode cX12_lessened 4 = .ok (.getfield 9, 3) := by decide +kernel
theorem dX12_lessened_7 : decode cX12_lessened 7 = .ok (.bipush 9, 2) := by decide +kernel
theorem dX12_lessened_9 : decode cX12_lessened 9 = .ok (.iaload, 1) := by decide +kernel
theorem dX12_lessened_10 : decode cX12_lessened 10 = .ok (.if_icmp .ge 102, 3) := by decide +kernel
theorem dX12_lessened_13 : decode cX12_lessened 13 = .ok (.aload_n 0, 1) := by decide +kernel
theorem dX12_lessened_14 : decode cX12_lessened 14 = .ok (.aload_n 0, 1) := by decide +kernel
theorem dX12_lessened_15 : decode cX12_lessened 15 = .ok (.getfield 9, 3) := by decide +kernel
theorem dX12_lessened_18 : decode cX12_lessened 18 = .ok (.bipush 10, 2) := by decide +kernel
theorem dX12_lessened_20 : decode cX12_lessened 20 = .ok (.iconst 2, 1) := by decide +kernel
theorem dX12_lessened_21 : decode cX12_lessened 21 = .ok (.iload_n 2, 1) := by decide +kernel
theorem dX12_lessened_22 : decode cX12_lessened 22 = .ok (.imul, 1) := by decide +kernel
theorem dX12_lessened_23 : decode cX12_lessened 23 = .ok (.iadd, 1) := by decide +kernel
theorem dX12_lessened_24 : decode cX12_lessened 24 = .ok (.iaload, 1) := by decide +kernel
theorem dX12_lessened_25 : decode cX12_lessened 25 = .ok (.iload_n 1, 1) := by decide +kernel
theorem dX12_lessened_26 : decode cX12_lessened 26 = .ok (.invokevirtual 227, 3) := by decide +kernel
theorem dX12_lessened_29 : decode cX12_lessened 29 = .ok (.ifCond .ne 6, 3) := by decide +kernel
theorem dX12_lessened_32 : decode cX12_lessened 32 = .ok (.goto 74, 3) := by decide +kernel
theorem dX12_lessened_35 : decode cX12_lessened 35 = .ok (.aload_n 0, 1) := by decide +kernel
theorem dX12_lessened_36 : decode cX12_lessened 36 = .ok (.dup, 1) := by decide +kernel
theorem dX12_lessened_37 : decode cX12_lessened 37 = .ok (.getfield 208, 3) := by decide +kernel
theorem dX12_lessened_40 : decode cX12_lessened 40 = .ok (.iconst 1, 1) := by decide +kernel
theorem dX12_lessened_41 : decode cX12_lessened 41 = .ok (.iadd, 1) := by decide +kernel
theorem dX12_lessened_42 : decode cX12_lessened 42 = .ok (.putfield 208, 3) := by decide +kernel
theorem dX12_lessened_45 : decode cX12_lessened 45 = .ok (.aload_n 0, 1) := by decide +kernel
theorem dX12_lessened_46 : decode cX12_lessened 46 = .ok (.getfield 9, 3) := by decide +kernel
theorem dX12_lessened_49 : decode cX12_lessened 49 = .ok (.bipush 62, 2) := by decide +kernel
theorem dX12_lessened_51 : decode cX12_lessened 51 = .ok (.dup2, 1) := by decide +kernel
theorem dX12_lessened_52 : decode cX12_lessened 52 = .ok (.iaload, 1) := by decide +kernel
theorem dX12_lessened_53 : decode cX12_lessened 53 = .ok (.iconst 1, 1) := by decide +kernel
theorem dX12_lessened_54 : decode cX12_lessened 54 = .ok (.iadd, 1) := by decide +kernel
theorem dX12_lessened_55 : decode cX12_lessened 55 = .ok (.iastore, 1) := by decide +kernel
theorem dX12_lessened_56 : decode cX12_lessened 56 = .ok (.aload_n 0, 1) := by decide +kernel
theorem dX12_lessened_57 : decode cX12_lessened 57 = .ok (.getfield 208, 3) := by decide +kernel
theorem dX12_lessened_60 : decode cX12_lessened 60 = .ok (.bipush 100, 2) := by decide +kernel
theorem dX12_lessened_62 : decode cX12_lessened 62 = .ok (.if_icmp .le 5, 3) := by decide +kernel
theorem dX12_lessened_65 : decode cX12_lessened 65 = .ok (.iconst 0, 1) := by decide +kernel
theorem dX12_lessened_66 : decode cX12_lessened 66 = .ok (.ireturn, 1) := by decide +kernel
theorem dX12_lessened_67 : decode cX12_lessened 67 = .ok (.aload_n 0, 1) := by decide +kernel
theorem dX12_lessened_68 : decode cX12_lessened 68 = .ok (.aload_n 0, 1) := by decide +kernel
theorem dX12_lessened_69 : decode cX12_lessened 69 = .ok (.getfield 9, 3) := by decide +kernel
theorem dX12_lessened_72 : decode cX12_lessened 72 = .ok (.bipush 10, 2) := by decide +kernel
theorem dX12_lessened_74 : decode cX12_lessened 74 = .ok (.iconst 2, 1) := by decide +kernel
theorem dX12_lessened_75 : decode cX12_lessened 75 = .ok (.iload_n 2, 1) := by decide +kernel
theorem dX12_lessened_76 : decode cX12_lessened 76 = .ok (.imul, 1) := by decide +kernel
theorem dX12_lessened_77 : decode cX12_lessened 77 = .ok (.iadd, 1) := by decide +kernel
theorem dX12_lessened_78 : decode cX12_lessened 78 = .ok (.iconst 1, 1) := by decide +kernel
theorem dX12_lessened_79 : decode cX12_lessened 79 = .ok (.iadd, 1) := by decide +kernel
theorem dX12_lessened_80 : decode cX12_lessened 80 = .ok (.iaload, 1) := by decide +kernel
theorem dX12_lessened_81 : decode cX12_lessened 81 = .ok (.aload_n 0, 1) := by decide +kernel
theorem dX12_lessened_82 : decode cX12_lessened 82 = .ok (.getfield 41, 3) := by decide +kernel
theorem dX12_lessened_85 : decode cX12_lessened 85 = .ok (.invokevirtual 148, 3) := by decide +kernel
theorem dX12_lessened_88 : decode cX12_lessened 88 = .ok (.istore_n 3, 1) := by decide +kernel
theorem dX12_lessened_89 : decode cX12_lessened 89 = .ok (.aload_n 0, 1) := by decide +kernel
theorem dX12_lessened_90 : decode cX12_lessened 90 = .ok (.getfield 92, 3) := by decide +kernel
theorem dX12_lessened_93 : decode cX12_lessened 93 = .ok (.ifCond .eq 7, 3) := by decide +kernel
theorem dX12_lessened_96 : decode cX12_lessened 96 = .ok (.iconst 0, 1) := by decide +kernel
theorem dX12_lessened_97 : decode cX12_lessened 97 = .ok (.goto 8, 3) := by decide +kernel
theorem dX12_lessened_100 : decode cX12_lessened 100 = .ok (.aload_n 0, 1) := by decide +kernel
theorem dX12_lessened_101 : decode cX12_lessened 101 = .ok (.iload_n 3, 1) := by decide +kernel
theorem dX12_lessened_102 : decode cX12_lessened 102 = .ok (.invokevirtual 221, 3) := by decide +kernel
theorem dX12_lessened_105 : decode cX12_lessened 105 = .ok (.ireturn, 1) := by decide +kernel
theorem dX12_lessened_106 : decode cX12_lessened 106 = .ok (.iinc 2 1, 3) := by decide +kernel
theorem dX12_lessened_109 : decode cX12_lessened 109 = .ok (.goto (-107), 3) := by decide +kernel
theorem dX12_lessened_112 : decode cX12_lessened 112 = .ok (.iload_n 1, 1) := by decide +kernel
theorem dX12_lessened_113 : decode cX12_lessened 113 = .ok (.ireturn, 1) := by decide +kernel
theorem dX12_isSettled_0 : decode cX12_isSettled 0 = .ok (.iconst 0, 1) := by decide +kernel
theorem dX12_isSettled_1 : decode cX12_isSettled 1 = .ok (.istore_n 2, 1) := by decide +kernel
theorem dX12_isSettled_2 : decode cX12_isSettled 2 = .ok (.iload_n 2, 1) := by decide +kernel
theorem dX12_isSettled_3 : decode cX12_isSettled 3 = .ok (.aload_n 0, 1) := by decide +kernel
theorem dX12_isSettled_4 : decode cX12_isSettled 4 = .ok (.getfield 9, 3) := by decide +kernel
theorem dX12_isSettled_7 : decode cX12_isSettled 7 = .ok (.bipush 9, 2) := by decide +kernel
theorem dX12_isSettled_9 : decode cX12_isSettled 9 = .ok (.iaload, 1) := by decide +kernel
theorem dX12_isSettled_10 : decode cX12_isSettled 10 = .ok (.if_icmp .ge 30, 3) := by decide +kernel
theorem dX12_isSettled_13 : decode cX12_isSettled 13 = .ok (.aload_n 0, 1) := by decide +kernel
theorem dX12_isSettled_14 : decode cX12_isSettled 14 = .ok (.aload_n 0, 1) := by decide +kernel
theorem dX12_isSettled_15 : decode cX12_isSettled 15 = .ok (.getfield 9, 3) := by decide +kernel
theorem dX12_isSettled_18 : decode cX12_isSettled 18 = .ok (.bipush 10, 2) := by decide +kernel
theorem dX12_isSettled_20 : decode cX12_isSettled 20 = .ok (.iconst 2, 1) := by decide +kernel
theorem dX12_isSettled_21 : decode cX12_isSettled 21 = .ok (.iload_n 2, 1) := by decide +kernel
theorem dX12_isSettled_22 : decode cX12_isSettled 22 = .ok (.imul, 1) := by decide +kernel
theorem dX12_isSettled_23 : decode cX12_isSettled 23 = .ok (.iadd, 1) := by decide +kernel
theorem dX12_isSettled_24 : decode cX12_isSettled 24 = .ok (.iaload, 1) := by decide +kernel
theorem dX12_isSettled_25 : decode cX12_isSettled 25 = .ok (.iload_n 1, 1) := by decide +kernel
theorem dX12_isSettled_26 : decode cX12_isSettled 26 = .ok (.invokevirtual 227, 3) := by decide +kernel
theorem dX12_isSettled_29 : decode cX12_isSettled 29 = .ok (.ifCond .eq 5, 3) := by decide +kernel
theorem dX12_isSettled_32 : decode cX12_isSettled 32 = .ok (.iconst 0, 1) := by decide +kernel
theorem dX12_isSettled_33 : decode cX12_isSettled 33 = .ok (.ireturn, 1) := by decide +kernel
theorem dX12_isSettled_34 : decode cX12_isSettled 34 = .ok (.iinc 2 1, 3) := by decide +kernel
theorem dX12_isSettled_37 : decode cX12_isSettled 37 = .ok (.goto (-35), 3) := by decide +kernel
theorem dX12_isSettled_40 : decode cX12_isSettled 40 = .ok (.iconst 0, 1) := by decide +kernel
theorem dX12_isSettled_41 : decode cX12_isSettled 41 = .ok (.istore_n 2, 1) := by decide +kernel
theorem dX12_isSettled_42 : decode cX12_isSettled 42 = .ok (.iload_n 2, 1) := by decide +kernel
theorem dX12_isSettled_43 : decode cX12_isSettled 43 = .ok (.aload_n 0, 1) := by decide +kernel
theorem dX12_isSettled_44 : decode cX12_isSettled 44 = .ok (.iload_n 1, 1) := by decide +kernel
theorem dX12_isSettled_45 : decode cX12_isSettled 45 = .ok (.invokevirtual 111, 3) := by decide +kernel
theorem dX12_isSettled_48 : decode cX12_isSettled 48 = .ok (.if_icmp .ge 24, 3) := by decide +kernel
theorem dX12_isSettled_51 : decode cX12_isSettled 51 = .ok (.aload_n 0, 1) := by decide +kernel
theorem dX12_isSettled_52 : decode cX12_isSettled 52 = .ok (.aload_n 0, 1) := by decide +kernel
theorem dX12_isSettled_53 : decode cX12_isSettled 53 = .ok (.iload_n 1, 1) := by decide +kernel
theorem dX12_isSettled_54 : decode cX12_isSettled 54 = .ok (.iload_n 2, 1) := by decide +kernel
theorem dX12_isSettled_55 : decode cX12_isSettled 55 = .ok (.invokevirtual 88, 3) := by decide +kernel
theorem dX12_isSettled_58 : decode cX12_isSettled 58 = .ok (.invokevirtual 230, 3) := by decide +kernel
theorem dX12_isSettled_61 : decode cX12_isSettled 61 = .ok (.ifCond .ne 5, 3) := by decide +kernel
theorem dX12_isSettled_64 : decode cX12_isSettled 64 = .ok (.iconst 0, 1) := by decide +kernel
theorem dX12_isSettled_65 : decode cX12_isSettled 65 = .ok (.ireturn, 1) := by decide +kernel
theorem dX12_isSettled_66 : decode cX12_isSettled 66 = .ok (.iinc 2 1, 3) := by decide +kernel
theorem dX12_isSettled_69 : decode cX12_isSettled 69 = .ok (.goto (-27), 3) := by decide +kernel
theorem dX12_isSettled_72 : decode cX12_isSettled 72 = .ok (.iconst 1, 1) := by decide +kernel
theorem dX12_isSettled_73 : decode cX12_isSettled 73 = .ok (.ireturn, 1) := by decide +kernel
theorem dX12_isLetter_0 : decode cX12_isLetter 0 = .ok (.iload_n 0, 1) := by decide +kernel
theorem dX12_isLetter_1 : decode cX12_isLetter 1 = .ok (.bipush 97, 2) := by decide +kernel
theorem dX12_isLetter_3 : decode cX12_isLetter 3 = .ok (.if_icmp .lt 13, 3) := by decide +kernel
theorem dX12_isLetter_6 : decode cX12_isLetter 6 = .ok (.iload_n 0, 1) := by decide +kernel
theorem dX12_isLetter_7 : decode cX12_isLetter 7 = .ok (.bipush 122, 2) := by decide +kernel
theorem dX12_isLetter_9 : decode cX12_isLetter 9 = .ok (.if_icmp .gt 7, 3) := by decide +kernel
theorem dX12_isLetter_12 : decode cX12_isLetter 12 = .ok (.iconst 1, 1) := by decide +kernel
theorem dX12_isLetter_13 : decode cX12_isLetter 13 = .ok (.goto 4, 3) := by decide +kernel
theorem dX12_isLetter_16 : decode cX12_isLetter 16 = .ok (.iconst 0, 1) := by decide +kernel
theorem dX12_isLetter_17 : decode cX12_isLetter 17 = .ok (.ireturn, 1) := by decide +kernel
theorem dX12_byteAt_0 : decode cX12_byteAt 0 = .ok (.iload_n 1, 1) := by decide +kernel
theorem dX12_byteAt_1 : decode cX12_byteAt 1 = .ok (.aload_n 0, 1) := by decide +kernel
theorem dX12_byteAt_2 : decode cX12_byteAt 2 = .ok (.getfield 233, 3) := by decide +kernel
theorem dX12_byteAt_5 : decode cX12_byteAt 5 = .ok (.if_icmp .ge 12, 3) := by decide +kernel
theorem dX12_byteAt_8 : decode cX12_byteAt 8 = .ok (.aload_n 0, 1) := by decide +kernel
theorem dX12_byteAt_9 : decode cX12_byteAt 9 = .ok (.getfield 34, 3) := by decide +kernel
theorem dX12_byteAt_12 : decode cX12_byteAt 12 = .ok (.iload_n 1, 1) := by decide +kernel
theorem dX12_byteAt_13 : decode cX12_byteAt 13 = .ok (.iaload, 1) := by decide +kernel
theorem dX12_byteAt_14 : decode cX12_byteAt 14 = .ok (.goto 4, 3) := by decide +kernel
theorem dX12_byteAt_17 : decode cX12_byteAt 17 = .ok (.iconst 0, 1) := by decide +kernel
theorem dX12_byteAt_18 : decode cX12_byteAt 18 = .ok (.ireturn, 1) := by decide +kernel
theorem dX12_wordFrom_0 : decode cX12_wordFrom 0 = .ok (.iconst 0, 1) := by decide +kernel
theorem dX12_wordFrom_1 : decode cX12_wordFrom 1 = .ok (.istore_n 3, 1) := by decide +kernel
theorem dX12_wordFrom_2 : decode cX12_wordFrom 2 = .ok (.iload_n 1, 1) := by decide +kernel
theorem dX12_wordFrom_3 : decode cX12_wordFrom 3 = .ok (.istore 4, 2) := by decide +kernel
theorem dX12_wordFrom_5 : decode cX12_wordFrom 5 = .ok (.iconst 1, 1) := by decide +kernel
theorem dX12_wordFrom_6 : decode cX12_wordFrom 6 = .ok (.istore 5, 2) := by decide +kernel
theorem dX12_wordFrom_8 : decode cX12_wordFrom 8 = .ok (.iconst 0, 1) := by decide +kernel
theorem dX12_wordFrom_9 : decode cX12_wordFrom 9 = .ok (.istore 6, 2) := by decide +kernel
theorem dX12_wordFrom_11 : decode cX12_wordFrom 11 = .ok (.iload 6, 2) := by decide +kernel
theorem dX12_wordFrom_13 : decode cX12_wordFrom 13 = .ok (.getstatic 236, 3) := by decide +kernel
theorem dX12_wordFrom_16 : decode cX12_wordFrom 16 = .ok (.arraylength, 1) := by decide +kernel
theorem dX12_wordFrom_17 : decode cX12_wordFrom 17 = .ok (.if_icmp .ge 81, 3) := by decide +kernel
theorem dX12_wordFrom_20 : decode cX12_wordFrom 20 = .ok (.getstatic 236, 3) := by decide +kernel
theorem dX12_wordFrom_23 : decode cX12_wordFrom 23 = .ok (.iload 6, 2) := by decide +kernel
theorem dX12_wordFrom_25 : decode cX12_wordFrom 25 = .ok (.baload, 1) := by decide +kernel
theorem dX12_wordFrom_26 : decode cX12_wordFrom 26 = .ok (.bipush 32, 2) := by decide +kernel
theorem dX12_wordFrom_28 : decode cX12_wordFrom 28 = .ok (.if_icmp .ne 28, 3) := by decide +kernel
theorem dX12_wordFrom_31 : decode cX12_wordFrom 31 = .ok (.iload 5, 2) := by decide +kernel
theorem dX12_wordFrom_33 : decode cX12_wordFrom 33 = .ok (.ifCond .eq 11, 3) := by decide +kernel
theorem dX12_wordFrom_36 : decode cX12_wordFrom 36 = .ok (.iload 4, 2) := by decide +kernel
theorem dX12_wordFrom_38 : decode cX12_wordFrom 38 = .ok (.iload_n 2, 1) := by decide +kernel
theorem dX12_wordFrom_39 : decode cX12_wordFrom 39 = .ok (.if_icmp .ne 5, 3) := by decide +kernel
theorem dX12_wordFrom_42 : decode cX12_wordFrom 42 = .ok (.iload_n 3, 1) := by decide +kernel
theorem dX12_wordFrom_43 : decode cX12_wordFrom 43 = .ok (.ireturn, 1) := by decide +kernel
theorem dX12_wordFrom_44 : decode cX12_wordFrom 44 = .ok (.iinc 3 1, 3) := by decide +kernel
theorem dX12_wordFrom_47 : decode cX12_wordFrom 47 = .ok (.iload_n 1, 1) := by decide +kernel
theorem dX12_wordFrom_48 : decode cX12_wordFrom 48 = .ok (.istore 4, 2) := by decide +kernel
theorem dX12_wordFrom_50 : decode cX12_wordFrom 50 = .ok (.iconst 1, 1) := by decide +kernel
theorem dX12_wordFrom_51 : decode cX12_wordFrom 51 = .ok (.istore 5, 2) := by decide +kernel
theorem dX12_wordFrom_53 : decode cX12_wordFrom 53 = .ok (.goto 39, 3) := by decide +kernel
theorem dX12_wordFrom_56 : decode cX12_wordFrom 56 = .ok (.iload 5, 2) := by decide +kernel
theorem dX12_wordFrom_58 : decode cX12_wordFrom 58 = .ok (.ifCond .eq 28, 3) := by decide +kernel
theorem dX12_wordFrom_61 : decode cX12_wordFrom 61 = .ok (.iload 4, 2) := by decide +kernel
theorem dX12_wordFrom_63 : decode cX12_wordFrom 63 = .ok (.iload_n 2, 1) := by decide +kernel
theorem dX12_wordFrom_64 : decode cX12_wordFrom 64 = .ok (.if_icmp .ge 22, 3) := by decide +kernel
theorem dX12_wordFrom_67 : decode cX12_wordFrom 67 = .ok (.aload_n 0, 1) := by decide +kernel
theorem dX12_wordFrom_68 : decode cX12_wordFrom 68 = .ok (.iload 4, 2) := by decide +kernel
theorem dX12_wordFrom_70 : decode cX12_wordFrom 70 = .ok (.invokevirtual 240, 3) := by decide +kernel
theorem dX12_wordFrom_73 : decode cX12_wordFrom 73 = .ok (.getstatic 236, 3) := by decide +kernel
theorem dX12_wordFrom_76 : decode cX12_wordFrom 76 = .ok (.iload 6, 2) := by decide +kernel
theorem dX12_wordFrom_78 : decode cX12_wordFrom 78 = .ok (.baload, 1) := by decide +kernel
theorem dX12_wordFrom_79 : decode cX12_wordFrom 79 = .ok (.if_icmp .ne 7, 3) := by decide +kernel
theorem dX12_wordFrom_82 : decode cX12_wordFrom 82 = .ok (.iconst 1, 1) := by decide +kernel
theorem dX12_wordFrom_83 : decode cX12_wordFrom 83 = .ok (.goto 4, 3) := by decide +kernel
theorem dX12_wordFrom_86 : decode cX12_wordFrom 86 = .ok (.iconst 0, 1) := by decide +kernel
theorem dX12_wordFrom_87 : decode cX12_wordFrom 87 = .ok (.istore 5, 2) := by decide +kernel
theorem dX12_wordFrom_89 : decode cX12_wordFrom 89 = .ok (.iinc 4 1, 3) := by decide +kernel
theorem dX12_wordFrom_92 : decode cX12_wordFrom 92 = .ok (.iinc 6 1, 3) := by decide +kernel
theorem dX12_wordFrom_95 : decode cX12_wordFrom 95 = .ok (.goto (-84), 3) := by decide +kernel
theorem dX12_wordFrom_98 : decode cX12_wordFrom 98 = .ok (.iconst (-1), 1) := by decide +kernel
theorem dX12_wordFrom_99 : decode cX12_wordFrom 99 = .ok (.ireturn, 1) := by decide +kernel
theorem dX12_isSignByte_0 : decode cX12_isSignByte 0 = .ok (.iload_n 1, 1) := by decide +kernel
theorem dX12_isSignByte_1 : decode cX12_isSignByte 1 = .ok (.bipush 63, 2) := by decide +kernel
theorem dX12_isSignByte_3 : decode cX12_isSignByte 3 = .ok (.if_icmp .eq 27, 3) := by decide +kernel
theorem dX12_isSignByte_6 : decode cX12_isSignByte 6 = .ok (.iload_n 1, 1) := by decide +kernel
theorem dX12_isSignByte_7 : decode cX12_isSignByte 7 = .ok (.bipush 40, 2) := by decide +kernel
theorem dX12_isSignByte_9 : decode cX12_isSignByte 9 = .ok (.if_icmp .eq 21, 3) := by decide +kernel
theorem dX12_isSignByte_12 : decode cX12_isSignByte 12 = .ok (.iload_n 1, 1) := by decide +kernel
theorem dX12_isSignByte_13 : decode cX12_isSignByte 13 = .ok (.bipush 41, 2) := by decide +kernel
theorem dX12_isSignByte_15 : decode cX12_isSignByte 15 = .ok (.if_icmp .eq 15, 3) := by decide +kernel
theorem dX12_isSignByte_18 : decode cX12_isSignByte 18 = .ok (.iload_n 1, 1) := by decide +kernel
theorem dX12_isSignByte_19 : decode cX12_isSignByte 19 = .ok (.bipush 44, 2) := by decide +kernel
theorem dX12_isSignByte_21 : decode cX12_isSignByte 21 = .ok (.if_icmp .eq 9, 3) := by decide +kernel
theorem dX12_isSignByte_24 : decode cX12_isSignByte 24 = .ok (.iload_n 1, 1) := by decide +kernel
theorem dX12_isSignByte_25 : decode cX12_isSignByte 25 = .ok (.bipush 59, 2) := by decide +kernel
theorem dX12_isSignByte_27 : decode cX12_isSignByte 27 = .ok (.if_icmp .ne 7, 3) := by decide +kernel
theorem dX12_isSignByte_30 : decode cX12_isSignByte 30 = .ok (.iconst 1, 1) := by decide +kernel
theorem dX12_isSignByte_31 : decode cX12_isSignByte 31 = .ok (.goto 4, 3) := by decide +kernel
theorem dX12_isSignByte_34 : decode cX12_isSignByte 34 = .ok (.iconst 0, 1) := by decide +kernel
theorem dX12_isSignByte_35 : decode cX12_isSignByte 35 = .ok (.ireturn, 1) := by decide +kernel
theorem dX12_go_0 : decode cX12_go 0 = .ok (.aload_n 0, 1) := by decide +kernel
theorem dX12_go_1 : decode cX12_go 1 = .ok (.getfield 243, 3) := by decide +kernel
theorem dX12_go_4 : decode cX12_go 4 = .ok (.aload_n 0, 1) := by decide +kernel
theorem dX12_go_5 : decode cX12_go 5 = .ok (.getfield 233, 3) := by decide +kernel
theorem dX12_go_8 : decode cX12_go 8 = .ok (.if_icmp .ge 42, 3) := by decide +kernel
theorem dX12_go_11 : decode cX12_go 11 = .ok (.aload_n 0, 1) := by decide +kernel
theorem dX12_go_12 : decode cX12_go 12 = .ok (.aload_n 0, 1) := by decide +kernel
theorem dX12_go_13 : decode cX12_go 13 = .ok (.getfield 243, 3) := by decide +kernel
theorem dX12_go_16 : decode cX12_go 16 = .ok (.invokevirtual 240, 3) := by decide +kernel
theorem dX12_go_19 : decode cX12_go 19 = .ok (.bipush 32, 2) := by decide +kernel
theorem dX12_go_21 : decode cX12_go 21 = .ok (.if_icmp .eq 16, 3) := by decide +kernel
theorem dX12_go_24 : decode cX12_go 24 = .ok (.aload_n 0, 1) := by decide +kernel
theorem dX12_go_25 : decode cX12_go 25 = .ok (.aload_n 0, 1) := by decide +kernel
theorem dX12_go_26 : decode cX12_go 26 = .ok (.getfield 243, 3) := by decide +kernel
theorem dX12_go_29 : decode cX12_go 29 = .ok (.invokevirtual 240, 3) := by decide +kernel
theorem dX12_go_32 : decode cX12_go 32 = .ok (.bipush 10, 2) := by decide +kernel
theorem dX12_go_34 : decode cX12_go 34 = .ok (.if_icmp .ne 16, 3) := by decide +kernel
theorem dX12_go_37 : decode cX12_go 37 = .ok (.aload_n 0, 1) := by decide +kernel
theorem dX12_go_38 : decode cX12_go 38 = .ok (.dup, 1) := by decide +kernel
theorem dX12_go_39 : decode cX12_go 39 = .ok (.getfield 243, 3) := by decide +kernel
theorem dX12_go_42 : decode cX12_go 42 = .ok (.iconst 1, 1) := by decide +kernel
theorem dX12_go_43 : decode cX12_go 43 = .ok (.iadd, 1) := by decide +kernel
theorem dX12_go_44 : decode cX12_go 44 = .ok (.putfield 243, 3) := by decide +kernel
theorem dX12_go_47 : decode cX12_go 47 = .ok (.goto (-47), 3) := by decide +kernel
theorem dX12_go_50 : decode cX12_go 50 = .ok (.aload_n 0, 1) := by decide +kernel
theorem dX12_go_51 : decode cX12_go 51 = .ok (.aload_n 0, 1) := by decide +kernel
theorem dX12_go_52 : decode cX12_go 52 = .ok (.getfield 243, 3) := by decide +kernel
theorem dX12_go_55 : decode cX12_go 55 = .ok (.putfield 246, 3) := by decide +kernel
theorem dX12_go_58 : decode cX12_go 58 = .ok (.aload_n 0, 1) := by decide +kernel
theorem dX12_go_59 : decode cX12_go 59 = .ok (.aload_n 0, 1) := by decide +kernel
theorem dX12_go_60 : decode cX12_go 60 = .ok (.getfield 243, 3) := by decide +kernel
theorem dX12_go_63 : decode cX12_go 63 = .ok (.invokevirtual 240, 3) := by decide +kernel
theorem dX12_go_66 : decode cX12_go 66 = .ok (.istore_n 1, 1) := by decide +kernel
theorem dX12_go_67 : decode cX12_go 67 = .ok (.aload_n 0, 1) := by decide +kernel
theorem dX12_go_68 : decode cX12_go 68 = .ok (.iconst (-1), 1) := by decide +kernel
theorem dX12_go_69 : decode cX12_go 69 = .ok (.putfield 249, 3) := by decide +kernel
theorem dX12_go_72 : decode cX12_go 72 = .ok (.aload_n 0, 1) := by decide +kernel
theorem dX12_go_73 : decode cX12_go 73 = .ok (.iconst 0, 1) := by decide +kernel
theorem dX12_go_74 : decode cX12_go 74 = .ok (.putfield 252, 3) := by decide +kernel
theorem dX12_go_77 : decode cX12_go 77 = .ok (.aload_n 0, 1) := by decide +kernel
theorem dX12_go_78 : decode cX12_go 78 = .ok (.iconst 0, 1) := by decide +kernel
theorem dX12_go_79 : decode cX12_go 79 = .ok (.putfield 255, 3) := by decide +kernel
theorem dX12_go_82 : decode cX12_go 82 = .ok (.aload_n 0, 1) := by decide +kernel
theorem dX12_go_83 : decode cX12_go 83 = .ok (.iconst 0, 1) := by decide +kernel
theorem dX12_go_84 : decode cX12_go 84 = .ok (.putfield 258, 3) := by decide +kernel
theorem dX12_go_87 : decode cX12_go 87 = .ok (.aload_n 0, 1) := by decide +kernel
theorem dX12_go_88 : decode cX12_go 88 = .ok (.getfield 243, 3) := by decide +kernel
theorem dX12_go_91 : decode cX12_go 91 = .ok (.aload_n 0, 1) := by decide +kernel
theorem dX12_go_92 : decode cX12_go 92 = .ok (.getfield 233, 3) := by decide +kernel
theorem dX12_go_95 : decode cX12_go 95 = .ok (.if_icmp .lt 11, 3) := by decide +kernel
theorem dX12_go_98 : decode cX12_go 98 = .ok (.aload_n 0, 1) := by decide +kernel
theorem dX12_go_99 : decode cX12_go 99 = .ok (.iconst 0, 1) := by decide +kernel
theorem dX12_go_100 : decode cX12_go 100 = .ok (.putfield 261, 3) := by decide +kernel
theorem dX12_go_103 : decode cX12_go 103 = .ok (.goto 209, 3) := by decide +kernel
theorem dX12_go_106 : decode cX12_go 106 = .ok (.iload_n 1, 1) := by decide +kernel
theorem dX12_go_107 : decode cX12_go 107 = .ok (.invokestatic 264, 3) := by decide +kernel
theorem dX12_go_110 : decode cX12_go 110 = .ok (.ifCond .eq 67, 3) := by decide +kernel
theorem dX12_go_113 : decode cX12_go 113 = .ok (.aload_n 0, 1) := by decide +kernel
theorem dX12_go_114 : decode cX12_go 114 = .ok (.aload_n 0, 1) := by decide +kernel
theorem dX12_go_115 : decode cX12_go 115 = .ok (.getfield 243, 3) := by decide +kernel
theorem dX12_go_118 : decode cX12_go 118 = .ok (.invokevirtual 240, 3) := by decide +kernel
theorem dX12_go_121 : decode cX12_go 121 = .ok (.invokestatic 264, 3) := by decide +kernel
theorem dX12_go_124 : decode cX12_go 124 = .ok (.ifCond .eq 16, 3) := by decide +kernel
theorem dX12_go_127 : decode cX12_go 127 = .ok (.aload_n 0, 1) := by decide +kernel
theorem dX12_go_128 : decode cX12_go 128 = .ok (.dup, 1) := by decide +kernel
theorem dX12_go_129 : decode cX12_go 129 = .ok (.getfield 243, 3) := by decide +kernel
theorem dX12_go_132 : decode cX12_go 132 = .ok (.iconst 1, 1) := by decide +kernel
theorem dX12_go_133 : decode cX12_go 133 = .ok (.iadd, 1) := by decide +kernel
theorem dX12_go_134 : decode cX12_go 134 = .ok (.putfield 243, 3) := by decide +kernel
theorem dX12_go_137 : decode cX12_go 137 = .ok (.goto (-24), 3) := by decide +kernel
theorem dX12_go_140 : decode cX12_go 140 = .ok (.aload_n 0, 1) := by decide +kernel
theorem dX12_go_141 : decode cX12_go 141 = .ok (.iconst 1, 1) := by decide +kernel
theorem dX12_go_142 : decode cX12_go 142 = .ok (.putfield 261, 3) := by decide +kernel
theorem dX12_go_145 : decode cX12_go 145 = .ok (.aload_n 0, 1) := by decide +kernel
theorem dX12_go_146 : decode cX12_go 146 = .ok (.aload_n 0, 1) := by decide +kernel
theorem dX12_go_147 : decode cX12_go 147 = .ok (.getfield 243, 3) := by decide +kernel
theorem dX12_go_150 : decode cX12_go 150 = .ok (.aload_n 0, 1) := by decide +kernel
theorem dX12_go_151 : decode cX12_go 151 = .ok (.getfield 246, 3) := by decide +kernel
theorem dX12_go_154 : decode cX12_go 154 = .ok (.isub, 1) := by decide +kernel
theorem dX12_go_155 : decode cX12_go 155 = .ok (.putfield 252, 3) := by decide +kernel
theorem dX12_go_158 : decode cX12_go 158 = .ok (.aload_n 0, 1) := by decide +kernel
theorem dX12_go_159 : decode cX12_go 159 = .ok (.aload_n 0, 1) := by decide +kernel
theorem dX12_go_160 : decode cX12_go 160 = .ok (.aload_n 0, 1) := by decide +kernel
theorem dX12_go_161 : decode cX12_go 161 = .ok (.getfield 246, 3) := by decide +kernel
theorem dX12_go_164 : decode cX12_go 164 = .ok (.aload_n 0, 1) := by decide +kernel
theorem dX12_go_165 : decode cX12_go 165 = .ok (.getfield 243, 3) := by decide +kernel
theorem dX12_go_168 : decode cX12_go 168 = .ok (.invokevirtual 267, 3) := by decide +kernel
theorem dX12_go_171 : decode cX12_go 171 = .ok (.putfield 249, 3) := by decide +kernel
theorem dX12_go_174 : decode cX12_go 174 = .ok (.goto 138, 3) := by decide +kernel
theorem dX12_go_177 : decode cX12_go 177 = .ok (.iload_n 1, 1) := by decide +kernel
theorem dX12_go_178 : decode cX12_go 178 = .ok (.bipush 48, 2) := by decide +kernel
theorem dX12_go_180 : decode cX12_go 180 = .ok (.if_icmp .lt 88, 3) := by decide +kernel
theorem dX12_go_183 : decode cX12_go 183 = .ok (.iload_n 1, 1) := by decide +kernel
theorem dX12_go_184 : decode cX12_go 184 = .ok (.bipush 57, 2) := by decide +kernel
theorem dX12_go_186 : decode cX12_go 186 = .ok (.if_icmp .gt 82, 3) := by decide +kernel
theorem dX12_go_189 : decode cX12_go 189 = .ok (.aload_n 0, 1) := by decide +kernel
theorem dX12_go_190 : decode cX12_go 190 = .ok (.aload_n 0, 1) := by decide +kernel
theorem dX12_go_191 : decode cX12_go 191 = .ok (.getfield 243, 3) := by decide +kernel
theorem dX12_go_194 : decode cX12_go 194 = .ok (.invokevirtual 240, 3) := by decide +kernel
theorem dX12_go_197 : decode cX12_go 197 = .ok (.bipush 48, 2) := by decide +kernel
theorem dX12_go_199 : decode cX12_go 199 = .ok (.if_icmp .lt 61, 3) := by decide +kernel
theorem dX12_go_202 : decode cX12_go 202 = .ok (.aload_n 0, 1) := by decide +kernel
theorem dX12_go_203 : decode cX12_go 203 = .ok (.aload_n 0, 1) := by decide +kernel
theorem dX12_go_204 : decode cX12_go 204 = .ok (.getfield 243, 3) := by decide +kernel
theorem dX12_go_207 : decode cX12_go 207 = .ok (.invokevirtual 240, 3) := by decide +kernel
theorem dX12_go_210 : decode cX12_go 210 = .ok (.bipush 57, 2) := by decide +kernel
theorem dX12_go_212 : decode cX12_go 212 = .ok (.if_icmp .gt 48, 3) := by decide +kernel
theorem dX12_go_215 : decode cX12_go 215 = .ok (.aload_n 0, 1) := by decide +kernel
theorem dX12_go_216 : decode cX12_go 216 = .ok (.aload_n 0, 1) := by decide +kernel
theorem dX12_go_217 : decode cX12_go 217 = .ok (.getfield 243, 3) := by decide +kernel
theorem dX12_go_220 : decode cX12_go 220 = .ok (.aload_n 0, 1) := by decide +kernel
theorem dX12_go_221 : decode cX12_go 221 = .ok (.getfield 246, 3) := by decide +kernel
theorem dX12_go_224 : decode cX12_go 224 = .ok (.if_icmp .ne 17, 3) := by decide +kernel
theorem dX12_go_227 : decode cX12_go 227 = .ok (.aload_n 0, 1) := by decide +kernel
theorem dX12_go_228 : decode cX12_go 228 = .ok (.aload_n 0, 1) := by decide +kernel
theorem dX12_go_229 : decode cX12_go 229 = .ok (.getfield 243, 3) := by decide +kernel
theorem dX12_go_232 : decode cX12_go 232 = .ok (.invokevirtual 240, 3) := by decide +kernel
theorem dX12_go_235 : decode cX12_go 235 = .ok (.bipush 48, 2) := by decide +kernel
theorem dX12_go_237 : decode cX12_go 237 = .ok (.isub, 1) := by decide +kernel
theorem dX12_go_238 : decode cX12_go 238 = .ok (.goto 6, 3) := by decide +kernel
theorem dX12_go_241 : decode cX12_go 241 = .ok (.sipush 999, 3) := by decide +kernel
theorem dX12_go_244 : decode cX12_go 244 = .ok (.putfield 255, 3) := by decide +kernel
theorem dX12_go_247 : decode cX12_go 247 = .ok (.aload_n 0, 1) := by decide +kernel
theorem dX12_go_248 : decode cX12_go 248 = .ok (.dup, 1) := by decide +kernel
theorem dX12_go_249 : decode cX12_go 249 = .ok (.getfield 243, 3) := by decide +kernel
theorem dX12_go_252 : decode cX12_go 252 = .ok (.iconst 1, 1) := by decide +kernel
theorem dX12_go_253 : decode cX12_go 253 = .ok (.iadd, 1) := by decide +kernel
theorem dX12_go_254 : decode cX12_go 254 = .ok (.putfield 243, 3) := by decide +kernel
theorem dX12_go_257 : decode cX12_go 257 = .ok (.goto (-68), 3) := by decide +kernel
theorem dX12_go_260 : decode cX12_go 260 = .ok (.aload_n 0, 1) := by decide +kernel
theorem dX12_go_261 : decode cX12_go 261 = .ok (.iconst 2, 1) := by decide +kernel
theorem dX12_go_262 : decode cX12_go 262 = .ok (.putfield 261, 3) := by decide +kernel
theorem dX12_go_265 : decode cX12_go 265 = .ok (.goto 47, 3) := by decide +kernel
theorem dX12_go_268 : decode cX12_go 268 = .ok (.aload_n 0, 1) := by decide +kernel
theorem dX12_go_269 : decode cX12_go 269 = .ok (.dup, 1) := by decide +kernel
theorem dX12_go_270 : decode cX12_go 270 = .ok (.getfield 243, 3) := by decide +kernel
theorem dX12_go_273 : decode cX12_go 273 = .ok (.iconst 1, 1) := by decide +kernel
theorem dX12_go_274 : decode cX12_go 274 = .ok (.iadd, 1) := by decide +kernel
theorem dX12_go_275 : decode cX12_go 275 = .ok (.putfield 243, 3) := by decide +kernel
theorem dX12_go_278 : decode cX12_go 278 = .ok (.aload_n 0, 1) := by decide +kernel
theorem dX12_go_279 : decode cX12_go 279 = .ok (.aload_n 0, 1) := by decide +kernel
theorem dX12_go_280 : decode cX12_go 280 = .ok (.iload_n 1, 1) := by decide +kernel
theorem dX12_go_281 : decode cX12_go 281 = .ok (.invokevirtual 270, 3) := by decide +kernel
theorem dX12_go_284 : decode cX12_go 284 = .ok (.ifCond .eq 7, 3) := by decide +kernel
theorem dX12_go_287 : decode cX12_go 287 = .ok (.iconst 3, 1) := by decide +kernel
theorem dX12_go_288 : decode cX12_go 288 = .ok (.goto 4, 3) := by decide +kernel
theorem dX12_go_291 : decode cX12_go 291 = .ok (.iconst 4, 1) := by decide +kernel
theorem dX12_go_292 : decode cX12_go 292 = .ok (.putfield 261, 3) := by decide +kernel
theorem dX12_go_295 : decode cX12_go 295 = .ok (.aload_n 0, 1) := by decide +kernel
theorem dX12_go_296 : decode cX12_go 296 = .ok (.aload_n 0, 1) := by decide +kernel
theorem dX12_go_297 : decode cX12_go 297 = .ok (.getfield 261, 3) := by decide +kernel
theorem dX12_go_300 : decode cX12_go 300 = .ok (.iconst 3, 1) := by decide +kernel
theorem dX12_go_301 : decode cX12_go 301 = .ok (.if_icmp .ne 7, 3) := by decide +kernel
theorem dX12_go_304 : decode cX12_go 304 = .ok (.iload_n 1, 1) := by decide +kernel
theorem dX12_go_305 : decode cX12_go 305 = .ok (.goto 4, 3) := by decide +kernel
theorem dX12_go_308 : decode cX12_go 308 = .ok (.iconst 0, 1) := by decide +kernel
theorem dX12_go_309 : decode cX12_go 309 = .ok (.putfield 258, 3) := by decide +kernel
theorem dX12_go_312 : decode cX12_go 312 = .ok (.return_, 1) := by decide +kernel
theorem dX12_wants_0 : decode cX12_wants 0 = .ok (.aload_n 0, 1) := by decide +kernel
theorem dX12_wants_1 : decode cX12_wants 1 = .ok (.getfield 273, 3) := by decide +kernel
theorem dX12_wants_4 : decode cX12_wants 4 = .ok (.ifCond .ne 20, 3) := by decide +kernel
theorem dX12_wants_7 : decode cX12_wants 7 = .ok (.iload_n 1, 1) := by decide +kernel
theorem dX12_wants_8 : decode cX12_wants 8 = .ok (.ifCond .ne 16, 3) := by decide +kernel
theorem dX12_wants_11 : decode cX12_wants 11 = .ok (.aload_n 0, 1) := by decide +kernel
theorem dX12_wants_12 : decode cX12_wants 12 = .ok (.iload_n 2, 1) := by decide +kernel
theorem dX12_wants_13 : decode cX12_wants 13 = .ok (.putfield 273, 3) := by decide +kernel
theorem dX12_wants_16 : decode cX12_wants 16 = .ok (.aload_n 0, 1) := by decide +kernel
theorem dX12_wants_17 : decode cX12_wants 17 = .ok (.aload_n 0, 1) := by decide +kernel
theorem dX12_wants_18 : decode cX12_wants 18 = .ok (.getfield 246, 3) := by decide +kernel
theorem dX12_wants_21 : decode cX12_wants 21 = .ok (.putfield 37, 3) := by decide +kernel
theorem dX12_wants_24 : decode cX12_wants 24 = .ok (.aload_n 0, 1) := by decide +kernel
theorem dX12_wants_25 : decode cX12_wants 25 = .ok (.getfield 273, 3) := by decide +kernel
theorem dX12_wants_28 : decode cX12_wants 28 = .ok (.ifCond .ne 7, 3) := by decide +kernel
theorem dX12_wants_31 : decode cX12_wants 31 = .ok (.iconst 1, 1) := by decide +kernel
theorem dX12_wants_32 : decode cX12_wants 32 = .ok (.goto 4, 3) := by decide +kernel
theorem dX12_wants_35 : decode cX12_wants 35 = .ok (.iconst 0, 1) := by decide +kernel
theorem dX12_wants_36 : decode cX12_wants 36 = .ok (.ireturn, 1) := by decide +kernel
theorem dX12_sign_0 : decode cX12_sign 0 = .ok (.aload_n 0, 1) := by decide +kernel
theorem dX12_sign_1 : decode cX12_sign 1 = .ok (.getfield 273, 3) := by decide +kernel
theorem dX12_sign_4 : decode cX12_sign 4 = .ok (.ifCond .ne 28, 3) := by decide +kernel
theorem dX12_sign_7 : decode cX12_sign 7 = .ok (.aload_n 0, 1) := by decide +kernel
theorem dX12_sign_8 : decode cX12_sign 8 = .ok (.aload_n 0, 1) := by decide +kernel
theorem dX12_sign_9 : decode cX12_sign 9 = .ok (.getfield 258, 3) := by decide +kernel
theorem dX12_sign_12 : decode cX12_sign 12 = .ok (.iload_n 1, 1) := by decide +kernel
theorem dX12_sign_13 : decode cX12_sign 13 = .ok (.if_icmp .ne 7, 3) := by decide +kernel
theorem dX12_sign_16 : decode cX12_sign 16 = .ok (.iconst 1, 1) := by decide +kernel
theorem dX12_sign_17 : decode cX12_sign 17 = .ok (.goto 4, 3) := by decide +kernel
theorem dX12_sign_20 : decode cX12_sign 20 = .ok (.iconst 0, 1) := by decide +kernel
theorem dX12_sign_21 : decode cX12_sign 21 = .ok (.iconst 1, 1) := by decide +kernel
theorem dX12_sign_22 : decode cX12_sign 22 = .ok (.invokevirtual 276, 3) := by decide +kernel
theorem dX12_sign_25 : decode cX12_sign 25 = .ok (.ifCond .eq 7, 3) := by decide +kernel
theorem dX12_sign_28 : decode cX12_sign 28 = .ok (.aload_n 0, 1) := by decide +kernel
theorem dX12_sign_29 : decode cX12_sign 29 = .ok (.invokevirtual 280, 3) := by decide +kernel
theorem dX12_sign_32 : decode cX12_sign 32 = .ok (.return_, 1) := by decide +kernel
theorem dX12_number_0 : decode cX12_number 0 = .ok (.aload_n 0, 1) := by decide +kernel
theorem dX12_number_1 : decode cX12_number 1 = .ok (.getfield 273, 3) := by decide +kernel
theorem dX12_number_4 : decode cX12_number 4 = .ok (.ifCond .ne 41, 3) := by decide +kernel
theorem dX12_number_7 : decode cX12_number 7 = .ok (.aload_n 0, 1) := by decide +kernel
theorem dX12_number_8 : decode cX12_number 8 = .ok (.aload_n 0, 1) := by decide +kernel
theorem dX12_number_9 : decode cX12_number 9 = .ok (.getfield 261, 3) := by decide +kernel
theorem dX12_number_12 : decode cX12_number 12 = .ok (.iconst 2, 1) := by decide +kernel
theorem dX12_number_13 : decode cX12_number 13 = .ok (.if_icmp .ne 7, 3) := by decide +kernel
theorem dX12_number_16 : decode cX12_number 16 = .ok (.iconst 1, 1) := by decide +kernel
theorem dX12_number_17 : decode cX12_number 17 = .ok (.goto 4, 3) := by decide +kernel
theorem dX12_number_20 : decode cX12_number 20 = .ok (.iconst 0, 1) := by decide +kernel
theorem dX12_number_21 : decode cX12_number 21 = .ok (.iconst 1, 1) := by decide +kernel
theorem dX12_number_22 : decode cX12_number 22 = .ok (.invokevirtual 276, 3) := by decide +kernel
theorem dX12_number_25 : decode cX12_number 25 = .ok (.ifCond .eq 20, 3) := by decide +kernel
theorem dX12_number_28 : decode cX12_number 28 = .ok (.aload_n 0, 1) := by decide +kernel
theorem dX12_number_29 : decode cX12_number 29 = .ok (.aload_n 0, 1) := by decide +kernel
theorem dX12_number_30 : decode cX12_number 30 = .ok (.getfield 255, 3) := by decide +kernel
theorem dX12_number_33 : decode cX12_number 33 = .ok (.iload_n 1, 1) := by decide +kernel
theorem dX12_number_34 : decode cX12_number 34 = .ok (.iload_n 2, 1) := by decide +kernel
theorem dX12_number_35 : decode cX12_number 35 = .ok (.invokestatic 283, 3) := by decide +kernel
theorem dX12_number_38 : decode cX12_number 38 = .ok (.iconst 2, 1) := by decide +kernel
theorem dX12_number_39 : decode cX12_number 39 = .ok (.invokevirtual 276, 3) := by decide +kernel
theorem dX12_number_42 : decode cX12_number 42 = .ok (.ifCond .ne 5, 3) := by decide +kernel
theorem dX12_number_45 : decode cX12_number 45 = .ok (.iload_n 1, 1) := by decide +kernel
theorem dX12_number_46 : decode cX12_number 46 = .ok (.ireturn, 1) := by decide +kernel
theorem dX12_number_47 : decode cX12_number 47 = .ok (.aload_n 0, 1) := by decide +kernel
theorem dX12_number_48 : decode cX12_number 48 = .ok (.getfield 255, 3) := by decide +kernel
theorem dX12_number_51 : decode cX12_number 51 = .ok (.istore_n 3, 1) := by decide +kernel
theorem dX12_number_52 : decode cX12_number 52 = .ok (.aload_n 0, 1) := by decide +kernel
theorem dX12_number_53 : decode cX12_number 53 = .ok (.invokevirtual 280, 3) := by decide +kernel
theorem dX12_number_56 : decode cX12_number 56 = .ok (.iload_n 3, 1) := by decide +kernel
theorem dX12_number_57 : decode cX12_number 57 = .ok (.ireturn, 1) := by decide +kernel
theorem dX12_symbolOf_0 : decode cX12_symbolOf 0 = .ok (.iconst 0, 1) := by decide +kernel
theorem dX12_symbolOf_1 : decode cX12_symbolOf 1 = .ok (.istore_n 2, 1) := by decide +kernel
theorem dX12_symbolOf_2 : decode cX12_symbolOf 2 = .ok (.iload_n 2, 1) := by decide +kernel
theorem dX12_symbolOf_3 : decode cX12_symbolOf 3 = .ok (.aload_n 0, 1) := by decide +kernel
theorem dX12_symbolOf_4 : decode cX12_symbolOf 4 = .ok (.getfield 287, 3) := by decide +kernel
theorem dX12_symbolOf_7 : decode cX12_symbolOf 7 = .ok (.if_icmp .ge 24, 3) := by decide +kernel
theorem dX12_symbolOf_10 : decode cX12_symbolOf 10 = .ok (.aload_n 0, 1) := by decide +kernel
theorem dX12_symbolOf_11 : decode cX12_symbolOf 11 = .ok (.getfield 22, 3) := by decide +kernel
theorem dX12_symbolOf_14 : decode cX12_symbolOf 14 = .ok (.bipush 10, 2) := by decide +kernel
theorem dX12_symbolOf_16 : decode cX12_symbolOf 16 = .ok (.iload_n 2, 1) := by decide +kernel
theorem dX12_symbolOf_17 : decode cX12_symbolOf 17 = .ok (.iadd, 1) := by decide +kernel
theorem dX12_symbolOf_18 : decode cX12_symbolOf 18 = .ok (.iaload, 1) := by decide +kernel
theorem dX12_symbolOf_19 : decode cX12_symbolOf 19 = .ok (.iload_n 1, 1) := by decide +kernel
theorem dX12_symbolOf_20 : decode cX12_symbolOf 20 = .ok (.if_icmp .ne 5, 3) := by decide +kernel
theorem dX12_symbolOf_23 : decode cX12_symbolOf 23 = .ok (.iload_n 2, 1) := by decide +kernel
theorem dX12_symbolOf_24 : decode cX12_symbolOf 24 = .ok (.ireturn, 1) := by decide +kernel
theorem dX12_symbolOf_25 : decode cX12_symbolOf 25 = .ok (.iinc 2 1, 3) := by decide +kernel
theorem dX12_symbolOf_28 : decode cX12_symbolOf 28 = .ok (.goto (-26), 3) := by decide +kernel
theorem dX12_symbolOf_31 : decode cX12_symbolOf 31 = .ok (.iconst (-1), 1) := by decide +kernel
theorem dX12_symbolOf_32 : decode cX12_symbolOf 32 = .ok (.ireturn, 1) := by decide +kernel
theorem dX12_term1_0 : decode cX12_term1 0 = .ok (.aload_n 0, 1) := by decide +kernel
theorem dX12_term1_1 : decode cX12_term1 1 = .ok (.getfield 273, 3) := by decide +kernel
theorem dX12_term1_4 : decode cX12_term1 4 = .ok (.ifCond .ne 33, 3) := by decide +kernel
theorem dX12_term1_7 : decode cX12_term1 7 = .ok (.aload_n 0, 1) := by decide +kernel
theorem dX12_term1_8 : decode cX12_term1 8 = .ok (.aload_n 0, 1) := by decide +kernel
theorem dX12_term1_9 : decode cX12_term1 9 = .ok (.getfield 261, 3) := by decide +kernel
theorem dX12_term1_12 : decode cX12_term1 12 = .ok (.iconst 1, 1) := by decide +kernel
theorem dX12_term1_13 : decode cX12_term1 13 = .ok (.if_icmp .eq 12, 3) := by decide +kernel
theorem dX12_term1_16 : decode cX12_term1 16 = .ok (.aload_n 0, 1) := by decide +kernel
theorem dX12_term1_17 : decode cX12_term1 17 = .ok (.getfield 258, 3) := by decide +kernel
theorem dX12_term1_20 : decode cX12_term1 20 = .ok (.bipush 63, 2) := by decide +kernel
theorem dX12_term1_22 : decode cX12_term1 22 = .ok (.if_icmp .ne 7, 3) := by decide +kernel
theorem dX12_term1_25 : decode cX12_term1 25 = .ok (.iconst 1, 1) := by decide +kernel
theorem dX12_term1_26 : decode cX12_term1 26 = .ok (.goto 4, 3) := by decide +kernel
theorem dX12_term1_29 : decode cX12_term1 29 = .ok (.iconst 0, 1) := by decide +kernel
theorem dX12_term1_30 : decode cX12_term1 30 = .ok (.iconst 1, 1) := by decide +kernel
theorem dX12_term1_31 : decode cX12_term1 31 = .ok (.invokevirtual 276, 3) := by decide +kernel
theorem dX12_term1_34 : decode cX12_term1 34 = .ok (.ifCond .ne 5, 3) := by decide +kernel
theorem dX12_term1_37 : decode cX12_term1 37 = .ok (.iconst 0, 1) := by decide +kernel
theorem dX12_term1_38 : decode cX12_term1 38 = .ok (.ireturn, 1) := by decide +kernel
theorem dX12_term1_39 : decode cX12_term1 39 = .ok (.aload_n 0, 1) := by decide +kernel
theorem dX12_term1_40 : decode cX12_term1 40 = .ok (.getfield 258, 3) := by decide +kernel
theorem dX12_term1_43 : decode cX12_term1 43 = .ok (.bipush 63, 2) := by decide +kernel
theorem dX12_term1_45 : decode cX12_term1 45 = .ok (.if_icmp .ne 53, 3) := by decide +kernel
theorem dX12_term1_48 : decode cX12_term1 48 = .ok (.aload_n 0, 1) := by decide +kernel
theorem dX12_term1_49 : decode cX12_term1 49 = .ok (.iload_n 1, 1) := by decide +kernel
theorem dX12_term1_50 : decode cX12_term1 50 = .ok (.bipush 6, 2) := by decide +kernel
theorem dX12_term1_52 : decode cX12_term1 52 = .ok (.if_icmp .gt 7, 3) := by decide +kernel
theorem dX12_term1_55 : decode cX12_term1 55 = .ok (.iconst 1, 1) := by decide +kernel
theorem dX12_term1_56 : decode cX12_term1 56 = .ok (.goto 4, 3) := by decide +kernel
theorem dX12_term1_59 : decode cX12_term1 59 = .ok (.iconst 0, 1) := by decide +kernel
theorem dX12_term1_60 : decode cX12_term1 60 = .ok (.iconst 2, 1) := by decide +kernel
theorem dX12_term1_61 : decode cX12_term1 61 = .ok (.invokevirtual 276, 3) := by decide +kernel
theorem dX12_term1_64 : decode cX12_term1 64 = .ok (.ifCond .ne 5, 3) := by decide +kernel
theorem dX12_term1_67 : decode cX12_term1 67 = .ok (.iconst 0, 1) := by decide +kernel
theorem dX12_term1_68 : decode cX12_term1 68 = .ok (.ireturn, 1) := by decide +kernel
theorem dX12_term1_69 : decode cX12_term1 69 = .ok (.aload_n 0, 1) := by decide +kernel
theorem dX12_term1_70 : decode cX12_term1 70 = .ok (.invokevirtual 280, 3) := by decide +kernel
theorem dX12_term1_73 : decode cX12_term1 73 = .ok (.aload_n 0, 1) := by decide +kernel
theorem dX12_term1_74 : decode cX12_term1 74 = .ok (.iconst 0, 1) := by decide +kernel
theorem dX12_term1_75 : decode cX12_term1 75 = .ok (.bipush 7, 2) := by decide +kernel
theorem dX12_term1_77 : decode cX12_term1 77 = .ok (.invokevirtual 290, 3) := by decide +kernel
theorem dX12_term1_80 : decode cX12_term1 80 = .ok (.istore_n 2, 1) := by decide +kernel
theorem dX12_term1_81 : decode cX12_term1 81 = .ok (.aload_n 0, 1) := by decide +kernel
theorem dX12_term1_82 : decode cX12_term1 82 = .ok (.getfield 273, 3) := by decide +kernel
theorem dX12_term1_85 : decode cX12_term1 85 = .ok (.ifCond .ne 11, 3) := by decide +kernel
theorem dX12_term1_88 : decode cX12_term1 88 = .ok (.aload_n 0, 1) := by decide +kernel
theorem dX12_term1_89 : decode cX12_term1 89 = .ok (.iload_n 2, 1) := by decide +kernel
theorem dX12_term1_90 : decode cX12_term1 90 = .ok (.invokevirtual 180, 3) := by decide +kernel
theorem dX12_term1_93 : decode cX12_term1 93 = .ok (.goto 4, 3) := by decide +kernel
theorem dX12_term1_96 : decode cX12_term1 96 = .ok (.iconst 0, 1) := by decide +kernel
theorem dX12_term1_97 : decode cX12_term1 97 = .ok (.ireturn, 1) := by decide +kernel
theorem dX12_term1_98 : decode cX12_term1 98 = .ok (.aload_n 0, 1) := by decide +kernel
theorem dX12_term1_99 : decode cX12_term1 99 = .ok (.aload_n 0, 1) := by decide +kernel
theorem dX12_term1_100 : decode cX12_term1 100 = .ok (.aload_n 0, 1) := by decide +kernel
theorem dX12_term1_101 : decode cX12_term1 101 = .ok (.getfield 246, 3) := by decide +kernel
theorem dX12_term1_104 : decode cX12_term1 104 = .ok (.invokevirtual 240, 3) := by decide +kernel
theorem dX12_term1_107 : decode cX12_term1 107 = .ok (.invokevirtual 293, 3) := by decide +kernel
theorem dX12_term1_110 : decode cX12_term1 110 = .ok (.istore_n 2, 1) := by decide +kernel
theorem dX12_term1_111 : decode cX12_term1 111 = .ok (.aload_n 0, 1) := by decide +kernel
theorem dX12_term1_112 : decode cX12_term1 112 = .ok (.aload_n 0, 1) := by decide +kernel
theorem dX12_term1_113 : decode cX12_term1 113 = .ok (.getfield 252, 3) := by decide +kernel
theorem dX12_term1_116 : decode cX12_term1 116 = .ok (.iconst 1, 1) := by decide +kernel
theorem dX12_term1_117 : decode cX12_term1 117 = .ok (.if_icmp .ne 13, 3) := by decide +kernel
theorem dX12_term1_120 : decode cX12_term1 120 = .ok (.iload_n 1, 1) := by decide +kernel
theorem dX12_term1_121 : decode cX12_term1 121 = .ok (.bipush 6, 2) := by decide +kernel
theorem dX12_term1_123 : decode cX12_term1 123 = .ok (.if_icmp .gt 7, 3) := by decide +kernel
theorem dX12_term1_126 : decode cX12_term1 126 = .ok (.iconst 1, 1) := by decide +kernel
theorem dX12_term1_127 : decode cX12_term1 127 = .ok (.goto 4, 3) := by decide +kernel
theorem dX12_term1_130 : decode cX12_term1 130 = .ok (.iconst 0, 1) := by decide +kernel
theorem dX12_term1_131 : decode cX12_term1 131 = .ok (.iconst 2, 1) := by decide +kernel
theorem dX12_term1_132 : decode cX12_term1 132 = .ok (.invokevirtual 276, 3) := by decide +kernel
theorem dX12_term1_135 : decode cX12_term1 135 = .ok (.ifCond .eq 21, 3) := by decide +kernel
theorem dX12_term1_138 : decode cX12_term1 138 = .ok (.aload_n 0, 1) := by decide +kernel
theorem dX12_term1_139 : decode cX12_term1 139 = .ok (.iload_n 2, 1) := by decide +kernel
theorem dX12_term1_140 : decode cX12_term1 140 = .ok (.iconst (-1), 1) := by decide +kernel
theorem dX12_term1_141 : decode cX12_term1 141 = .ok (.if_icmp .eq 7, 3) := by decide +kernel
theorem dX12_term1_144 : decode cX12_term1 144 = .ok (.iconst 1, 1) := by decide +kernel
theorem dX12_term1_145 : decode cX12_term1 145 = .ok (.goto 4, 3) := by decide +kernel
theorem dX12_term1_148 : decode cX12_term1 148 = .ok (.iconst 0, 1) := by decide +kernel
theorem dX12_term1_149 : decode cX12_term1 149 = .ok (.iconst 3, 1) := by decide +kernel
theorem dX12_term1_150 : decode cX12_term1 150 = .ok (.invokevirtual 276, 3) := by decide +kernel
theorem dX12_term1_153 : decode cX12_term1 153 = .ok (.ifCond .ne 5, 3) := by decide +kernel
theorem dX12_term1_156 : decode cX12_term1 156 = .ok (.iconst 0, 1) := by decide +kernel
theorem dX12_term1_157 : decode cX12_term1 157 = .ok (.ireturn, 1) := by decide +kernel
theorem dX12_term1_158 : decode cX12_term1 158 = .ok (.aload_n 0, 1) := by decide +kernel
theorem dX12_term1_159 : decode cX12_term1 159 = .ok (.invokevirtual 280, 3) := by decide +kernel
theorem dX12_term1_162 : decode cX12_term1 162 = .ok (.aload_n 0, 1) := by decide +kernel
theorem dX12_term1_163 : decode cX12_term1 163 = .ok (.getfield 25, 3) := by decide +kernel
theorem dX12_term1_166 : decode cX12_term1 166 = .ok (.bipush 10, 2) := by decide +kernel
theorem dX12_term1_168 : decode cX12_term1 168 = .ok (.iload_n 2, 1) := by decide +kernel
theorem dX12_term1_169 : decode cX12_term1 169 = .ok (.iadd, 1) := by decide +kernel
theorem dX12_term1_170 : decode cX12_term1 170 = .ok (.iaload, 1) := by decide +kernel
theorem dX12_term1_171 : decode cX12_term1 171 = .ok (.istore_n 3, 1) := by decide +kernel
theorem dX12_term1_172 : decode cX12_term1 172 = .ok (.iconst 0, 1) := by decide +kernel
theorem dX12_term1_173 : decode cX12_term1 173 = .ok (.istore 4, 2) := by decide +kernel
theorem dX12_term1_175 : decode cX12_term1 175 = .ok (.iconst 0, 1) := by decide +kernel
theorem dX12_term1_176 : decode cX12_term1 176 = .ok (.istore 5, 2) := by decide +kernel
theorem dX12_term1_178 : decode cX12_term1 178 = .ok (.iconst 0, 1) := by decide +kernel
theorem dX12_term1_179 : decode cX12_term1 179 = .ok (.istore 6, 2) := by decide +kernel
theorem dX12_term1_181 : decode cX12_term1 181 = .ok (.iload_n 3, 1) := by decide +kernel
theorem dX12_term1_182 : decode cX12_term1 182 = .ok (.ifCond .le 82, 3) := by decide +kernel
theorem dX12_term1_185 : decode cX12_term1 185 = .ok (.aload_n 0, 1) := by decide +kernel
theorem dX12_term1_186 : decode cX12_term1 186 = .ok (.bipush 40, 2) := by decide +kernel
theorem dX12_term1_188 : decode cX12_term1 188 = .ok (.invokevirtual 296, 3) := by decide +kernel
theorem dX12_term1_191 : decode cX12_term1 191 = .ok (.aload_n 0, 1) := by decide +kernel
theorem dX12_term1_192 : decode cX12_term1 192 = .ok (.iload_n 1, 1) := by decide +kernel
theorem dX12_term1_193 : decode cX12_term1 193 = .ok (.iconst 1, 1) := by decide +kernel
theorem dX12_term1_194 : decode cX12_term1 194 = .ok (.iadd, 1) := by decide +kernel
theorem dX12_term1_195 : decode cX12_term1 195 = .ok (.invokevirtual 298, 3) := by decide +kernel
theorem dX12_term1_198 : decode cX12_term1 198 = .ok (.istore 4, 2) := by decide +kernel
theorem dX12_term1_200 : decode cX12_term1 200 = .ok (.iload_n 3, 1) := by decide +kernel
theorem dX12_term1_201 : decode cX12_term1 201 = .ok (.iconst 1, 1) := by decide +kernel
theorem dX12_term1_202 : decode cX12_term1 202 = .ok (.if_icmp .le 9, 3) := by decide +kernel
theorem dX12_term1_205 : decode cX12_term1 205 = .ok (.aload_n 0, 1) := by decide +kernel
theorem dX12_term1_206 : decode cX12_term1 206 = .ok (.bipush 44, 2) := by decide +kernel
theorem dX12_term1_208 : decode cX12_term1 208 = .ok (.invokevirtual 296, 3) := by decide +kernel
theorem dX12_term1_211 : decode cX12_term1 211 = .ok (.iload_n 3, 1) := by decide +kernel
theorem dX12_term1_212 : decode cX12_term1 212 = .ok (.iconst 1, 1) := by decide +kernel
theorem dX12_term1_213 : decode cX12_term1 213 = .ok (.if_icmp .le 13, 3) := by decide +kernel
theorem dX12_term1_216 : decode cX12_term1 216 = .ok (.aload_n 0, 1) := by decide +kernel
