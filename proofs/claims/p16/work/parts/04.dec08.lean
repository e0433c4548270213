theorem dX12_init_0 : decode cX12_init 0 = .ok (.aload_n 0, 1) := by decide +kernel
theorem dX12_init_1 : decode cX12_init 1 = .ok (.invokespecial 3, 3) := by decide +kernel
theorem dX12_init_4 : decode cX12_init 4 = .ok (.aload_n 0, 1) := by decide +kernel
theorem dX12_init_5 : decode cX12_init 5 = .ok (.sipush 5400, 3) := by decide +kernel
theorem dX12_init_8 : decode cX12_init 8 = .ok (.newarray .int, 2) := by decide +kernel
theorem dX12_init_10 : decode cX12_init 10 = .ok (.putfield 9, 3) := by decide +kernel
theorem dX12_init_13 : decode cX12_init 13 = .ok (.aload_n 0, 1) := by decide +kernel
theorem dX12_init_14 : decode cX12_init 14 = .ok (.sipush 1200, 3) := by decide +kernel
theorem dX12_init_17 : decode cX12_init 17 = .ok (.newarray .int, 2) := by decide +kernel
theorem dX12_init_19 : decode cX12_init 19 = .ok (.putfield 13, 3) := by decide +kernel
theorem dX12_init_22 : decode cX12_init 22 = .ok (.aload_n 0, 1) := by decide +kernel
theorem dX12_init_23 : decode cX12_init 23 = .ok (.sipush 3600, 3) := by decide +kernel
theorem dX12_init_26 : decode cX12_init 26 = .ok (.newarray .int, 2) := by decide +kernel
theorem dX12_init_28 : decode cX12_init 28 = .ok (.putfield 16, 3) := by decide +kernel
theorem dX12_init_31 : decode cX12_init 31 = .ok (.aload_n 0, 1) := by decide +kernel
theorem dX12_init_32 : decode cX12_init 32 = .ok (.sipush 1200, 3) := by decide +kernel
theorem dX12_init_35 : decode cX12_init 35 = .ok (.newarray .int, 2) := by decide +kernel
theorem dX12_init_37 : decode cX12_init 37 = .ok (.putfield 19, 3) := by decide +kernel
theorem dX12_init_40 : decode cX12_init 40 = .ok (.aload_n 0, 1) := by decide +kernel
theorem dX12_init_41 : decode cX12_init 41 = .ok (.bipush 20, 2) := by decide +kernel
theorem dX12_init_43 : decode cX12_init 43 = .ok (.newarray .int, 2) := by decide +kernel
theorem dX12_init_45 : decode cX12_init 45 = .ok (.putfield 22, 3) := by decide +kernel
theorem dX12_init_48 : decode cX12_init 48 = .ok (.aload_n 0, 1) := by decide +kernel
theorem dX12_init_49 : decode cX12_init 49 = .ok (.bipush 20, 2) := by decide +kernel
theorem dX12_init_51 : decode cX12_init 51 = .ok (.newarray .int, 2) := by decide +kernel
theorem dX12_init_53 : decode cX12_init 53 = .ok (.putfield 25, 3) := by decide +kernel
theorem dX12_init_56 : decode cX12_init 56 = .ok (.aload_n 0, 1) := by decide +kernel
theorem dX12_init_57 : decode cX12_init 57 = .ok (.bipush 20, 2) := by decide +kernel
theorem dX12_init_59 : decode cX12_init 59 = .ok (.newarray .int, 2) := by decide +kernel
theorem dX12_init_61 : decode cX12_init 61 = .ok (.putfield 28, 3) := by decide +kernel
theorem dX12_init_64 : decode cX12_init 64 = .ok (.aload_n 0, 1) := by decide +kernel
theorem dX12_init_65 : decode cX12_init 65 = .ok (.bipush 8, 2) := by decide +kernel
theorem dX12_init_67 : decode cX12_init 67 = .ok (.newarray .int, 2) := by decide +kernel
theorem dX12_init_69 : decode cX12_init 69 = .ok (.putfield 31, 3) := by decide +kernel
theorem dX12_init_72 : decode cX12_init 72 = .ok (.aload_n 0, 1) := by decide +kernel
theorem dX12_init_73 : decode cX12_init 73 = .ok (.sipush 700, 3) := by decide +kernel
theorem dX12_init_76 : decode cX12_init 76 = .ok (.newarray .int, 2) := by decide +kernel
theorem dX12_init_78 : decode cX12_init 78 = .ok (.putfield 34, 3) := by decide +kernel
theorem dX12_init_81 : decode cX12_init 81 = .ok (.aload_n 0, 1) := by decide +kernel
theorem dX12_init_82 : decode cX12_init 82 = .ok (.iconst (-1), 1) := by decide +kernel
theorem dX12_init_83 : decode cX12_init 83 = .ok (.putfield 37, 3) := by decide +kernel
theorem dX12_init_86 : decode cX12_init 86 = .ok (.aload_n 0, 1) := by decide +kernel
theorem dX12_init_87 : decode cX12_init 87 = .ok (.bipush 8, 2) := by decide +kernel
theorem dX12_init_89 : decode cX12_init 89 = .ok (.newarray .int, 2) := by decide +kernel
theorem dX12_init_91 : decode cX12_init 91 = .ok (.putfield 41, 3) := by decide +kernel
theorem dX12_init_94 : decode cX12_init 94 = .ok (.aload_n 0, 1) := by decide +kernel
theorem dX12_init_95 : decode cX12_init 95 = .ok (.bipush 8, 2) := by decide +kernel
theorem dX12_init_97 : decode cX12_init 97 = .ok (.newarray .int, 2) := by decide +kernel
theorem dX12_init_99 : decode cX12_init 99 = .ok (.putfield 44, 3) := by decide +kernel
theorem dX12_init_102 : decode cX12_init 102 = .ok (.aload_n 0, 1) := by decide +kernel
theorem dX12_init_103 : decode cX12_init 103 = .ok (.bipush 8, 2) := by decide +kernel
theorem dX12_init_105 : decode cX12_init 105 = .ok (.newarray .int, 2) := by decide +kernel
theorem dX12_init_107 : decode cX12_init 107 = .ok (.putfield 47, 3) := by decide +kernel
theorem dX12_init_110 : decode cX12_init 110 = .ok (.aload_n 0, 1) := by decide +kernel
theorem dX12_init_111 : decode cX12_init 111 = .ok (.sipush 800, 3) := by decide +kernel
theorem dX12_init_114 : decode cX12_init 114 = .ok (.newarray .int, 2) := by decide +kernel
theorem dX12_init_116 : decode cX12_init 116 = .ok (.putfield 50, 3) := by decide +kernel
theorem dX12_init_119 : decode cX12_init 119 = .ok (.aload_n 0, 1) := by decide +kernel
theorem dX12_init_120 : decode cX12_init 120 = .ok (.sipush 800, 3) := by decide +kernel
theorem dX12_init_123 : decode cX12_init 123 = .ok (.newarray .int, 2) := by decide +kernel
theorem dX12_init_125 : decode cX12_init 125 = .ok (.putfield 53, 3) := by decide +kernel
theorem dX12_init_128 : decode cX12_init 128 = .ok (.aload_n 0, 1) := by decide +kernel
theorem dX12_init_129 : decode cX12_init 129 = .ok (.sipush 800, 3) := by decide +kernel
theorem dX12_init_132 : decode cX12_init 132 = .ok (.newarray .int, 2) := by decide +kernel
theorem dX12_init_134 : decode cX12_init 134 = .ok (.putfield 56, 3) := by decide +kernel
theorem dX12_init_137 : decode cX12_init 137 = .ok (.aload_n 0, 1) := by decide +kernel
theorem dX12_init_138 : decode cX12_init 138 = .ok (.sipush 800, 3) := by decide +kernel
theorem dX12_init_141 : decode cX12_init 141 = .ok (.newarray .int, 2) := by decide +kernel
theorem dX12_init_143 : decode cX12_init 143 = .ok (.putfield 59, 3) := by decide +kernel
theorem dX12_init_146 : decode cX12_init 146 = .ok (.aload_n 0, 1) := by decide +kernel
theorem dX12_init_147 : decode cX12_init 147 = .ok (.sipush 4000, 3) := by decide +kernel
theorem dX12_init_150 : decode cX12_init 150 = .ok (.newarray .int, 2) := by decide +kernel
theorem dX12_init_152 : decode cX12_init 152 = .ok (.putfield 62, 3) := by decide +kernel
theorem dX12_init_155 : decode cX12_init 155 = .ok (.aload_n 0, 1) := by decide +kernel
theorem dX12_init_156 : decode cX12_init 156 = .ok (.bipush 16, 2) := by decide +kernel
theorem dX12_init_158 : decode cX12_init 158 = .ok (.newarray .int, 2) := by decide +kernel
theorem dX12_init_160 : decode cX12_init 160 = .ok (.putfield 65, 3) := by decide +kernel
theorem dX12_init_163 : decode cX12_init 163 = .ok (.aload_n 0, 1) := by decide +kernel
theorem dX12_init_164 : decode cX12_init 164 = .ok (.getfield 9, 3) := by decide +kernel
theorem dX12_init_167 : decode cX12_init 167 = .ok (.bipush 39, 2) := by decide +kernel
theorem dX12_init_169 : decode cX12_init 169 = .ok (.iconst 4, 1) := by decide +kernel
theorem dX12_init_170 : decode cX12_init 170 = .ok (.iastore, 1) := by decide +kernel
theorem dX12_init_171 : decode cX12_init 171 = .ok (.return_, 1) := by decide +kernel
theorem dX12_right_0 : decode cX12_right 0 = .ok (.aload_n 0, 1) := by decide +kernel
theorem dX12_right_1 : decode cX12_right 1 = .ok (.getfield 68, 3) := by decide +kernel
theorem dX12_right_4 : decode cX12_right 4 = .ok (.ifCond .ne 12, 3) := by decide +kernel
theorem dX12_right_7 : decode cX12_right 7 = .ok (.iload_n 1, 1) := by decide +kernel
theorem dX12_right_8 : decode cX12_right 8 = .ok (.ifCond .ne 8, 3) := by decide +kernel
theorem dX12_right_11 : decode cX12_right 11 = .ok (.aload_n 0, 1) := by decide +kernel
theorem dX12_right_12 : decode cX12_right 12 = .ok (.iload_n 2, 1) := by decide +kernel
theorem dX12_right_13 : decode cX12_right 13 = .ok (.putfield 68, 3) := by decide +kernel
theorem dX12_right_16 : decode cX12_right 16 = .ok (.aload_n 0, 1) := by decide +kernel
theorem dX12_right_17 : decode cX12_right 17 = .ok (.getfield 68, 3) := by decide +kernel
theorem dX12_right_20 : decode cX12_right 20 = .ok (.ifCond .ne 7, 3) := by decide +kernel
theorem dX12_right_23 : decode cX12_right 23 = .ok (.iconst 1, 1) := by decide +kernel
theorem dX12_right_24 : decode cX12_right 24 = .ok (.goto 4, 3) := by decide +kernel
theorem dX12_right_27 : decode cX12_right 27 = .ok (.iconst 0, 1) := by decide +kernel
theorem dX12_right_28 : decode cX12_right 28 = .ok (.ireturn, 1) := by decide +kernel
theorem dX12_within_0 : decode cX12_within 0 = .ok (.iload_n 0, 1) := by decide +kernel
theorem dX12_within_1 : decode cX12_within 1 = .ok (.iload_n 1, 1) := by decide +kernel
theorem dX12_within_2 : decode cX12_within 2 = .ok (.if_icmp .lt 12, 3) := by decide +kernel
theorem dX12_within_5 : decode cX12_within 5 = .ok (.iload_n 0, 1) := by decide +kernel
theorem dX12_within_6 : decode cX12_within 6 = .ok (.iload_n 2, 1) := by decide +kernel
theorem dX12_within_7 : decode cX12_within 7 = .ok (.if_icmp .gt 7, 3) := by decide +kernel
theorem dX12_within_10 : decode cX12_within 10 = .ok (.iconst 1, 1) := by decide +kernel
theorem dX12_within_11 : decode cX12_within 11 = .ok (.goto 4, 3) := by decide +kernel
theorem dX12_within_14 : decode cX12_within 14 = .ok (.iconst 0, 1) := by decide +kernel
theorem dX12_within_15 : decode cX12_within 15 = .ok (.ireturn, 1) := by decide +kernel
theorem dX12_greater_0 : decode cX12_greater 0 = .ok (.iload_n 0, 1) := by decide +kernel
theorem dX12_greater_1 : decode cX12_greater 1 = .ok (.iload_n 1, 1) := by decide +kernel
theorem dX12_greater_2 : decode cX12_greater 2 = .ok (.if_icmp .le 7, 3) := by decide +kernel
theorem dX12_greater_5 : decode cX12_greater 5 = .ok (.iload_n 0, 1) := by decide +kernel
theorem dX12_greater_6 : decode cX12_greater 6 = .ok (.goto 4, 3) := by decide +kernel
theorem dX12_greater_9 : decode cX12_greater 9 = .ok (.iload_n 1, 1) := by decide +kernel
theorem dX12_greater_10 : decode cX12_greater 10 = .ok (.ireturn, 1) := by decide +kernel
theorem dX12_copies_0 : decode cX12_copies 0 = .ok (.iconst 0, 1) := by decide +kernel
theorem dX12_copies_1 : decode cX12_copies 1 = .ok (.istore 4, 2) := by decide +kernel
theorem dX12_copies_3 : decode cX12_copies 3 = .ok (.iload 4, 2) := by decide +kernel
theorem dX12_copies_5 : decode cX12_copies 5 = .ok (.iload_n 3, 1) := by decide +kernel
theorem dX12_copies_6 : decode cX12_copies 6 = .ok (.if_icmp .ge 27, 3) := by decide +kernel
theorem dX12_copies_9 : decode cX12_copies 9 = .ok (.aload_n 0, 1) := by decide +kernel
theorem dX12_copies_10 : decode cX12_copies 10 = .ok (.getfield 9, 3) := by decide +kernel
theorem dX12_copies_13 : decode cX12_copies 13 = .ok (.iload_n 2, 1) := by decide +kernel
theorem dX12_copies_14 : decode cX12_copies 14 = .ok (.iload 4, 2) := by decide +kernel
theorem dX12_copies_16 : decode cX12_copies 16 = .ok (.iadd, 1) := by decide +kernel
theorem dX12_copies_17 : decode cX12_copies 17 = .ok (.aload_n 0, 1) := by decide +kernel
theorem dX12_copies_18 : decode cX12_copies 18 = .ok (.getfield 9, 3) := by decide +kernel
theorem dX12_copies_21 : decode cX12_copies 21 = .ok (.iload_n 1, 1) := by decide +kernel
theorem dX12_copies_22 : decode cX12_copies 22 = .ok (.iload 4, 2) := by decide +kernel
theorem dX12_copies_24 : decode cX12_copies 24 = .ok (.iadd, 1) := by decide +kernel
theorem dX12_copies_25 : decode cX12_copies 25 = .ok (.iaload, 1) := by decide +kernel
theorem dX12_copies_26 : decode cX12_copies 26 = .ok (.iastore, 1) := by decide +kernel
theorem dX12_copies_27 : decode cX12_copies 27 = .ok (.iinc 4 1, 3) := by decide +kernel
theorem dX12_copies_30 : decode cX12_copies 30 = .ok (.goto (-27), 3) := by decide +kernel
theorem dX12_copies_33 : decode cX12_copies 33 = .ok (.return_, 1) := by decide +kernel
theorem dX12_head_0 : decode cX12_head 0 = .ok (.aload_n 0, 1) := by decide +kernel
theorem dX12_head_1 : decode cX12_head 1 = .ok (.getfield 13, 3) := by decide +kernel
theorem dX12_head_4 : decode cX12_head 4 = .ok (.aload_n 0, 1) := by decide +kernel
theorem dX12_head_5 : decode cX12_head 5 = .ok (.getfield 71, 3) := by decide +kernel
theorem dX12_head_8 : decode cX12_head 8 = .ok (.iload_n 1, 1) := by decide +kernel
theorem dX12_head_9 : decode cX12_head 9 = .ok (.iadd, 1) := by decide +kernel
theorem dX12_head_10 : decode cX12_head 10 = .ok (.iaload, 1) := by decide +kernel
theorem dX12_head_11 : decode cX12_head 11 = .ok (.ireturn, 1) := by decide +kernel
theorem dX12_argument1_0 : decode cX12_argument1 0 = .ok (.aload_n 0, 1) := by decide +kernel
theorem dX12_argument1_1 : decode cX12_argument1 1 = .ok (.getfield 16, 3) := by decide +kernel
theorem dX12_argument1_4 : decode cX12_argument1 4 = .ok (.iconst 3, 1) := by decide +kernel
theorem dX12_argument1_5 : decode cX12_argument1 5 = .ok (.aload_n 0, 1) := by decide +kernel
theorem dX12_argument1_6 : decode cX12_argument1 6 = .ok (.getfield 71, 3) := by decide +kernel
theorem dX12_argument1_9 : decode cX12_argument1 9 = .ok (.iload_n 1, 1) := by decide +kernel
theorem dX12_argument1_10 : decode cX12_argument1 10 = .ok (.iadd, 1) := by decide +kernel
theorem dX12_argument1_11 : decode cX12_argument1 11 = .ok (.imul, 1) := by decide +kernel
theorem dX12_argument1_12 : decode cX12_argument1 12 = .ok (.iload_n 2, 1) := by decide +kernel
theorem dX12_argument1_13 : decode cX12_argument1 13 = .ok (.iadd, 1) := by decide +kernel
theorem dX12_argument1_14 : decode cX12_argument1 14 = .ok (.iaload, 1) := by decide +kernel
theorem dX12_argument1_15 : decode cX12_argument1 15 = .ok (.ireturn, 1) := by decide +kernel
theorem dX12_isVariable_0 : decode cX12_isVariable 0 = .ok (.aload_n 0, 1) := by decide +kernel
theorem dX12_isVariable_1 : decode cX12_isVariable 1 = .ok (.iload_n 1, 1) := by decide +kernel
theorem dX12_isVariable_2 : decode cX12_isVariable 2 = .ok (.invokevirtual 74, 3) := by decide +kernel
theorem dX12_isVariable_5 : decode cX12_isVariable 5 = .ok (.ifCond .ge 7, 3) := by decide +kernel
theorem dX12_isVariable_8 : decode cX12_isVariable 8 = .ok (.iconst 1, 1) := by decide +kernel
theorem dX12_isVariable_9 : decode cX12_isVariable 9 = .ok (.goto 4, 3) := by decide +kernel
theorem dX12_isVariable_12 : decode cX12_isVariable 12 = .ok (.iconst 0, 1) := by decide +kernel
theorem dX12_isVariable_13 : decode cX12_isVariable 13 = .ok (.ireturn, 1) := by decide +kernel
theorem dX12_variableOf_0 : decode cX12_variableOf 0 = .ok (.iconst (-1), 1) := by decide +kernel
theorem dX12_variableOf_1 : decode cX12_variableOf 1 = .ok (.aload_n 0, 1) := by decide +kernel
theorem dX12_variableOf_2 : decode cX12_variableOf 2 = .ok (.iload_n 1, 1) := by decide +kernel
theorem dX12_variableOf_3 : decode cX12_variableOf 3 = .ok (.invokevirtual 74, 3) := by decide +kernel
theorem dX12_variableOf_6 : decode cX12_variableOf 6 = .ok (.isub, 1) := by decide +kernel
theorem dX12_variableOf_7 : decode cX12_variableOf 7 = .ok (.ireturn, 1) := by decide +kernel
theorem dX12_arityOf_0 : decode cX12_arityOf 0 = .ok (.aload_n 0, 1) := by decide +kernel
theorem dX12_arityOf_1 : decode cX12_arityOf 1 = .ok (.iload_n 1, 1) := by decide +kernel
theorem dX12_arityOf_2 : decode cX12_arityOf 2 = .ok (.invokevirtual 78, 3) := by decide +kernel
theorem dX12_arityOf_5 : decode cX12_arityOf 5 = .ok (.ifCond .eq 7, 3) := by decide +kernel
theorem dX12_arityOf_8 : decode cX12_arityOf 8 = .ok (.iconst 0, 1) := by decide +kernel
theorem dX12_arityOf_9 : decode cX12_arityOf 9 = .ok (.goto 18, 3) := by decide +kernel
theorem dX12_arityOf_12 : decode cX12_arityOf 12 = .ok (.aload_n 0, 1) := by decide +kernel
theorem dX12_arityOf_13 : decode cX12_arityOf 13 = .ok (.getfield 25, 3) := by decide +kernel
theorem dX12_arityOf_16 : decode cX12_arityOf 16 = .ok (.aload_n 0, 1) := by decide +kernel
theorem dX12_arityOf_17 : decode cX12_arityOf 17 = .ok (.getfield 82, 3) := by decide +kernel
theorem dX12_arityOf_20 : decode cX12_arityOf 20 = .ok (.aload_n 0, 1) := by decide +kernel
theorem dX12_arityOf_21 : decode cX12_arityOf 21 = .ok (.iload_n 1, 1) := by decide +kernel
theorem dX12_arityOf_22 : decode cX12_arityOf 22 = .ok (.invokevirtual 74, 3) := by decide +kernel
theorem dX12_arityOf_25 : decode cX12_arityOf 25 = .ok (.iadd, 1) := by decide +kernel
theorem dX12_arityOf_26 : decode cX12_arityOf 26 = .ok (.iaload, 1) := by decide +kernel
theorem dX12_arityOf_27 : decode cX12_arityOf 27 = .ok (.ireturn, 1) := by decide +kernel
theorem dX12_weightOfHead_0 : decode cX12_weightOfHead 0 = .ok (.aload_n 0, 1) := by decide +kernel
theorem dX12_weightOfHead_1 : decode cX12_weightOfHead 1 = .ok (.iload_n 1, 1) := by decide +kernel
theorem dX12_weightOfHead_2 : decode cX12_weightOfHead 2 = .ok (.invokevirtual 78, 3) := by decide +kernel
theorem dX12_weightOfHead_5 : decode cX12_weightOfHead 5 = .ok (.ifCond .eq 7, 3) := by decide +kernel
theorem dX12_weightOfHead_8 : decode cX12_weightOfHead 8 = .ok (.iconst 1, 1) := by decide +kernel
theorem dX12_weightOfHead_9 : decode cX12_weightOfHead 9 = .ok (.goto 18, 3) := by decide +kernel
theorem dX12_weightOfHead_12 : decode cX12_weightOfHead 12 = .ok (.aload_n 0, 1) := by decide +kernel
theorem dX12_weightOfHead_13 : decode cX12_weightOfHead 13 = .ok (.getfield 28, 3) := by decide +kernel
theorem dX12_weightOfHead_16 : decode cX12_weightOfHead 16 = .ok (.aload_n 0, 1) := by decide +kernel
theorem dX12_weightOfHead_17 : decode cX12_weightOfHead 17 = .ok (.getfield 82, 3) := by decide +kernel
theorem dX12_weightOfHead_20 : decode cX12_weightOfHead 20 = .ok (.aload_n 0, 1) := by decide +kernel
theorem dX12_weightOfHead_21 : decode cX12_weightOfHead 21 = .ok (.iload_n 1, 1) := by decide +kernel
theorem dX12_weightOfHead_22 : decode cX12_weightOfHead 22 = .ok (.invokevirtual 74, 3) := by decide +kernel
theorem dX12_weightOfHead_25 : decode cX12_weightOfHead 25 = .ok (.iadd, 1) := by decide +kernel
theorem dX12_weightOfHead_26 : decode cX12_weightOfHead 26 = .ok (.iaload, 1) := by decide +kernel
theorem dX12_weightOfHead_27 : decode cX12_weightOfHead 27 = .ok (.ireturn, 1) := by decide +kernel
theorem dX12_many_0 : decode cX12_many 0 = .ok (.aload_n 0, 1) := by decide +kernel
theorem dX12_many_1 : decode cX12_many 1 = .ok (.getfield 9, 3) := by decide +kernel
theorem dX12_many_4 : decode cX12_many 4 = .ok (.aload_n 0, 1) := by decide +kernel
theorem dX12_many_5 : decode cX12_many 5 = .ok (.getfield 85, 3) := by decide +kernel
theorem dX12_many_8 : decode cX12_many 8 = .ok (.iconst 0, 1) := by decide +kernel
theorem dX12_many_9 : decode cX12_many 9 = .ok (.iadd, 1) := by decide +kernel
theorem dX12_many_10 : decode cX12_many 10 = .ok (.iaload, 1) := by decide +kernel
theorem dX12_many_11 : decode cX12_many 11 = .ok (.ireturn, 1) := by decide +kernel
theorem dX12_isThat_0 : decode cX12_isThat 0 = .ok (.aload_n 0, 1) := by decide +kernel
theorem dX12_isThat_1 : decode cX12_isThat 1 = .ok (.iload_n 1, 1) := by decide +kernel
theorem dX12_isThat_2 : decode cX12_isThat 2 = .ok (.invokevirtual 74, 3) := by decide +kernel
theorem dX12_isThat_5 : decode cX12_isThat 5 = .ok (.iload_n 2, 1) := by decide +kernel
theorem dX12_isThat_6 : decode cX12_isThat 6 = .ok (.if_icmp .eq 5, 3) := by decide +kernel
theorem dX12_isThat_9 : decode cX12_isThat 9 = .ok (.iconst 0, 1) := by decide +kernel
theorem dX12_isThat_10 : decode cX12_isThat 10 = .ok (.ireturn, 1) := by decide +kernel
theorem dX12_isThat_11 : decode cX12_isThat 11 = .ok (.iload_n 3, 1) := by decide +kernel
theorem dX12_isThat_12 : decode cX12_isThat 12 = .ok (.iconst 1, 1) := by decide +kernel
theorem dX12_isThat_13 : decode cX12_isThat 13 = .ok (.if_icmp .lt 14, 3) := by decide +kernel
theorem dX12_isThat_16 : decode cX12_isThat 16 = .ok (.aload_n 0, 1) := by decide +kernel
theorem dX12_isThat_17 : decode cX12_isThat 17 = .ok (.iload_n 1, 1) := by decide +kernel
theorem dX12_isThat_18 : decode cX12_isThat 18 = .ok (.iconst 0, 1) := by decide +kernel
theorem dX12_isThat_19 : decode cX12_isThat 19 = .ok (.invokevirtual 88, 3) := by decide +kernel
theorem dX12_isThat_22 : decode cX12_isThat 22 = .ok (.iload 4, 2) := by decide +kernel
theorem dX12_isThat_24 : decode cX12_isThat 24 = .ok (.if_icmp .ne 39, 3) := by decide +kernel
theorem dX12_isThat_27 : decode cX12_isThat 27 = .ok (.iload_n 3, 1) := by decide +kernel
theorem dX12_isThat_28 : decode cX12_isThat 28 = .ok (.iconst 2, 1) := by decide +kernel
theorem dX12_isThat_29 : decode cX12_isThat 29 = .ok (.if_icmp .lt 14, 3) := by decide +kernel
theorem dX12_isThat_32 : decode cX12_isThat 32 = .ok (.aload_n 0, 1) := by decide +kernel
theorem dX12_isThat_33 : decode cX12_isThat 33 = .ok (.iload_n 1, 1) := by decide +kernel
theorem dX12_isThat_34 : decode cX12_isThat 34 = .ok (.iconst 1, 1) := by decide +kernel
theorem dX12_isThat_35 : decode cX12_isThat 35 = .ok (.invokevirtual 88, 3) := by decide +kernel
theorem dX12_isThat_38 : decode cX12_isThat 38 = .ok (.iload 5, 2) := by decide +kernel
theorem dX12_isThat_40 : decode cX12_isThat 40 = .ok (.if_icmp .ne 23, 3) := by decide +kernel
theorem dX12_isThat_43 : decode cX12_isThat 43 = .ok (.iload_n 3, 1) := by decide +kernel
theorem dX12_isThat_44 : decode cX12_isThat 44 = .ok (.iconst 3, 1) := by decide +kernel
theorem dX12_isThat_45 : decode cX12_isThat 45 = .ok (.if_icmp .lt 14, 3) := by decide +kernel
theorem dX12_isThat_48 : decode cX12_isThat 48 = .ok (.aload_n 0, 1) := by decide +kernel
theorem dX12_isThat_49 : decode cX12_isThat 49 = .ok (.iload_n 1, 1) := by decide +kernel
theorem dX12_isThat_50 : decode cX12_isThat 50 = .ok (.iconst 2, 1) := by decide +kernel
theorem dX12_isThat_51 : decode cX12_isThat 51 = .ok (.invokevirtual 88, 3) := by decide +kernel
theorem dX12_isThat_54 : decode cX12_isThat 54 = .ok (.iload 6, 2) := by decide +kernel
theorem dX12_isThat_56 : decode cX12_isThat 56 = .ok (.if_icmp .ne 7, 3) := by decide +kernel
theorem dX12_isThat_59 : decode cX12_isThat 59 = .ok (.iconst 1, 1) := by decide +kernel
theorem dX12_isThat_60 : decode cX12_isThat 60 = .ok (.goto 4, 3) := by decide +kernel
theorem dX12_isThat_63 : decode cX12_isThat 63 = .ok (.iconst 0, 1) := by decide +kernel
theorem dX12_isThat_64 : decode cX12_isThat 64 = .ok (.ireturn, 1) := by decide +kernel
theorem dX12_termOf_0 : decode cX12_termOf 0 = .ok (.aload_n 0, 1) := by decide +kernel
theorem dX12_termOf_1 : decode cX12_termOf 1 = .ok (.getfield 92, 3) := by decide +kernel
theorem dX12_termOf_4 : decode cX12_termOf 4 = .ok (.ifCond .eq 5, 3) := by decide +kernel
theorem dX12_termOf_7 : decode cX12_termOf 7 = .ok (.iconst 0, 1) := by decide +kernel
theorem dX12_termOf_8 : decode cX12_termOf 8 = .ok (.ireturn, 1) := by decide +kernel
theorem dX12_termOf_9 : decode cX12_termOf 9 = .ok (.iload_n 1, 1) := by decide +kernel
theorem dX12_termOf_10 : decode cX12_termOf 10 = .ok (.ifCond .ge 7, 3) := by decide +kernel
theorem dX12_termOf_13 : decode cX12_termOf 13 = .ok (.iconst 0, 1) := by decide +kernel
theorem dX12_termOf_14 : decode cX12_termOf 14 = .ok (.goto 14, 3) := by decide +kernel
theorem dX12_termOf_17 : decode cX12_termOf 17 = .ok (.aload_n 0, 1) := by decide +kernel
theorem dX12_termOf_18 : decode cX12_termOf 18 = .ok (.getfield 25, 3) := by decide +kernel
theorem dX12_termOf_21 : decode cX12_termOf 21 = .ok (.aload_n 0, 1) := by decide +kernel
theorem dX12_termOf_22 : decode cX12_termOf 22 = .ok (.getfield 82, 3) := by decide +kernel
theorem dX12_termOf_25 : decode cX12_termOf 25 = .ok (.iload_n 1, 1) := by decide +kernel
theorem dX12_termOf_26 : decode cX12_termOf 26 = .ok (.iadd, 1) := by decide +kernel
theorem dX12_termOf_27 : decode cX12_termOf 27 = .ok (.iaload, 1) := by decide +kernel
theorem dX12_termOf_28 : decode cX12_termOf 28 = .ok (.istore 5, 2) := by decide +kernel
theorem dX12_termOf_30 : decode cX12_termOf 30 = .ok (.iconst 0, 1) := by decide +kernel
theorem dX12_termOf_31 : decode cX12_termOf 31 = .ok (.istore 6, 2) := by decide +kernel
theorem dX12_termOf_33 : decode cX12_termOf 33 = .ok (.iload 6, 2) := by decide +kernel
theorem dX12_termOf_35 : decode cX12_termOf 35 = .ok (.aload_n 0, 1) := by decide +kernel
theorem dX12_termOf_36 : decode cX12_termOf 36 = .ok (.invokevirtual 96, 3) := by decide +kernel
theorem dX12_termOf_39 : decode cX12_termOf 39 = .ok (.if_icmp .ge 28, 3) := by decide +kernel
theorem dX12_termOf_42 : decode cX12_termOf 42 = .ok (.aload_n 0, 1) := by decide +kernel
theorem dX12_termOf_43 : decode cX12_termOf 43 = .ok (.iload 6, 2) := by decide +kernel
theorem dX12_termOf_45 : decode cX12_termOf 45 = .ok (.iload_n 1, 1) := by decide +kernel
theorem dX12_termOf_46 : decode cX12_termOf 46 = .ok (.iload 5, 2) := by decide +kernel
theorem dX12_termOf_48 : decode cX12_termOf 48 = .ok (.iload_n 2, 1) := by decide +kernel
theorem dX12_termOf_49 : decode cX12_termOf 49 = .ok (.iload_n 3, 1) := by decide +kernel
theorem dX12_termOf_50 : decode cX12_termOf 50 = .ok (.iload 4, 2) := by decide +kernel
theorem dX12_termOf_52 : decode cX12_termOf 52 = .ok (.invokevirtual 100, 3) := by decide +kernel
theorem dX12_termOf_55 : decode cX12_termOf 55 = .ok (.ifCond .eq 6, 3) := by decide +kernel
theorem dX12_termOf_58 : decode cX12_termOf 58 = .ok (.iload 6, 2) := by decide +kernel
theorem dX12_termOf_60 : decode cX12_termOf 60 = .ok (.ireturn, 1) := by decide +kernel
theorem dX12_termOf_61 : decode cX12_termOf 61 = .ok (.iinc 6 1, 3) := by decide +kernel
theorem dX12_termOf_64 : decode cX12_termOf 64 = .ok (.goto (-31), 3) := by decide +kernel
theorem dX12_termOf_67 : decode cX12_termOf 67 = .ok (.iconst 1, 1) := by decide +kernel
theorem dX12_termOf_68 : decode cX12_termOf 68 = .ok (.istore 6, 2) := by decide +kernel
theorem dX12_termOf_70 : decode cX12_termOf 70 = .ok (.iload 5, 2) := by decide +kernel
theorem dX12_termOf_72 : decode cX12_termOf 72 = .ok (.ifCond .le 23, 3) := by decide +kernel
theorem dX12_termOf_75 : decode cX12_termOf 75 = .ok (.iload 6, 2) := by decide +kernel
theorem dX12_termOf_77 : decode cX12_termOf 77 = .ok (.aload_n 0, 1) := by decide +kernel
theorem dX12_termOf_78 : decode cX12_termOf 78 = .ok (.getfield 19, 3) := by decide +kernel
theorem dX12_termOf_81 : decode cX12_termOf 81 = .ok (.aload_n 0, 1) := by decide +kernel
theorem dX12_termOf_82 : decode cX12_termOf 82 = .ok (.getfield 71, 3) := by decide +kernel
theorem dX12_termOf_85 : decode cX12_termOf 85 = .ok (.iload_n 2, 1) := by decide +kernel
theorem dX12_termOf_86 : decode cX12_termOf 86 = .ok (.iadd, 1) := by decide +kernel
theorem dX12_termOf_87 : decode cX12_termOf 87 = .ok (.iaload, 1) := by decide +kernel
theorem dX12_termOf_88 : decode cX12_termOf 88 = .ok (.iconst 1, 1) := by decide +kernel
theorem dX12_termOf_89 : decode cX12_termOf 89 = .ok (.iadd, 1) := by decide +kernel
theorem dX12_termOf_90 : decode cX12_termOf 90 = .ok (.invokestatic 104, 3) := by decide +kernel
theorem dX12_termOf_93 : decode cX12_termOf 93 = .ok (.istore 6, 2) := by decide +kernel
theorem dX12_termOf_95 : decode cX12_termOf 95 = .ok (.iload 5, 2) := by decide +kernel
theorem dX12_termOf_97 : decode cX12_termOf 97 = .ok (.iconst 1, 1) := by decide +kernel
theorem dX12_termOf_98 : decode cX12_termOf 98 = .ok (.if_icmp .le 23, 3) := by decide +kernel
theorem dX12_termOf_101 : decode cX12_termOf 101 = .ok (.iload 6, 2) := by decide +kernel
theorem dX12_termOf_103 : decode cX12_termOf 103 = .ok (.aload_n 0, 1) := by decide +kernel
theorem dX12_termOf_104 : decode cX12_termOf 104 = .ok (.getfield 19, 3) := by decide +kernel
theorem dX12_termOf_107 : decode cX12_termOf 107 = .ok (.aload_n 0, 1) := by decide +kernel
theorem dX12_termOf_108 : decode cX12_termOf 108 = .ok (.getfield 71, 3) := by decide +kernel
theorem dX12_termOf_111 : decode cX12_termOf 111 = .ok (.iload_n 3, 1) := by decide +kernel
theorem dX12_termOf_112 : decode cX12_termOf 112 = .ok (.iadd, 1) := by decide +kernel
theorem dX12_termOf_113 : decode cX12_termOf 113 = .ok (.iaload, 1) := by decide +kernel
theorem dX12_termOf_114 : decode cX12_termOf 114 = .ok (.iconst 1, 1) := by decide +kernel
theorem dX12_termOf_115 : decode cX12_termOf 115 = .ok (.iadd, 1) := by decide +kernel
theorem dX12_termOf_116 : decode cX12_termOf 116 = .ok (.invokestatic 104, 3) := by decide +kernel
theorem dX12_termOf_119 : decode cX12_termOf 119 = .ok (.istore 6, 2) := by decide +kernel
theorem dX12_termOf_121 : decode cX12_termOf 121 = .ok (.iload 5, 2) := by decide +kernel
theorem dX12_termOf_123 : decode cX12_termOf 123 = .ok (.iconst 2, 1) := by decide +kernel
theorem dX12_termOf_124 : decode cX12_termOf 124 = .ok (.if_icmp .le 24, 3) := by decide +kernel
theorem dX12_termOf_127 : decode cX12_termOf 127 = .ok (.iload 6, 2) := by decide +kernel
theorem dX12_termOf_129 : decode cX12_termOf 129 = .ok (.aload_n 0, 1) := by decide +kernel
theorem dX12_termOf_130 : decode cX12_termOf 130 = .ok (.getfield 19, 3) := by decide +kernel
theorem dX12_termOf_133 : decode cX12_termOf 133 = .ok (.aload_n 0, 1) := by decide +kernel
theorem dX12_termOf_134 : decode cX12_termOf 134 = .ok (.getfield 71, 3) := by decide +kernel
theorem dX12_termOf_137 : decode cX12_termOf 137 = .ok (.iload 4, 2) := by decide +kernel
theorem dX12_termOf_139 : decode cX12_termOf 139 = .ok (.iadd, 1) := by decide +kernel
theorem dX12_termOf_140 : decode cX12_termOf 140 = .ok (.iaload, 1) := by decide +kernel
theorem dX12_termOf_141 : decode cX12_termOf 141 = .ok (.iconst 1, 1) := by decide +kernel
theorem dX12_termOf_142 : decode cX12_termOf 142 = .ok (.iadd, 1) := by decide +kernel
theorem dX12_termOf_143 : decode cX12_termOf 143 = .ok (.invokestatic 104, 3) := by decide +kernel
theorem dX12_termOf_146 : decode cX12_termOf 146 = .ok (.istore 6, 2) := by decide +kernel
theorem dX12_termOf_148 : decode cX12_termOf 148 = .ok (.aload_n 0, 1) := by decide +kernel
theorem dX12_termOf_149 : decode cX12_termOf 149 = .ok (.iload 6, 2) := by decide +kernel
theorem dX12_termOf_151 : decode cX12_termOf 151 = .ok (.bipush 6, 2) := by decide +kernel
theorem dX12_termOf_153 : decode cX12_termOf 153 = .ok (.if_icmp .gt 13, 3) := by decide +kernel
theorem dX12_termOf_156 : decode cX12_termOf 156 = .ok (.aload_n 0, 1) := by decide +kernel
theorem dX12_termOf_157 : decode cX12_termOf 157 = .ok (.invokevirtual 96, 3) := by decide +kernel
theorem dX12_termOf_160 : decode cX12_termOf 160 = .ok (.sipush 400, 3) := by decide +kernel
theorem dX12_termOf_163 : decode cX12_termOf 163 = .ok (.if_icmp .ne 7, 3) := by decide +kernel
theorem dX12_termOf_166 : decode cX12_termOf 166 = .ok (.iconst 1, 1) := by decide +kernel
theorem dX12_termOf_167 : decode cX12_termOf 167 = .ok (.goto 4, 3) := by decide +kernel
theorem dX12_termOf_170 : decode cX12_termOf 170 = .ok (.iconst 0, 1) := by decide +kernel
theorem dX12_termOf_171 : decode cX12_termOf 171 = .ok (.putfield 92, 3) := by decide +kernel
theorem dX12_termOf_174 : decode cX12_termOf 174 = .ok (.aload_n 0, 1) := by decide +kernel
theorem dX12_termOf_175 : decode cX12_termOf 175 = .ok (.getfield 92, 3) := by decide +kernel
theorem dX12_termOf_178 : decode cX12_termOf 178 = .ok (.ifCond .eq 5, 3) := by decide +kernel
theorem dX12_termOf_181 : decode cX12_termOf 181 = .ok (.iconst 0, 1) := by decide +kernel
theorem dX12_termOf_182 : decode cX12_termOf 182 = .ok (.ireturn, 1) := by decide +kernel
theorem dX12_termOf_183 : decode cX12_termOf 183 = .ok (.aload_n 0, 1) := by decide +kernel
theorem dX12_termOf_184 : decode cX12_termOf 184 = .ok (.invokevirtual 96, 3) := by decide +kernel
theorem dX12_termOf_187 : decode cX12_termOf 187 = .ok (.istore 7, 2) := by decide +kernel
theorem dX12_termOf_189 : decode cX12_termOf 189 = .ok (.aload_n 0, 1) := by decide +kernel
theorem dX12_termOf_190 : decode cX12_termOf 190 = .ok (.getfield 13, 3) := by decide +kernel
theorem dX12_termOf_193 : decode cX12_termOf 193 = .ok (.aload_n 0, 1) := by decide +kernel
theorem dX12_termOf_194 : decode cX12_termOf 194 = .ok (.getfield 71, 3) := by decide +kernel
theorem dX12_termOf_197 : decode cX12_termOf 197 = .ok (.iload 7, 2) := by decide +kernel
theorem dX12_termOf_199 : decode cX12_termOf 199 = .ok (.iadd, 1) := by decide +kernel
theorem dX12_termOf_200 : decode cX12_termOf 200 = .ok (.iload_n 1, 1) := by decide +kernel
theorem dX12_termOf_201 : decode cX12_termOf 201 = .ok (.iastore, 1) := by decide +kernel
theorem dX12_termOf_202 : decode cX12_termOf 202 = .ok (.aload_n 0, 1) := by decide +kernel
theorem dX12_termOf_203 : decode cX12_termOf 203 = .ok (.getfield 16, 3) := by decide +kernel
theorem dX12_termOf_206 : decode cX12_termOf 206 = .ok (.iconst 3, 1) := by decide +kernel
theorem dX12_termOf_207 : decode cX12_termOf 207 = .ok (.aload_n 0, 1) := by decide +kernel
theorem dX12_termOf_208 : decode cX12_termOf 208 = .ok (.getfield 71, 3) := by decide +kernel
theorem dX12_termOf_211 : decode cX12_termOf 211 = .ok (.iload 7, 2) := by decide +kernel
theorem dX12_termOf_213 : decode cX12_termOf 213 = .ok (.iadd, 1) := by decide +kernel
theorem dX12_termOf_214 : decode cX12_termOf 214 = .ok (.imul, 1) := by decide +kernel
theorem dX12_termOf_215 : decode cX12_termOf 215 = .ok (.iload 5, 2) := by decide +kernel
theorem dX12_termOf_217 : decode cX12_termOf 217 = .ok (.ifCond .le 7, 3) := by decide +kernel
theorem dX12_termOf_220 : decode cX12_termOf 220 = .ok (.iload_n 2, 1) := by decide +kernel
theorem dX12_termOf_221 : decode cX12_termOf 221 = .ok (.goto 4, 3) := by decide +kernel
theorem dX12_termOf_224 : decode cX12_termOf 224 = .ok (.iconst (-1), 1) := by decide +kernel
theorem dX12_termOf_225 : decode cX12_termOf 225 = .ok (.iastore, 1) := by decide +kernel
theorem dX12_termOf_226 : decode cX12_termOf 226 = .ok (.aload_n 0, 1) := by decide +kernel
theorem dX12_termOf_227 : decode cX12_termOf 227 = .ok (.getfield 16, 3) := by decide +kernel
theorem dX12_termOf_230 : decode cX12_termOf 230 = .ok (.iconst 3, 1) := by decide +kernel
theorem dX12_termOf_231 : decode cX12_termOf 231 = .ok (.aload_n 0, 1) := by decide +kernel
theorem dX12_termOf_232 : decode cX12_termOf 232 = .ok (.getfield 71, 3) := by decide +kernel
theorem dX12_termOf_235 : decode cX12_termOf 235 = .ok (.iload 7, 2) := by decide +kernel
theorem dX12_termOf_237 : decode cX12_termOf 237 = .ok (.iadd, 1) := by decide +kernel
theorem dX12_termOf_238 : decode cX12_termOf 238 = .ok (.imul, 1) := by decide +kernel
theorem dX12_termOf_239 : decode cX12_termOf 239 = .ok (.iconst 1, 1) := by decide +kernel
theorem dX12_termOf_240 : decode cX12_termOf 240 = .ok (.iadd, 1) := by decide +kernel
theorem dX12_termOf_241 : decode cX12_termOf 241 = .ok (.iload 5, 2) := by decide +kernel
theorem dX12_termOf_243 : decode cX12_termOf 243 = .ok (.iconst 1, 1) := by decide +kernel
theorem dX12_termOf_244 : decode cX12_termOf 244 = .ok (.if_icmp .le 7, 3) := by decide +kernel
theorem dX12_termOf_247 : decode cX12_termOf 247 = .ok (.iload_n 3, 1) := by decide +kernel
theorem dX12_termOf_248 : decode cX12_termOf 248 = .ok (.goto 4, 3) := by decide +kernel
theorem dX12_termOf_251 : decode cX12_termOf 251 = .ok (.iconst (-1), 1) := by decide +kernel
theorem dX12_termOf_252 : decode cX12_termOf 252 = .ok (.iastore, 1) := by decide +kernel
theorem dX12_termOf_253 : decode cX12_termOf 253 = .ok (.aload_n 0, 1) := by decide +kernel
theorem dX12_termOf_254 : decode cX12_termOf 254 = .ok (.getfield 16, 3) := by decide +kernel
theorem dX12_termOf_257 : decode cX12_termOf 257 = .ok (.iconst 3, 1) := by decide +kernel
theorem dX12_termOf_258 : decode cX12_termOf 258 = .ok (.aload_n 0, 1) := by decide +kernel
theorem dX12_termOf_259 : decode cX12_termOf 259 = .ok (.getfield 71, 3) := by decide +kernel
theorem dX12_termOf_262 : decode cX12_termOf 262 = .ok (.iload 7, 2) := by decide +kernel
theorem dX12_termOf_264 : decode cX12_termOf 264 = .ok (.iadd, 1) := by decide +kernel
theorem dX12_termOf_265 : decode cX12_termOf 265 = .ok (.imul, 1) := by decide +kernel
theorem dX12_termOf_266 : decode cX12_termOf 266 = .ok (.iconst 2, 1) := by decide +kernel
theorem dX12_termOf_267 : decode cX12_termOf 267 = .ok (.iadd, 1) := by decide +kernel
theorem dX12_termOf_268 : decode cX12_termOf 268 = .ok (.iload 5, 2) := by decide +kernel
theorem dX12_termOf_270 : decode cX12_termOf 270 = .ok (.iconst 2, 1) := by decide +kernel
theorem dX12_termOf_271 : decode cX12_termOf 271 = .ok (.if_icmp .le 8, 3) := by decide +kernel
theorem dX12_termOf_274 : decode cX12_termOf 274 = .ok (.iload 4, 2) := by decide +kernel
theorem dX12_termOf_276 : decode cX12_termOf 276 = .ok (.goto 4, 3) := by decide +kernel
theorem dX12_termOf_279 : decode cX12_termOf 279 = .ok (.iconst (-1), 1) := by decide +kernel
theorem dX12_termOf_280 : decode cX12_termOf 280 = .ok (.iastore, 1) := by decide +kernel
theorem dX12_termOf_281 : decode cX12_termOf 281 = .ok (.aload_n 0, 1) := by decide +kernel
theorem dX12_termOf_282 : decode cX12_termOf 282 = .ok (.getfield 19, 3) := by decide +kernel
theorem dX12_termOf_285 : decode cX12_termOf 285 = .ok (.aload_n 0, 1) := by decide +kernel
theorem dX12_termOf_286 : decode cX12_termOf 286 = .ok (.getfield 71, 3) := by decide +kernel
theorem dX12_termOf_289 : decode cX12_termOf 289 = .ok (.iload 7, 2) := by decide +kernel
theorem dX12_termOf_291 : decode cX12_termOf 291 = .ok (.iadd, 1) := by decide +kernel
theorem dX12_termOf_292 : decode cX12_termOf 292 = .ok (.iload 6, 2) := by decide +kernel
theorem dX12_termOf_294 : decode cX12_termOf 294 = .ok (.iastore, 1) := by decide +kernel
theorem dX12_termOf_295 : decode cX12_termOf 295 = .ok (.aload_n 0, 1) := by decide +kernel
theorem dX12_termOf_296 : decode cX12_termOf 296 = .ok (.getfield 9, 3) := by decide +kernel
theorem dX12_termOf_299 : decode cX12_termOf 299 = .ok (.aload_n 0, 1) := by decide +kernel
theorem dX12_termOf_300 : decode cX12_termOf 300 = .ok (.getfield 85, 3) := by decide +kernel
theorem dX12_termOf_303 : decode cX12_termOf 303 = .ok (.iconst 0, 1) := by decide +kernel
theorem dX12_termOf_304 : decode cX12_termOf 304 = .ok (.iadd, 1) := by decide +kernel
theorem dX12_termOf_305 : decode cX12_termOf 305 = .ok (.dup2, 1) := by decide +kernel
theorem dX12_termOf_306 : decode cX12_termOf 306 = .ok (.iaload, 1) := by decide +kernel
theorem dX12_termOf_307 : decode cX12_termOf 307 = .ok (.iconst 1, 1) := by decide +kernel
theorem dX12_termOf_308 : decode cX12_termOf 308 = .ok (.iadd, 1) := by decide +kernel
theorem dX12_termOf_309 : decode cX12_termOf 309 = .ok (.iastore, 1) := by decide +kernel
theorem dX12_termOf_310 : decode cX12_termOf 310 = .ok (.iload 7, 2) := by decide +kernel
theorem dX12_termOf_312 : decode cX12_termOf 312 = .ok (.ireturn, 1) := by decide +kernel
theorem dX12_variableTerm_0 : decode cX12_variableTerm 0 = .ok (.aload_n 0, 1) := by decide +kernel
theorem dX12_variableTerm_1 : decode cX12_variableTerm 1 = .ok (.iconst (-1), 1) := by decide +kernel
theorem dX12_variableTerm_2 : decode cX12_variableTerm 2 = .ok (.iload_n 1, 1) := by decide +kernel
theorem dX12_variableTerm_3 : decode cX12_variableTerm 3 = .ok (.isub, 1) := by decide +kernel
theorem dX12_variableTerm_4 : decode cX12_variableTerm 4 = .ok (.iconst 0, 1) := by decide +kernel
theorem dX12_variableTerm_5 : decode cX12_variableTerm 5 = .ok (.iconst 0, 1) := by decide +kernel
theorem dX12_variableTerm_6 : decode cX12_variableTerm 6 = .ok (.iconst 0, 1) := by decide +kernel
theorem dX12_variableTerm_7 : decode cX12_variableTerm 7 = .ok (.invokevirtual 107, 3) := by decide +kernel
theorem dX12_variableTerm_10 : decode cX12_variableTerm 10 = .ok (.ireturn, 1) := by decide +kernel
theorem dX12_sizeOf_0 : decode cX12_sizeOf 0 = .ok (.iconst 1, 1) := by decide +kernel
theorem dX12_sizeOf_1 : decode cX12_sizeOf 1 = .ok (.istore_n 2, 1) := by decide +kernel
theorem dX12_sizeOf_2 : decode cX12_sizeOf 2 = .ok (.iconst 0, 1) := by decide +kernel
theorem dX12_sizeOf_3 : decode cX12_sizeOf 3 = .ok (.istore_n 3, 1) := by decide +kernel
theorem dX12_sizeOf_4 : decode cX12_sizeOf 4 = .ok (.iload_n 3, 1) := by decide +kernel
theorem dX12_sizeOf_5 : decode cX12_sizeOf 5 = .ok (.aload_n 0, 1) := by decide +kernel
theorem dX12_sizeOf_6 : decode cX12_sizeOf 6 = .ok (.iload_n 1, 1) := by decide +kernel
theorem dX12_sizeOf_7 : decode cX12_sizeOf 7 = .ok (.invokevirtual 111, 3) := by decide +kernel
theorem dX12_sizeOf_10 : decode cX12_sizeOf 10 = .ok (.if_icmp .ge 22, 3) := by decide +kernel
theorem dX12_sizeOf_13 : decode cX12_sizeOf 13 = .ok (.iload_n 2, 1) := by decide +kernel
theorem dX12_sizeOf_14 : decode cX12_sizeOf 14 = .ok (.aload_n 0, 1) := by decide +kernel
theorem dX12_sizeOf_15 : decode cX12_sizeOf 15 = .ok (.aload_n 0, 1) := by decide +kernel
theorem dX12_sizeOf_16 : decode cX12_sizeOf 16 = .ok (.iload_n 1, 1) := by decide +kernel
theorem dX12_sizeOf_17 : decode cX12_sizeOf 17 = .ok (.iload_n 3, 1) := by decide +kernel
theorem dX12_sizeOf_18 : decode cX12_sizeOf 18 = .ok (.invokevirtual 88, 3) := by decide +kernel
theorem dX12_sizeOf_21 : decode cX12_sizeOf 21 = .ok (.invokevirtual 114, 3) := by decide +kernel
theorem dX12_sizeOf_24 : decode cX12_sizeOf 24 = .ok (.iadd, 1) := by decide +kernel
theorem dX12_sizeOf_25 : decode cX12_sizeOf 25 = .ok (.istore_n 2, 1) := by decide +kernel
theorem dX12_sizeOf_26 : decode cX12_sizeOf 26 = .ok (.iinc 3 1, 3) := by decide +kernel
theorem dX12_sizeOf_29 : decode cX12_sizeOf 29 = .ok (.goto (-25), 3) := by decide +kernel
theorem dX12_sizeOf_32 : decode cX12_sizeOf 32 = .ok (.iload_n 2, 1) := by decide +kernel
theorem dX12_sizeOf_33 : decode cX12_sizeOf 33 = .ok (.ireturn, 1) := by decide +kernel
theorem dX12_weightOf_0 : decode cX12_weightOf 0 = .ok (.aload_n 0, 1) := by decide +kernel
theorem dX12_weightOf_1 : decode cX12_weightOf 1 = .ok (.iload_n 1, 1) := by decide +kernel
theorem dX12_weightOf_2 : decode cX12_weightOf 2 = .ok (.invokevirtual 117, 3) := by decide +kernel
theorem dX12_weightOf_5 : decode cX12_weightOf 5 = .ok (.istore_n 2, 1) := by decide +kernel
theorem dX12_weightOf_6 : decode cX12_weightOf 6 = .ok (.iconst 0, 1) := by decide +kernel
theorem dX12_weightOf_7 : decode cX12_weightOf 7 = .ok (.istore_n 3, 1) := by decide +kernel
theorem dX12_weightOf_8 : decode cX12_weightOf 8 = .ok (.iload_n 3, 1) := by decide +kernel
theorem dX12_weightOf_9 : decode cX12_weightOf 9 = .ok (.aload_n 0, 1) := by decide +kernel
theorem dX12_weightOf_10 : decode cX12_weightOf 10 = .ok (.iload_n 1, 1) := by decide +kernel
theorem dX12_weightOf_11 : decode cX12_weightOf 11 = .ok (.invokevirtual 111, 3) := by decide +kernel
theorem dX12_weightOf_14 : decode cX12_weightOf 14 = .ok (.if_icmp .ge 22, 3) := by decide +kernel
theorem dX12_weightOf_17 : decode cX12_weightOf 17 = .ok (.iload_n 2, 1) := by decide +kernel
theorem dX12_weightOf_18 : decode cX12_weightOf 18 = .ok (.aload_n 0, 1) := by decide +kernel
theorem dX12_weightOf_19 : decode cX12_weightOf 19 = .ok (.aload_n 0, 1) := by decide +kernel
theorem dX12_weightOf_20 : decode cX12_weightOf 20 = .ok (.iload_n 1, 1) := by decide +kernel
theorem dX12_weightOf_21 : decode cX12_weightOf 21 = .ok (.iload_n 3, 1) := by decide +kernel
theorem dX12_weightOf_22 : decode cX12_weightOf 22 = .ok (.invokevirtual 88, 3) := by decide +kernel
theorem dX12_weightOf_25 : decode cX12_weightOf 25 = .ok (.invokevirtual 120, 3) := by decide +kernel
theorem dX12_weightOf_28 : decode cX12_weightOf 28 = .ok (.iadd, 1) := by decide +kernel
theorem dX12_weightOf_29 : decode cX12_weightOf 29 = .ok (.istore_n 2, 1) := by decide +kernel
theorem dX12_weightOf_30 : decode cX12_weightOf 30 = .ok (.iinc 3 1, 3) := by decide +kernel
theorem dX12_weightOf_33 : decode cX12_weightOf 33 = .ok (.goto (-25), 3) := by decide +kernel
theorem dX12_weightOf_36 : decode cX12_weightOf 36 = .ok (.iload_n 2, 1) := by decide +kernel
theorem dX12_weightOf_37 : decode cX12_weightOf 37 = .ok (.ireturn, 1) := by decide +kernel
theorem dX12_variablesIn_0 : decode cX12_variablesIn 0 = .ok (.aload_n 0, 1) := by decide +kernel
theorem dX12_variablesIn_1 : decode cX12_variablesIn 1 = .ok (.iload_n 1, 1) := by decide +kernel
theorem dX12_variablesIn_2 : decode cX12_variablesIn 2 = .ok (.invokevirtual 78, 3) := by decide +kernel
theorem dX12_variablesIn_5 : decode cX12_variablesIn 5 = .ok (.ifCond .eq 13, 3) := by decide +kernel
theorem dX12_variablesIn_8 : decode cX12_variablesIn 8 = .ok (.iconst 1, 1) := by decide +kernel
theorem dX12_variablesIn_9 : decode cX12_variablesIn 9 = .ok (.aload_n 0, 1) := by decide +kernel
theorem dX12_variablesIn_10 : decode cX12_variablesIn 10 = .ok (.iload_n 1, 1) := by decide +kernel
theorem dX12_variablesIn_11 : decode cX12_variablesIn 11 = .ok (.invokevirtual 123, 3) := by decide +kernel
theorem dX12_variablesIn_14 : decode cX12_variablesIn 14 = .ok (.ishl, 1) := by decide +kernel
theorem dX12_variablesIn_15 : decode cX12_variablesIn 15 = .ok (.goto 4, 3) := by decide +kernel
theorem dX12_variablesIn_18 : decode cX12_variablesIn 18 = .ok (.iconst 0, 1) := by decide +kernel
theorem dX12_variablesIn_19 : decode cX12_variablesIn 19 = .ok (.istore_n 2, 1) := by decide +kernel
theorem dX12_variablesIn_20 : decode cX12_variablesIn 20 = .ok (.iconst 0, 1) := by decide +kernel
theorem dX12_variablesIn_21 : decode cX12_variablesIn 21 = .ok (.istore_n 3, 1) := by decide +kernel
theorem dX12_variablesIn_22 : decode cX12_variablesIn 22 = .ok (.iload_n 3, 1) := by decide +kernel
theorem dX12_variablesIn_23 : decode cX12_variablesIn 23 = .ok (.aload_n 0, 1) := by decide +kernel
theorem dX12_variablesIn_24 : decode cX12_variablesIn 24 = .ok (.iload_n 1, 1) := by decide +kernel
theorem dX12_variablesIn_25 : decode cX12_variablesIn 25 = .ok (.invokevirtual 111, 3) := by decide +kernel
theorem dX12_variablesIn_28 : decode cX12_variablesIn 28 = .ok (.if_icmp .ge 22, 3) := by decide +kernel
theorem dX12_variablesIn_31 : decode cX12_variablesIn 31 = .ok (.iload_n 2, 1) := by decide +kernel
theorem dX12_variablesIn_32 : decode cX12_variablesIn 32 = .ok (.aload_n 0, 1) := by decide +kernel
theorem dX12_variablesIn_33 : decode cX12_variablesIn 33 = .ok (.aload_n 0, 1) := by decide +kernel
theorem dX12_variablesIn_34 : decode cX12_variablesIn 34 = .ok (.iload_n 1, 1) := by decide +kernel
theorem dX12_variablesIn_35 : decode cX12_variablesIn 35 = .ok (.iload_n 3, 1) := by decide +kernel
theorem dX12_variablesIn_36 : decode cX12_variablesIn 36 = .ok (.invokevirtual 88, 3) := by decide +kernel
theorem dX12_variablesIn_39 : decode cX12_variablesIn 39 = .ok (.invokevirtual 126, 3) := by decide +kernel
theorem dX12_variablesIn_42 : decode cX12_variablesIn 42 = .ok (.ior, 1) := by decide +kernel
theorem dX12_variablesIn_43 : decode cX12_variablesIn 43 = .ok (.istore_n 2, 1) := by decide +kernel
theorem dX12_variablesIn_44 : decode cX12_variablesIn 44 = .ok (.iinc 3 1, 3) := by decide +kernel
theorem dX12_variablesIn_47 : decode cX12_variablesIn 47 = .ok (.goto (-25), 3) := by decide +kernel
theorem dX12_variablesIn_50 : decode cX12_variablesIn 50 = .ok (.iload_n 2, 1) := by decide +kernel
theorem dX12_variablesIn_51 : decode cX12_variablesIn 51 = .ok (.ireturn, 1) := by decide +kernel
theorem dX12_timesOf_0 : decode cX12_timesOf 0 = .ok (.aload_n 0, 1) := by decide +kernel
theorem dX12_timesOf_1 : decode cX12_timesOf 1 = .ok (.iload_n 1, 1) := by decide +kernel
theorem dX12_timesOf_2 : decode cX12_timesOf 2 = .ok (.invokevirtual 78, 3) := by decide +kernel
theorem dX12_timesOf_5 : decode cX12_timesOf 5 = .ok (.ifCond .eq 16, 3) := by decide +kernel
theorem dX12_timesOf_8 : decode cX12_timesOf 8 = .ok (.aload_n 0, 1) := by decide +kernel
theorem dX12_timesOf_9 : decode cX12_timesOf 9 = .ok (.iload_n 1, 1) := by decide +kernel
theorem dX12_timesOf_10 : decode cX12_timesOf 10 = .ok (.invokevirtual 123, 3) := by decide +kernel
theorem dX12_timesOf_13 : decode cX12_timesOf 13 = .ok (.iload_n 2, 1) := by decide +kernel
theorem dX12_timesOf_14 : decode cX12_timesOf 14 = .ok (.if_icmp .ne 7, 3) := by decide +kernel
theorem dX12_timesOf_17 : decode cX12_timesOf 17 = .ok (.iconst 1, 1) := by decide +kernel
theorem dX12_timesOf_18 : decode cX12_timesOf 18 = .ok (.goto 4, 3) := by decide +kernel
theorem dX12_timesOf_21 : decode cX12_timesOf 21 = .ok (.iconst 0, 1) := by decide +kernel
theorem dX12_timesOf_22 : decode cX12_timesOf 22 = .ok (.istore_n 3, 1) := by decide +kernel
theorem dX12_timesOf_23 : decode cX12_timesOf 23 = .ok (.iconst 0, 1) := by decide +kernel
theorem dX12_timesOf_24 : decode cX12_timesOf 24 = .ok (.istore 4, 2) := by decide +kernel
theorem dX12_timesOf_26 : decode cX12_timesOf 26 = .ok (.iload 4, 2) := by decide +kernel
theorem dX12_timesOf_28 : decode cX12_timesOf 28 = .ok (.aload_n 0, 1) := by decide +kernel
theorem dX12_timesOf_29 : decode cX12_timesOf 29 = .ok (.iload_n 1, 1) := by decide +kernel
theorem dX12_timesOf_30 : decode cX12_timesOf 30 = .ok (.invokevirtual 111, 3) := by decide +kernel
theorem dX12_timesOf_33 : decode cX12_timesOf 33 = .ok (.if_icmp .ge 24, 3) := by decide +kernel
theorem dX12_timesOf_36 : decode cX12_timesOf 36 = .ok (.iload_n 3, 1) := by decide +kernel
theorem dX12_timesOf_37 : decode cX12_timesOf 37 = .ok (.aload_n 0, 1) := by decide +kernel
theorem dX12_timesOf_38 : decode cX12_timesOf 38 = .ok (.aload_n 0, 1) := by decide +kernel
theorem dX12_timesOf_39 : decode cX12_timesOf 39 = .ok (.iload_n 1, 1) := by decide +kernel
theorem dX12_timesOf_40 : decode cX12_timesOf 40 = .ok (.iload 4, 2) := by decide +kernel
theorem dX12_timesOf_42 : decode cX12_timesOf 42 = .ok (.invokevirtual 88, 3) := by decide +kernel
theorem dX12_timesOf_45 : decode cX12_timesOf 45 = .ok (.iload_n 2, 1) := by decide +kernel
theorem dX12_timesOf_46 : decode cX12_timesOf 46 = .ok (.invokevirtual 129, 3) := by decide +kernel
theorem dX12_timesOf_49 : decode cX12_timesOf 49 = .ok (.iadd, 1) := by decide +kernel
theorem dX12_timesOf_50 : decode cX12_timesOf 50 = .ok (.istore_n 3, 1) := by decide +kernel
theorem dX12_timesOf_51 : decode cX12_timesOf 51 = .ok (.iinc 4 1, 3) := by decide +kernel
theorem dX12_timesOf_54 : decode cX12_timesOf 54 = .ok (.goto (-28), 3) := by decide +kernel
theorem dX12_timesOf_57 : decode cX12_timesOf 57 = .ok (.iload_n 3, 1) := by decide +kernel
theorem dX12_timesOf_58 : decode cX12_timesOf 58 = .ok (.ireturn, 1) := by decide +kernel
theorem dX12_isIn_0 : decode cX12_isIn 0 = .ok (.iload_n 1, 1) := by decide +kernel
theorem dX12_isIn_1 : decode cX12_isIn 1 = .ok (.iload_n 2, 1) := by decide +kernel
theorem dX12_isIn_2 : decode cX12_isIn 2 = .ok (.if_icmp .ne 5, 3) := by decide +kernel
theorem dX12_isIn_5 : decode cX12_isIn 5 = .ok (.iconst 1, 1) := by decide +kernel
theorem dX12_isIn_6 : decode cX12_isIn 6 = .ok (.ireturn, 1) := by decide +kernel
theorem dX12_isIn_7 : decode cX12_isIn 7 = .ok (.iconst 0, 1) := by decide +kernel
theorem dX12_isIn_8 : decode cX12_isIn 8 = .ok (.istore_n 3, 1) := by decide +kernel
theorem dX12_isIn_9 : decode cX12_isIn 9 = .ok (.iload_n 3, 1) := by decide +kernel
theorem dX12_isIn_10 : decode cX12_isIn 10 = .ok (.aload_n 0, 1) := by decide +kernel
theorem dX12_isIn_11 : decode cX12_isIn 11 = .ok (.iload_n 2, 1) := by decide +kernel
theorem dX12_isIn_12 : decode cX12_isIn 12 = .ok (.invokevirtual 111, 3) := by decide +kernel
theorem dX12_isIn_15 : decode cX12_isIn 15 = .ok (.if_icmp .ge 25, 3) := by decide +kernel
theorem dX12_isIn_18 : decode cX12_isIn 18 = .ok (.aload_n 0, 1) := by decide +kernel
theorem dX12_isIn_19 : decode cX12_isIn 19 = .ok (.iload_n 1, 1) := by decide +kernel
theorem dX12_isIn_20 : decode cX12_isIn 20 = .ok (.aload_n 0, 1) := by decide +kernel
theorem dX12_isIn_21 : decode cX12_isIn 21 = .ok (.iload_n 2, 1) := by decide +kernel
theorem dX12_isIn_22 : decode cX12_isIn 22 = .ok (.iload_n 3, 1) := by decide +kernel
theorem dX12_isIn_23 : decode cX12_isIn 23 = .ok (.invokevirtual 88, 3) := by decide +kernel
theorem dX12_isIn_26 : decode cX12_isIn 26 = .ok (.invokevirtual 132, 3) := by decide +kernel
theorem dX12_isIn_29 : decode cX12_isIn 29 = .ok (.ifCond .eq 5, 3) := by decide +kernel
theorem dX12_isIn_32 : decode cX12_isIn 32 = .ok (.iconst 1, 1) := by decide +kernel
theorem dX12_isIn_33 : decode cX12_isIn 33 = .ok (.ireturn, 1) := by decide +kernel
theorem dX12_isIn_34 : decode cX12_isIn 34 = .ok (.iinc 3 1, 3) := by decide +kernel
theorem dX12_isIn_37 : decode cX12_isIn 37 = .ok (.goto (-28), 3) := by decide +kernel
theorem dX12_isIn_40 : decode cX12_isIn 40 = .ok (.iconst 0, 1) := by decide +kernel
theorem dX12_isIn_41 : decode cX12_isIn 41 = .ok (.ireturn, 1) := by decide +kernel
theorem dX12_sharedOf_0 : decode cX12_sharedOf 0 = .ok (.iconst 0, 1) := by decide +kernel
theorem dX12_sharedOf_1 : decode cX12_sharedOf 1 = .ok (.istore_n 2, 1) := by decide +kernel
theorem dX12_sharedOf_2 : decode cX12_sharedOf 2 = .ok (.iconst 0, 1) := by decide +kernel
theorem dX12_sharedOf_3 : decode cX12_sharedOf 3 = .ok (.istore_n 3, 1) := by decide +kernel
theorem dX12_sharedOf_4 : decode cX12_sharedOf 4 = .ok (.iload_n 3, 1) := by decide +kernel
theorem dX12_sharedOf_5 : decode cX12_sharedOf 5 = .ok (.aload_n 0, 1) := by decide +kernel
theorem dX12_sharedOf_6 : decode cX12_sharedOf 6 = .ok (.invokevirtual 96, 3) := by decide +kernel
theorem dX12_sharedOf_9 : decode cX12_sharedOf 9 = .ok (.if_icmp .ge 21, 3) := by decide +kernel
theorem dX12_sharedOf_12 : decode cX12_sharedOf 12 = .ok (.aload_n 0, 1) := by decide +kernel
theorem dX12_sharedOf_13 : decode cX12_sharedOf 13 = .ok (.iload_n 3, 1) := by decide +kernel
theorem dX12_sharedOf_14 : decode cX12_sharedOf 14 = .ok (.iload_n 1, 1) := by decide +kernel
theorem dX12_sharedOf_15 : decode cX12_sharedOf 15 = .ok (.invokevirtual 132, 3) := by decide +kernel
theorem dX12_sharedOf_18 : decode cX12_sharedOf 18 = .ok (.ifCond .eq 6, 3) := by decide +kernel
theorem dX12_sharedOf_21 : decode cX12_sharedOf 21 = .ok (.iinc 2 1, 3) := by decide +kernel
theorem dX12_sharedOf_24 : decode cX12_sharedOf 24 = .ok (.iinc 3 1, 3) := by decide +kernel
theorem dX12_sharedOf_27 : decode cX12_sharedOf 27 = .ok (.goto (-23), 3) := by decide +kernel
theorem dX12_sharedOf_30 : decode cX12_sharedOf 30 = .ok (.iload_n 2, 1) := by decide +kernel
theorem dX12_sharedOf_31 : decode cX12_sharedOf 31 = .ok (.ireturn, 1) := by decide +kernel
theorem dX12_isShape_0 : decode cX12_isShape 0 = .ok (.aload_n 0, 1) := by decide +kernel
theorem dX12_isShape_1 : decode cX12_isShape 1 = .ok (.iload_n 1, 1) := by decide +kernel
theorem dX12_isShape_2 : decode cX12_isShape 2 = .ok (.invokevirtual 78, 3) := by decide +kernel
theorem dX12_isShape_5 : decode cX12_isShape 5 = .ok (.ifCond .ne 11, 3) := by decide +kernel
theorem dX12_isShape_8 : decode cX12_isShape 8 = .ok (.aload_n 0, 1) := by decide +kernel
theorem dX12_isShape_9 : decode cX12_isShape 9 = .ok (.iload_n 2, 1) := by decide +kernel
theorem dX12_isShape_10 : decode cX12_isShape 10 = .ok (.invokevirtual 78, 3) := by decide +kernel
theorem dX12_isShape_13 : decode cX12_isShape 13 = .ok (.ifCond .eq 25, 3) := by decide +kernel
theorem dX12_isShape_16 : decode cX12_isShape 16 = .ok (.aload_n 0, 1) := by decide +kernel
theorem dX12_isShape_17 : decode cX12_isShape 17 = .ok (.iload_n 1, 1) := by decide +kernel
theorem dX12_isShape_18 : decode cX12_isShape 18 = .ok (.invokevirtual 78, 3) := by decide +kernel
theorem dX12_isShape_21 : decode cX12_isShape 21 = .ok (.ifCond .eq 15, 3) := by decide +kernel
theorem dX12_isShape_24 : decode cX12_isShape 24 = .ok (.aload_n 0, 1) := by decide +kernel
theorem dX12_isShape_25 : decode cX12_isShape 25 = .ok (.iload_n 2, 1) := by decide +kernel
theorem dX12_isShape_26 : decode cX12_isShape 26 = .ok (.invokevirtual 78, 3) := by decide +kernel
theorem dX12_isShape_29 : decode cX12_isShape 29 = .ok (.ifCond .eq 7, 3) := by decide +kernel
theorem dX12_isShape_32 : decode cX12_isShape 32 = .ok (.iconst 1, 1) := by decide +kernel
theorem dX12_isShape_33 : decode cX12_isShape 33 = .ok (.goto 4, 3) := by decide +kernel
theorem dX12_isShape_36 : decode cX12_isShape 36 = .ok (.iconst 0, 1) := by decide +kernel
theorem dX12_isShape_37 : decode cX12_isShape 37 = .ok (.ireturn, 1) := by decide +kernel
theorem dX12_isShape_38 : decode cX12_isShape 38 = .ok (.aload_n 0, 1) := by decide +kernel
theorem dX12_isShape_39 : decode cX12_isShape 39 = .ok (.iload_n 1, 1) := by decide +kernel
theorem dX12_isShape_40 : decode cX12_isShape 40 = .ok (.invokevirtual 74, 3) := by decide +kernel
theorem dX12_isShape_43 : decode cX12_isShape 43 = .ok (.aload_n 0, 1) := by decide +kernel
theorem dX12_isShape_44 : decode cX12_isShape 44 = .ok (.iload_n 2, 1) := by decide +kernel
theorem dX12_isShape_45 : decode cX12_isShape 45 = .ok (.invokevirtual 74, 3) := by decide +kernel
theorem dX12_isShape_48 : decode cX12_isShape 48 = .ok (.if_icmp .eq 5, 3) := by decide +kernel
theorem dX12_isShape_51 : decode cX12_isShape 51 = .ok (.iconst 0, 1) := by decide +kernel
theorem dX12_isShape_52 : decode cX12_isShape 52 = .ok (.ireturn, 1) := by decide +kernel
theorem dX12_isShape_53 : decode cX12_isShape 53 = .ok (.iconst 0, 1) := by decide +kernel
theorem dX12_isShape_54 : decode cX12_isShape 54 = .ok (.istore_n 3, 1) := by decide +kernel
theorem dX12_isShape_55 : decode cX12_isShape 55 = .ok (.iload_n 3, 1) := by decide +kernel
theorem dX12_isShape_56 : decode cX12_isShape 56 = .ok (.aload_n 0, 1) := by decide +kernel
theorem dX12_isShape_57 : decode cX12_isShape 57 = .ok (.iload_n 1, 1) := by decide +kernel
theorem dX12_isShape_58 : decode cX12_isShape 58 = .ok (.invokevirtual 111, 3) := by decide +kernel
theorem dX12_isShape_61 : decode cX12_isShape 61 = .ok (.if_icmp .ge 30, 3) := by decide +kernel
theorem dX12_isShape_64 : decode cX12_isShape 64 = .ok (.aload_n 0, 1) := by decide +kernel
theorem dX12_isShape_65 : decode cX12_isShape 65 = .ok (.aload_n 0, 1) := by decide +kernel
theorem dX12_isShape_66 : decode cX12_isShape 66 = .ok (.iload_n 1, 1) := by decide +kernel
theorem dX12_isShape_67 : decode cX12_isShape 67 = .ok (.iload_n 3, 1) := by decide +kernel
theorem dX12_isShape_68 : decode cX12_isShape 68 = .ok (.invokevirtual 88, 3) := by decide +kernel
theorem dX12_isShape_71 : decode cX12_isShape 71 = .ok (.aload_n 0, 1) := by decide +kernel
theorem dX12_isShape_72 : decode cX12_isShape 72 = .ok (.iload_n 2, 1) := by decide +kernel
theorem dX12_isShape_73 : decode cX12_isShape 73 = .ok (.iload_n 3, 1) := by decide +kernel
theorem dX12_isShape_74 : decode cX12_isShape 74 = .ok (.invokevirtual 88, 3) := by decide +kernel
theorem dX12_isShape_77 : decode cX12_isShape 77 = .ok (.invokevirtual 136, 3) := by decide +kernel
theorem dX12_isShape_80 : decode cX12_isShape 80 = .ok (.ifCond .ne 5, 3) := by decide +kernel
theorem dX12_isShape_83 : decode cX12_isShape 83 = .ok (.iconst 0, 1) := by decide +kernel
theorem dX12_isShape_84 : decode cX12_isShape 84 = .ok (.ireturn, 1) := by decide +kernel
theorem dX12_isShape_85 : decode cX12_isShape 85 = .ok (.iinc 3 1, 3) := by decide +kernel
theorem dX12_isShape_88 : decode cX12_isShape 88 = .ok (.goto (-33), 3) := by decide +kernel
theorem dX12_isShape_91 : decode cX12_isShape 91 = .ok (.iconst 1, 1) := by decide +kernel
theorem dX12_isShape_92 : decode cX12_isShape 92 = .ok (.ireturn, 1) := by decide +kernel
theorem dX12_shapes_0 : decode cX12_shapes 0 = .ok (.iconst 0, 1) := by decide +kernel
theorem dX12_shapes_1 : decode cX12_shapes 1 = .ok (.istore_n 1, 1) := by decide +kernel
theorem dX12_shapes_2 : decode cX12_shapes 2 = .ok (.iconst 0, 1) := by decide +kernel
theorem dX12_shapes_3 : decode cX12_shapes 3 = .ok (.istore_n 2, 1) := by decide +kernel
theorem dX12_shapes_4 : decode cX12_shapes 4 = .ok (.iload_n 2, 1) := by decide +kernel
theorem dX12_shapes_5 : decode cX12_shapes 5 = .ok (.aload_n 0, 1) := by decide +kernel
theorem dX12_shapes_6 : decode cX12_shapes 6 = .ok (.invokevirtual 96, 3) := by decide +kernel
theorem dX12_shapes_9 : decode cX12_shapes 9 = .ok (.if_icmp .ge 58, 3) := by decide +kernel
theorem dX12_shapes_12 : decode cX12_shapes 12 = .ok (.iconst 1, 1) := by decide +kernel
theorem dX12_shapes_13 : decode cX12_shapes 13 = .ok (.istore_n 3, 1) := by decide +kernel
theorem dX12_shapes_14 : decode cX12_shapes 14 = .ok (.iconst 0, 1) := by decide +kernel
theorem dX12_shapes_15 : decode cX12_shapes 15 = .ok (.istore 4, 2) := by decide +kernel
theorem dX12_shapes_17 : decode cX12_shapes 17 = .ok (.iload 4, 2) := by decide +kernel
theorem dX12_shapes_19 : decode cX12_shapes 19 = .ok (.iload_n 2, 1) := by decide +kernel
theorem dX12_shapes_20 : decode cX12_shapes 20 = .ok (.if_icmp .ge 29, 3) := by decide +kernel
theorem dX12_shapes_23 : decode cX12_shapes 23 = .ok (.iload_n 3, 1) := by decide +kernel
theorem dX12_shapes_24 : decode cX12_shapes 24 = .ok (.ifCond .eq 25, 3) := by decide +kernel
theorem dX12_shapes_27 : decode cX12_shapes 27 = .ok (.aload_n 0, 1) := by decide +kernel
theorem dX12_shapes_28 : decode cX12_shapes 28 = .ok (.iload 4, 2) := by decide +kernel
theorem dX12_shapes_30 : decode cX12_shapes 30 = .ok (.iload_n 2, 1) := by decide +kernel
theorem dX12_shapes_31 : decode cX12_shapes 31 = .ok (.invokevirtual 136, 3) := by decide +kernel
theorem dX12_shapes_34 : decode cX12_shapes 34 = .ok (.ifCond .ne 7, 3) := by decide +kernel
theorem dX12_shapes_37 : decode cX12_shapes 37 = .ok (.iconst 1, 1) := by decide +kernel
theorem dX12_shapes_38 : decode cX12_shapes 38 = .ok (.goto 4, 3) := by decide +kernel
theorem dX12_shapes_41 : decode cX12_shapes 41 = .ok (.iconst 0, 1) := by decide +kernel
theorem dX12_shapes_42 : decode cX12_shapes 42 = .ok (.istore_n 3, 1) := by decide +kernel
theorem dX12_shapes_43 : decode cX12_shapes 43 = .ok (.iinc 4 1, 3) := by decide +kernel
theorem dX12_shapes_46 : decode cX12_shapes 46 = .ok (.goto (-29), 3) := by decide +kernel
theorem dX12_shapes_49 : decode cX12_shapes 49 = .ok (.iload_n 1, 1) := by decide +kernel
theorem dX12_shapes_50 : decode cX12_shapes 50 = .ok (.iload_n 3, 1) := by decide +kernel
theorem dX12_shapes_51 : decode cX12_shapes 51 = .ok (.ifCond .eq 7, 3) := by decide +kernel
theorem dX12_shapes_54 : decode cX12_shapes 54 = .ok (.iconst 1, 1) := by decide +kernel
theorem dX12_shapes_55 : decode cX12_shapes 55 = .ok (.goto 4, 3) := by decide +kernel
theorem dX12_shapes_58 : decode cX12_shapes 58 = .ok (.iconst 0, 1) := by decide +kernel
theorem dX12_shapes_59 : decode cX12_shapes 59 = .ok (.iadd, 1) := by decide +kernel
theorem dX12_shapes_60 : decode cX12_shapes 60 = .ok (.istore_n 1, 1) := by decide +kernel
theorem dX12_shapes_61 : decode cX12_shapes 61 = .ok (.iinc 2 1, 3) := by decide +kernel
theorem dX12_shapes_64 : decode cX12_shapes 64 = .ok (.goto (-60), 3) := by decide +kernel
theorem dX12_shapes_67 : decode cX12_shapes 67 = .ok (.iload_n 1, 1) := by decide +kernel
theorem dX12_shapes_68 : decode cX12_shapes 68 = .ok (.ireturn, 1) := by decide +kernel
theorem dX12_placeOf_0 : decode cX12_placeOf 0 = .ok (.iload_n 2, 1) := by decide +kernel
theorem dX12_placeOf_1 : decode cX12_placeOf 1 = .ok (.ifCond .ge 5, 3) := by decide +kernel
theorem dX12_placeOf_4 : decode cX12_placeOf 4 = .ok (.iconst (-1), 1) := by decide +kernel
theorem dX12_placeOf_5 : decode cX12_placeOf 5 = .ok (.ireturn, 1) := by decide +kernel
theorem dX12_placeOf_6 : decode cX12_placeOf 6 = .ok (.iload_n 2, 1) := by decide +kernel
theorem dX12_placeOf_7 : decode cX12_placeOf 7 = .ok (.ifCond .ne 5, 3) := by decide +kernel
theorem dX12_placeOf_10 : decode cX12_placeOf 10 = .ok (.iload_n 1, 1) := by decide +kernel
theorem dX12_placeOf_11 : decode cX12_placeOf 11 = .ok (.ireturn, 1) := by decide +kernel
theorem dX12_placeOf_12 : decode cX12_placeOf 12 = .ok (.iload_n 2, 1) := by decide +kernel
theorem dX12_placeOf_13 : decode cX12_placeOf 13 = .ok (.iconst 1, 1) := by decide +kernel
theorem dX12_placeOf_14 : decode cX12_placeOf 14 = .ok (.isub, 1) := by decide +kernel
theorem dX12_placeOf_15 : decode cX12_placeOf 15 = .ok (.istore_n 3, 1) := by decide +kernel
theorem dX12_placeOf_16 : decode cX12_placeOf 16 = .ok (.iconst 0, 1) := by decide +kernel
theorem dX12_placeOf_17 : decode cX12_placeOf 17 = .ok (.istore 4, 2) := by decide +kernel
theorem dX12_placeOf_19 : decode cX12_placeOf 19 = .ok (.iload 4, 2) := by decide +kernel
theorem dX12_placeOf_21 : decode cX12_placeOf 21 = .ok (.aload_n 0, 1) := by decide +kernel
theorem dX12_placeOf_22 : decode cX12_placeOf 22 = .ok (.iload_n 1, 1) := by decide +kernel
theorem dX12_placeOf_23 : decode cX12_placeOf 23 = .ok (.invokevirtual 111, 3) := by decide +kernel
theorem dX12_placeOf_26 : decode cX12_placeOf 26 = .ok (.if_icmp .ge 46, 3) := by decide +kernel
theorem dX12_placeOf_29 : decode cX12_placeOf 29 = .ok (.aload_n 0, 1) := by decide +kernel
theorem dX12_placeOf_30 : decode cX12_placeOf 30 = .ok (.aload_n 0, 1) := by decide +kernel
theorem dX12_placeOf_31 : decode cX12_placeOf 31 = .ok (.iload_n 1, 1) := by decide +kernel
theorem dX12_placeOf_32 : decode cX12_placeOf 32 = .ok (.iload 4, 2) := by decide +kernel
theorem dX12_placeOf_34 : decode cX12_placeOf 34 = .ok (.invokevirtual 88, 3) := by decide +kernel
theorem dX12_placeOf_37 : decode cX12_placeOf 37 = .ok (.invokevirtual 114, 3) := by decide +kernel
theorem dX12_placeOf_40 : decode cX12_placeOf 40 = .ok (.istore 5, 2) := by decide +kernel
theorem dX12_placeOf_42 : decode cX12_placeOf 42 = .ok (.iload_n 3, 1) := by decide +kernel
theorem dX12_placeOf_43 : decode cX12_placeOf 43 = .ok (.iload 5, 2) := by decide +kernel
theorem dX12_placeOf_45 : decode cX12_placeOf 45 = .ok (.if_icmp .ge 16, 3) := by decide +kernel
theorem dX12_placeOf_48 : decode cX12_placeOf 48 = .ok (.aload_n 0, 1) := by decide +kernel
theorem dX12_placeOf_49 : decode cX12_placeOf 49 = .ok (.aload_n 0, 1) := by decide +kernel
theorem dX12_placeOf_50 : decode cX12_placeOf 50 = .ok (.iload_n 1, 1) := by decide +kernel
theorem dX12_placeOf_51 : decode cX12_placeOf 51 = .ok (.iload 4, 2) := by decide +kernel
theorem dX12_placeOf_53 : decode cX12_placeOf 53 = .ok (.invokevirtual 88, 3) := by decide +kernel
theorem dX12_placeOf_56 : decode cX12_placeOf 56 = .ok (.iload_n 3, 1) := by decide +kernel
theorem dX12_placeOf_57 : decode cX12_placeOf 57 = .ok (.invokevirtual 139, 3) := by decide +kernel
theorem dX12_placeOf_60 : decode cX12_placeOf 60 = .ok (.ireturn, 1) := by decide +kernel
theorem dX12_placeOf_61 : decode cX12_placeOf 61 = .ok (.iload_n 3, 1) := by decide +kernel
theorem dX12_placeOf_62 : decode cX12_placeOf 62 = .ok (.iload 5, 2) := by decide +kernel
theorem dX12_placeOf_64 : decode cX12_placeOf 64 = .ok (.isub, 1) := by decide +kernel
theorem dX12_placeOf_65 : decode cX12_placeOf 65 = .ok (.istore_n 3, 1) := by decide +kernel
theorem dX12_placeOf_66 : decode cX12_placeOf 66 = .ok (.iinc 4 1, 3) := by decide +kernel
theorem dX12_placeOf_69 : decode cX12_placeOf 69 = .ok (.goto (-50), 3) := by decide +kernel
theorem dX12_placeOf_72 : decode cX12_placeOf 72 = .ok (.iconst (-1), 1) := by decide +kernel
theorem dX12_placeOf_73 : decode cX12_placeOf 73 = .ok (.ireturn, 1) := by decide +kernel
theorem dX12_isGreater_0 : decode cX12_isGreater 0 = .ok (.iload_n 1, 1) := by decide +kernel
theorem dX12_isGreater_1 : decode cX12_isGreater 1 = .ok (.iload_n 2, 1) := by decide +kernel
theorem dX12_isGreater_2 : decode cX12_isGreater 2 = .ok (.if_icmp .ne 5, 3) := by decide +kernel
theorem dX12_isGreater_5 : decode cX12_isGreater 5 = .ok (.iconst 0, 1) := by decide +kernel
theorem dX12_isGreater_6 : decode cX12_isGreater 6 = .ok (.ireturn, 1) := by decide +kernel
theorem dX12_isGreater_7 : decode cX12_isGreater 7 = .ok (.iconst 0, 1) := by decide +kernel
theorem dX12_isGreater_8 : decode cX12_isGreater 8 = .ok (.istore_n 3, 1) := by decide +kernel
theorem dX12_isGreater_9 : decode cX12_isGreater 9 = .ok (.iload_n 3, 1) := by decide +kernel
theorem dX12_isGreater_10 : decode cX12_isGreater 10 = .ok (.bipush 8, 2) := by decide +kernel
theorem dX12_isGreater_12 : decode cX12_isGreater 12 = .ok (.if_icmp .ge 26, 3) := by decide +kernel
theorem dX12_isGreater_15 : decode cX12_isGreater 15 = .ok (.aload_n 0, 1) := by decide +kernel
theorem dX12_isGreater_16 : decode cX12_isGreater 16 = .ok (.iload_n 1, 1) := by decide +kernel
theorem dX12_isGreater_17 : decode cX12_isGreater 17 = .ok (.iload_n 3, 1) := by decide +kernel
theorem dX12_isGreater_18 : decode cX12_isGreater 18 = .ok (.invokevirtual 129, 3) := by decide +kernel
theorem dX12_isGreater_21 : decode cX12_isGreater 21 = .ok (.aload_n 0, 1) := by decide +kernel
theorem dX12_isGreater_22 : decode cX12_isGreater 22 = .ok (.iload_n 2, 1) := by decide +kernel
theorem dX12_isGreater_23 : decode cX12_isGreater 23 = .ok (.iload_n 3, 1) := by decide +kernel
theorem dX12_isGreater_24 : decode cX12_isGreater 24 = .ok (.invokevirtual 129, 3) := by decide +kernel
theorem dX12_isGreater_27 : decode cX12_isGreater 27 = .ok (.if_icmp .ge 5, 3) := by decide +kernel
theorem dX12_isGreater_30 : decode cX12_isGreater 30 = .ok (.iconst 0, 1) := by decide +kernel
theorem dX12_isGreater_31 : decode cX12_isGreater 31 = .ok (.ireturn, 1) := by decide +kernel
theorem dX12_isGreater_32 : decode cX12_isGreater 32 = .ok (.iinc 3 1, 3) := by decide +kernel
theorem dX12_isGreater_35 : decode cX12_isGreater 35 = .ok (.goto (-26), 3) := by decide +kernel
theorem dX12_isGreater_38 : decode cX12_isGreater 38 = .ok (.aload_n 0, 1) := by decide +kernel
theorem dX12_isGreater_39 : decode cX12_isGreater 39 = .ok (.iload_n 1, 1) := by decide +kernel
theorem dX12_isGreater_40 : decode cX12_isGreater 40 = .ok (.invokevirtual 120, 3) := by decide +kernel
theorem dX12_isGreater_43 : decode cX12_isGreater 43 = .ok (.aload_n 0, 1) := by decide +kernel
theorem dX12_isGreater_44 : decode cX12_isGreater 44 = .ok (.iload_n 2, 1) := by decide +kernel
theorem dX12_isGreater_45 : decode cX12_isGreater 45 = .ok (.invokevirtual 120, 3) := by decide +kernel
theorem dX12_isGreater_48 : decode cX12_isGreater 48 = .ok (.isub, 1) := by decide +kernel
theorem dX12_isGreater_49 : decode cX12_isGreater 49 = .ok (.istore_n 3, 1) := by decide +kernel
theorem dX12_isGreater_50 : decode cX12_isGreater 50 = .ok (.iload_n 3, 1) := by decide +kernel
theorem dX12_isGreater_51 : decode cX12_isGreater 51 = .ok (.ifCond .eq 13, 3) := by decide +kernel
theorem dX12_isGreater_54 : decode cX12_isGreater 54 = .ok (.iload_n 3, 1) := by decide +kernel
theorem dX12_isGreater_55 : decode cX12_isGreater 55 = .ok (.ifCond .le 7, 3) := by decide +kernel
theorem dX12_isGreater_58 : decode cX12_isGreater 58 = .ok (.iconst 1, 1) := by decide +kernel
theorem dX12_isGreater_59 : decode cX12_isGreater 59 = .ok (.goto 4, 3) := by decide +kernel
theorem dX12_isGreater_62 : decode cX12_isGreater 62 = .ok (.iconst 0, 1) := by decide +kernel
theorem dX12_isGreater_63 : decode cX12_isGreater 63 = .ok (.ireturn, 1) := by decide +kernel
theorem dX12_isGreater_64 : decode cX12_isGreater 64 = .ok (.aload_n 0, 1) := by decide +kernel
theorem dX12_isGreater_65 : decode cX12_isGreater 65 = .ok (.iload_n 2, 1) := by decide +kernel
theorem dX12_isGreater_66 : decode cX12_isGreater 66 = .ok (.invokevirtual 78, 3) := by decide +kernel
theorem dX12_isGreater_69 : decode cX12_isGreater 69 = .ok (.ifCond .eq 5, 3) := by decide +kernel
theorem dX12_isGreater_72 : decode cX12_isGreater 72 = .ok (.iconst 1, 1) := by decide +kernel
theorem dX12_isGreater_73 : decode cX12_isGreater 73 = .ok (.ireturn, 1) := by decide +kernel
theorem dX12_isGreater_74 : decode cX12_isGreater 74 = .ok (.aload_n 0, 1) := by decide +kernel
theorem dX12_isGreater_75 : decode cX12_isGreater 75 = .ok (.iload_n 1, 1) := by decide +kernel
theorem dX12_isGreater_76 : decode cX12_isGreater 76 = .ok (.invokevirtual 78, 3) := by decide +kernel
theorem dX12_isGreater_79 : decode cX12_isGreater 79 = .ok (.ifCond .eq 5, 3) := by decide +kernel
theorem dX12_isGreater_82 : decode cX12_isGreater 82 = .ok (.iconst 0, 1) := by decide +kernel
theorem dX12_isGreater_83 : decode cX12_isGreater 83 = .ok (.ireturn, 1) := by decide +kernel
theorem dX12_isGreater_84 : decode cX12_isGreater 84 = .ok (.aload_n 0, 1) := by decide +kernel
theorem dX12_isGreater_85 : decode cX12_isGreater 85 = .ok (.iload_n 1, 1) := by decide +kernel
theorem dX12_isGreater_86 : decode cX12_isGreater 86 = .ok (.invokevirtual 74, 3) := by decide +kernel
theorem dX12_isGreater_89 : decode cX12_isGreater 89 = .ok (.aload_n 0, 1) := by decide +kernel
theorem dX12_isGreater_90 : decode cX12_isGreater 90 = .ok (.iload_n 2, 1) := by decide +kernel
theorem dX12_isGreater_91 : decode cX12_isGreater 91 = .ok (.invokevirtual 74, 3) := by decide +kernel
theorem dX12_isGreater_94 : decode cX12_isGreater 94 = .ok (.if_icmp .eq 22, 3) := by decide +kernel
theorem dX12_isGreater_97 : decode cX12_isGreater 97 = .ok (.aload_n 0, 1) := by decide +kernel
theorem dX12_isGreater_98 : decode cX12_isGreater 98 = .ok (.iload_n 1, 1) := by decide +kernel
theorem dX12_isGreater_99 : decode cX12_isGreater 99 = .ok (.invokevirtual 74, 3) := by decide +kernel
theorem dX12_isGreater_102 : decode cX12_isGreater 102 = .ok (.aload_n 0, 1) := by decide +kernel
theorem dX12_isGreater_103 : decode cX12_isGreater 103 = .ok (.iload_n 2, 1) := by decide +kernel
theorem dX12_isGreater_104 : decode cX12_isGreater 104 = .ok (.invokevirtual 74, 3) := by decide +kernel
theorem dX12_isGreater_107 : decode cX12_isGreater 107 = .ok (.if_icmp .le 7, 3) := by decide +kernel
theorem dX12_isGreater_110 : decode cX12_isGreater 110 = .ok (.iconst 1, 1) := by decide +kernel
theorem dX12_isGreater_111 : decode cX12_isGreater 111 = .ok (.goto 4, 3) := by decide +kernel
theorem dX12_isGreater_114 : decode cX12_isGreater 114 = .ok (.iconst 0, 1) := by decide +kernel
theorem dX12_isGreater_115 : decode cX12_isGreater 115 = .ok (.ireturn, 1) := by decide +kernel
theorem dX12_isGreater_116 : decode cX12_isGreater 116 = .ok (.iconst 0, 1) := by decide +kernel
theorem dX12_isGreater_117 : decode cX12_isGreater 117 = .ok (.istore 4, 2) := by decide +kernel
theorem dX12_isGreater_119 : decode cX12_isGreater 119 = .ok (.aload_n 0, 1) := by decide +kernel
theorem dX12_isGreater_120 : decode cX12_isGreater 120 = .ok (.iload_n 1, 1) := by decide +kernel
theorem dX12_isGreater_121 : decode cX12_isGreater 121 = .ok (.iload 4, 2) := by decide +kernel
theorem dX12_isGreater_123 : decode cX12_isGreater 123 = .ok (.invokevirtual 88, 3) := by decide +kernel
theorem dX12_isGreater_126 : decode cX12_isGreater 126 = .ok (.aload_n 0, 1) := by decide +kernel
theorem dX12_isGreater_127 : decode cX12_isGreater 127 = .ok (.iload_n 2, 1) := by decide +kernel
theorem dX12_isGreater_128 : decode cX12_isGreater 128 = .ok (.iload 4, 2) := by decide +kernel
theorem dX12_isGreater_130 : decode cX12_isGreater 130 = .ok (.invokevirtual 88, 3) := by decide +kernel
theorem dX12_isGreater_133 : decode cX12_isGreater 133 = .ok (.if_icmp .ne 9, 3) := by decide +kernel
theorem dX12_isGreater_136 : decode cX12_isGreater 136 = .ok (.iinc 4 1, 3) := by decide +kernel
theorem dX12_isGreater_139 : decode cX12_isGreater 139 = .ok (.goto (-20), 3) := by decide +kernel
theorem dX12_isGreater_142 : decode cX12_isGreater 142 = .ok (.aload_n 0, 1) := by decide +kernel
theorem dX12_isGreater_143 : decode cX12_isGreater 143 = .ok (.aload_n 0, 1) := by decide +kernel
theorem dX12_isGreater_144 : decode cX12_isGreater 144 = .ok (.iload_n 1, 1) := by decide +kernel
theorem dX12_isGreater_145 : decode cX12_isGreater 145 = .ok (.iload 4, 2) := by decide +kernel
theorem dX12_isGreater_147 : decode cX12_isGreater 147 = .ok (.invokevirtual 88, 3) := by decide +kernel
theorem dX12_isGreater_150 : decode cX12_isGreater 150 = .ok (.aload_n 0, 1) := by decide +kernel
theorem dX12_isGreater_151 : decode cX12_isGreater 151 = .ok (.iload_n 2, 1) := by decide +kernel
theorem dX12_isGreater_152 : decode cX12_isGreater 152 = .ok (.iload 4, 2) := by decide +kernel
theorem dX12_isGreater_154 : decode cX12_isGreater 154 = .ok (.invokevirtual 88, 3) := by decide +kernel
theorem dX12_isGreater_157 : decode cX12_isGreater 157 = .ok (.invokevirtual 142, 3) := by decide +kernel
theorem dX12_isGreater_160 : decode cX12_isGreater 160 = .ok (.ireturn, 1) := by decide +kernel
theorem dX12_isRule_0 : decode cX12_isRule 0 = .ok (.aload_n 0, 1) := by decide +kernel
theorem dX12_isRule_1 : decode cX12_isRule 1 = .ok (.iload_n 1, 1) := by decide +kernel
theorem dX12_isRule_2 : decode cX12_isRule 2 = .ok (.invokevirtual 78, 3) := by decide +kernel
theorem dX12_isRule_5 : decode cX12_isRule 5 = .ok (.ifCond .ne 36, 3) := by decide +kernel
theorem dX12_isRule_8 : decode cX12_isRule 8 = .ok (.aload_n 0, 1) := by decide +kernel
theorem dX12_isRule_9 : decode cX12_isRule 9 = .ok (.iload_n 1, 1) := by decide +kernel
theorem dX12_isRule_10 : decode cX12_isRule 10 = .ok (.iload_n 2, 1) := by decide +kernel
theorem dX12_isRule_11 : decode cX12_isRule 11 = .ok (.invokevirtual 142, 3) := by decide +kernel
theorem dX12_isRule_14 : decode cX12_isRule 14 = .ok (.ifCond .eq 27, 3) := by decide +kernel
theorem dX12_isRule_17 : decode cX12_isRule 17 = .ok (.aload_n 0, 1) := by decide +kernel
theorem dX12_isRule_18 : decode cX12_isRule 18 = .ok (.iload_n 1, 1) := by decide +kernel
theorem dX12_isRule_19 : decode cX12_isRule 19 = .ok (.invokevirtual 114, 3) := by decide +kernel
theorem dX12_isRule_22 : decode cX12_isRule 22 = .ok (.bipush 12, 2) := by decide +kernel
theorem dX12_isRule_24 : decode cX12_isRule 24 = .ok (.if_icmp .gt 17, 3) := by decide +kernel
theorem dX12_isRule_27 : decode cX12_isRule 27 = .ok (.aload_n 0, 1) := by decide +kernel
theorem dX12_isRule_28 : decode cX12_isRule 28 = .ok (.iload_n 2, 1) := by decide +kernel
theorem dX12_isRule_29 : decode cX12_isRule 29 = .ok (.invokevirtual 114, 3) := by decide +kernel
theorem dX12_isRule_32 : decode cX12_isRule 32 = .ok (.bipush 12, 2) := by decide +kernel
theorem dX12_isRule_34 : decode cX12_isRule 34 = .ok (.if_icmp .gt 7, 3) := by decide +kernel
theorem dX12_isRule_37 : decode cX12_isRule 37 = .ok (.iconst 1, 1) := by decide +kernel
theorem dX12_isRule_38 : decode cX12_isRule 38 = .ok (.goto 4, 3) := by decide +kernel
theorem dX12_isRule_41 : decode cX12_isRule 41 = .ok (.iconst 0, 1) := by decide +kernel
theorem dX12_isRule_42 : decode cX12_isRule 42 = .ok (.ireturn, 1) := by decide +kernel
theorem dX12_matches_0 : decode cX12_matches 0 = .ok (.aload_n 0, 1) := by decide +kernel
theorem dX12_matches_1 : decode cX12_matches 1 = .ok (.iload_n 1, 1) := by decide +kernel
theorem dX12_matches_2 : decode cX12_matches 2 = .ok (.invokevirtual 78, 3) := by decide +kernel
theorem dX12_matches_5 : decode cX12_matches 5 = .ok (.ifCond .eq 42, 3) := by decide +kernel
theorem dX12_matches_8 : decode cX12_matches 8 = .ok (.aload_n 0, 1) := by decide +kernel
theorem dX12_matches_9 : decode cX12_matches 9 = .ok (.iload_n 1, 1) := by decide +kernel
theorem dX12_matches_10 : decode cX12_matches 10 = .ok (.invokevirtual 123, 3) := by decide +kernel
theorem dX12_matches_13 : decode cX12_matches 13 = .ok (.istore_n 3, 1) := by decide +kernel
theorem dX12_matches_14 : decode cX12_matches 14 = .ok (.aload_n 0, 1) := by decide +kernel
theorem dX12_matches_15 : decode cX12_matches 15 = .ok (.getfield 41, 3) := by decide +kernel
theorem dX12_matches_18 : decode cX12_matches 18 = .ok (.iload_n 3, 1) := by decide +kernel
theorem dX12_matches_19 : decode cX12_matches 19 = .ok (.iaload, 1) := by decide +kernel
theorem dX12_matches_20 : decode cX12_matches 20 = .ok (.iconst (-1), 1) := by decide +kernel
theorem dX12_matches_21 : decode cX12_matches 21 = .ok (.if_icmp .ne 10, 3) := by decide +kernel
theorem dX12_matches_24 : decode cX12_matches 24 = .ok (.aload_n 0, 1) := by decide +kernel
theorem dX12_matches_25 : decode cX12_matches 25 = .ok (.getfield 41, 3) := by decide +kernel
theorem dX12_matches_28 : decode cX12_matches 28 = .ok (.iload_n 3, 1) := by decide +kernel
theorem dX12_matches_29 : decode cX12_matches 29 = .ok (.iload_n 2, 1) := by decide +kernel
theorem dX12_matches_30 : decode cX12_matches 30 = .ok (.iastore, 1) := by decide +kernel
theorem dX12_matches_31 : decode cX12_matches 31 = .ok (.aload_n 0, 1) := by decide +kernel
theorem dX12_matches_32 : decode cX12_matches 32 = .ok (.getfield 41, 3) := by decide +kernel
theorem dX12_matches_35 : decode cX12_matches 35 = .ok (.iload_n 3, 1) := by decide +kernel
theorem dX12_matches_36 : decode cX12_matches 36 = .ok (.iaload, 1) := by decide +kernel
theorem dX12_matches_37 : decode cX12_matches 37 = .ok (.iload_n 2, 1) := by decide +kernel
theorem dX12_matches_38 : decode cX12_matches 38 = .ok (.if_icmp .ne 7, 3) := by decide +kernel
theorem dX12_matches_41 : decode cX12_matches 41 = .ok (.iconst 1, 1) := by decide +kernel
theorem dX12_matches_42 : decode cX12_matches 42 = .ok (.goto 4, 3) := by decide +kernel
theorem dX12_matches_45 : decode cX12_matches 45 = .ok (.iconst 0, 1) := by decide +kernel
theorem dX12_matches_46 : decode cX12_matches 46 = .ok (.ireturn, 1) := by decide +kernel
theorem dX12_matches_47 : decode cX12_matches 47 = .ok (.aload_n 0, 1) := by decide +kernel
theorem dX12_matches_48 : decode cX12_matches 48 = .ok (.iload_n 1, 1) := by decide +kernel
theorem dX12_matches_49 : decode cX12_matches 49 = .ok (.invokevirtual 74, 3) := by decide +kernel
theorem dX12_matches_52 : decode cX12_matches 52 = .ok (.aload_n 0, 1) := by decide +kernel
theorem dX12_matches_53 : decode cX12_matches 53 = .ok (.iload_n 2, 1) := by decide +kernel
theorem dX12_matches_54 : decode cX12_matches 54 = .ok (.invokevirtual 74, 3) := by decide +kernel
theorem dX12_matches_57 : decode cX12_matches 57 = .ok (.if_icmp .eq 5, 3) := by decide +kernel
theorem dX12_matches_60 : decode cX12_matches 60 = .ok (.iconst 0, 1) := by decide +kernel
theorem dX12_matches_61 : decode cX12_matches 61 = .ok (.ireturn, 1) := by decide +kernel
theorem dX12_matches_62 : decode cX12_matches 62 = .ok (.iconst 0, 1) := by decide +kernel
theorem dX12_matches_63 : decode cX12_matches 63 = .ok (.istore_n 3, 1) := by decide +kernel
theorem dX12_matches_64 : decode cX12_matches 64 = .ok (.iload_n 3, 1) := by decide +kernel
theorem dX12_matches_65 : decode cX12_matches 65 = .ok (.aload_n 0, 1) := by decide +kernel
theorem dX12_matches_66 : decode cX12_matches 66 = .ok (.iload_n 1, 1) := by decide +kernel
theorem dX12_matches_67 : decode cX12_matches 67 = .ok (.invokevirtual 111, 3) := by decide +kernel
theorem dX12_matches_70 : decode cX12_matches 70 = .ok (.if_icmp .ge 30, 3) := by decide +kernel
theorem dX12_matches_73 : decode cX12_matches 73 = .ok (.aload_n 0, 1) := by decide +kernel
theorem dX12_matches_74 : decode cX12_matches 74 = .ok (.aload_n 0, 1) := by decide +kernel
theorem dX12_matches_75 : decode cX12_matches 75 = .ok (.iload_n 1, 1) := by decide +kernel
theorem dX12_matches_76 : decode cX12_matches 76 = .ok (.iload_n 3, 1) := by decide +kernel
theorem dX12_matches_77 : decode cX12_matches 77 = .ok (.invokevirtual 88, 3) := by decide +kernel
theorem dX12_matches_80 : decode cX12_matches 80 = .ok (.aload_n 0, 1) := by decide +kernel
theorem dX12_matches_81 : decode cX12_matches 81 = .ok (.iload_n 2, 1) := by decide +kernel
theorem dX12_matches_82 : decode cX12_matches 82 = .ok (.iload_n 3, 1) := by decide +kernel
theorem dX12_matches_83 : decode cX12_matches 83 = .ok (.invokevirtual 88, 3) := by decide +kernel
theorem dX12_matches_86 : decode cX12_matches 86 = .ok (.invokevirtual 145, 3) := by decide +kernel
