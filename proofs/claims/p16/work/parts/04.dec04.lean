theorem dX9_init_0 : decode cX9_init 0 = .ok (.aload_n 0, 1) := by decide +kernel
theorem dX9_init_1 : decode cX9_init 1 = .ok (.invokespecial 3, 3) := by decide +kernel
theorem dX9_init_4 : decode cX9_init 4 = .ok (.aload_n 0, 1) := by decide +kernel
theorem dX9_init_5 : decode cX9_init 5 = .ok (.sipush 401, 3) := by decide +kernel
theorem dX9_init_8 : decode cX9_init 8 = .ok (.newarray .int, 2) := by decide +kernel
theorem dX9_init_10 : decode cX9_init 10 = .ok (.putfield 11, 3) := by decide +kernel
theorem dX9_init_13 : decode cX9_init 13 = .ok (.aload_n 0, 1) := by decide +kernel
theorem dX9_init_14 : decode cX9_init 14 = .ok (.sipush 401, 3) := by decide +kernel
theorem dX9_init_17 : decode cX9_init 17 = .ok (.newarray .int, 2) := by decide +kernel
theorem dX9_init_19 : decode cX9_init 19 = .ok (.putfield 15, 3) := by decide +kernel
theorem dX9_init_22 : decode cX9_init 22 = .ok (.aload_n 0, 1) := by decide +kernel
theorem dX9_init_23 : decode cX9_init 23 = .ok (.sipush 1203, 3) := by decide +kernel
theorem dX9_init_26 : decode cX9_init 26 = .ok (.newarray .int, 2) := by decide +kernel
theorem dX9_init_28 : decode cX9_init 28 = .ok (.putfield 18, 3) := by decide +kernel
theorem dX9_init_31 : decode cX9_init 31 = .ok (.aload_n 0, 1) := by decide +kernel
theorem dX9_init_32 : decode cX9_init 32 = .ok (.sipush 401, 3) := by decide +kernel
theorem dX9_init_35 : decode cX9_init 35 = .ok (.newarray .int, 2) := by decide +kernel
theorem dX9_init_37 : decode cX9_init 37 = .ok (.putfield 21, 3) := by decide +kernel
theorem dX9_init_40 : decode cX9_init 40 = .ok (.aload_n 0, 1) := by decide +kernel
theorem dX9_init_41 : decode cX9_init 41 = .ok (.sipush 401, 3) := by decide +kernel
theorem dX9_init_44 : decode cX9_init 44 = .ok (.newarray .int, 2) := by decide +kernel
theorem dX9_init_46 : decode cX9_init 46 = .ok (.putfield 24, 3) := by decide +kernel
theorem dX9_init_49 : decode cX9_init 49 = .ok (.aload_n 0, 1) := by decide +kernel
theorem dX9_init_50 : decode cX9_init 50 = .ok (.sipush 401, 3) := by decide +kernel
theorem dX9_init_53 : decode cX9_init 53 = .ok (.newarray .int, 2) := by decide +kernel
theorem dX9_init_55 : decode cX9_init 55 = .ok (.putfield 27, 3) := by decide +kernel
theorem dX9_init_58 : decode cX9_init 58 = .ok (.aload_n 0, 1) := by decide +kernel
theorem dX9_init_59 : decode cX9_init 59 = .ok (.sipush 401, 3) := by decide +kernel
theorem dX9_init_62 : decode cX9_init 62 = .ok (.newarray .int, 2) := by decide +kernel
theorem dX9_init_64 : decode cX9_init 64 = .ok (.putfield 30, 3) := by decide +kernel
theorem dX9_init_67 : decode cX9_init 67 = .ok (.aload_n 0, 1) := by decide +kernel
theorem dX9_init_68 : decode cX9_init 68 = .ok (.sipush 401, 3) := by decide +kernel
theorem dX9_init_71 : decode cX9_init 71 = .ok (.newarray .int, 2) := by decide +kernel
theorem dX9_init_73 : decode cX9_init 73 = .ok (.putfield 33, 3) := by decide +kernel
theorem dX9_init_76 : decode cX9_init 76 = .ok (.aload_n 0, 1) := by decide +kernel
theorem dX9_init_77 : decode cX9_init 77 = .ok (.sipush 401, 3) := by decide +kernel
theorem dX9_init_80 : decode cX9_init 80 = .ok (.newarray .int, 2) := by decide +kernel
theorem dX9_init_82 : decode cX9_init 82 = .ok (.putfield 36, 3) := by decide +kernel
theorem dX9_init_85 : decode cX9_init 85 = .ok (.aload_n 0, 1) := by decide +kernel
theorem dX9_init_86 : decode cX9_init 86 = .ok (.sipush 256, 3) := by decide +kernel
theorem dX9_init_89 : decode cX9_init 89 = .ok (.newarray .int, 2) := by decide +kernel
theorem dX9_init_91 : decode cX9_init 91 = .ok (.putfield 39, 3) := by decide +kernel
theorem dX9_init_94 : decode cX9_init 94 = .ok (.aload_n 0, 1) := by decide +kernel
theorem dX9_init_95 : decode cX9_init 95 = .ok (.sipush 401, 3) := by decide +kernel
theorem dX9_init_98 : decode cX9_init 98 = .ok (.newarray .int, 2) := by decide +kernel
theorem dX9_init_100 : decode cX9_init 100 = .ok (.putfield 42, 3) := by decide +kernel
theorem dX9_init_103 : decode cX9_init 103 = .ok (.aload_n 0, 1) := by decide +kernel
theorem dX9_init_104 : decode cX9_init 104 = .ok (.iconst 0, 1) := by decide +kernel
theorem dX9_init_105 : decode cX9_init 105 = .ok (.putfield 45, 3) := by decide +kernel
theorem dX9_init_108 : decode cX9_init 108 = .ok (.aload_n 0, 1) := by decide +kernel
theorem dX9_init_109 : decode cX9_init 109 = .ok (.aload_n 1, 1) := by decide +kernel
theorem dX9_init_110 : decode cX9_init 110 = .ok (.putfield 49, 3) := by decide +kernel
theorem dX9_init_113 : decode cX9_init 113 = .ok (.aload_n 0, 1) := by decide +kernel
theorem dX9_init_114 : decode cX9_init 114 = .ok (.getfield 39, 3) := by decide +kernel
theorem dX9_init_117 : decode cX9_init 117 = .ok (.iconst (-1), 1) := by decide +kernel
theorem dX9_init_118 : decode cX9_init 118 = .ok (.invokestatic 53, 3) := by decide +kernel
theorem dX9_init_121 : decode cX9_init 121 = .ok (.return_, 1) := by decide +kernel
theorem dX9_has_0 : decode cX9_has 0 = .ok (.iload_n 1, 1) := by decide +kernel
theorem dX9_has_1 : decode cX9_has 1 = .ok (.ifCond .lt 15, 3) := by decide +kernel
theorem dX9_has_4 : decode cX9_has 4 = .ok (.iload_n 1, 1) := by decide +kernel
theorem dX9_has_5 : decode cX9_has 5 = .ok (.aload_n 0, 1) := by decide +kernel
theorem dX9_has_6 : decode cX9_has 6 = .ok (.getfield 45, 3) := by decide +kernel
theorem dX9_has_9 : decode cX9_has 9 = .ok (.if_icmp .ge 7, 3) := by decide +kernel
theorem dX9_has_12 : decode cX9_has 12 = .ok (.iconst 1, 1) := by decide +kernel
theorem dX9_has_13 : decode cX9_has 13 = .ok (.goto 4, 3) := by decide +kernel
theorem dX9_has_16 : decode cX9_has 16 = .ok (.iconst 0, 1) := by decide +kernel
theorem dX9_has_17 : decode cX9_has 17 = .ok (.ireturn, 1) := by decide +kernel
theorem dX9_isVariable_0 : decode cX9_isVariable 0 = .ok (.aload_n 0, 1) := by decide +kernel
theorem dX9_isVariable_1 : decode cX9_isVariable 1 = .ok (.getfield 11, 3) := by decide +kernel
theorem dX9_isVariable_4 : decode cX9_isVariable 4 = .ok (.iload_n 1, 1) := by decide +kernel
theorem dX9_isVariable_5 : decode cX9_isVariable 5 = .ok (.iaload, 1) := by decide +kernel
theorem dX9_isVariable_6 : decode cX9_isVariable 6 = .ok (.ifCond .ge 7, 3) := by decide +kernel
theorem dX9_isVariable_9 : decode cX9_isVariable 9 = .ok (.iconst 1, 1) := by decide +kernel
theorem dX9_isVariable_10 : decode cX9_isVariable 10 = .ok (.goto 4, 3) := by decide +kernel
theorem dX9_isVariable_13 : decode cX9_isVariable 13 = .ok (.iconst 0, 1) := by decide +kernel
theorem dX9_isVariable_14 : decode cX9_isVariable 14 = .ok (.ireturn, 1) := by decide +kernel
theorem dX9_argumentOf_0 : decode cX9_argumentOf 0 = .ok (.aload_n 0, 1) := by decide +kernel
theorem dX9_argumentOf_1 : decode cX9_argumentOf 1 = .ok (.getfield 18, 3) := by decide +kernel
theorem dX9_argumentOf_4 : decode cX9_argumentOf 4 = .ok (.iload_n 1, 1) := by decide +kernel
theorem dX9_argumentOf_5 : decode cX9_argumentOf 5 = .ok (.iconst 3, 1) := by decide +kernel
theorem dX9_argumentOf_6 : decode cX9_argumentOf 6 = .ok (.imul, 1) := by decide +kernel
theorem dX9_argumentOf_7 : decode cX9_argumentOf 7 = .ok (.iload_n 2, 1) := by decide +kernel
theorem dX9_argumentOf_8 : decode cX9_argumentOf 8 = .ok (.iadd, 1) := by decide +kernel
theorem dX9_argumentOf_9 : decode cX9_argumentOf 9 = .ok (.iaload, 1) := by decide +kernel
theorem dX9_argumentOf_10 : decode cX9_argumentOf 10 = .ok (.ireturn, 1) := by decide +kernel
theorem dX9_empty_0 : decode cX9_empty 0 = .ok (.aload_n 0, 1) := by decide +kernel
theorem dX9_empty_1 : decode cX9_empty 1 = .ok (.iconst 0, 1) := by decide +kernel
theorem dX9_empty_2 : decode cX9_empty 2 = .ok (.putfield 45, 3) := by decide +kernel
theorem dX9_empty_5 : decode cX9_empty 5 = .ok (.aload_n 0, 1) := by decide +kernel
theorem dX9_empty_6 : decode cX9_empty 6 = .ok (.getfield 39, 3) := by decide +kernel
theorem dX9_empty_9 : decode cX9_empty 9 = .ok (.iconst (-1), 1) := by decide +kernel
theorem dX9_empty_10 : decode cX9_empty 10 = .ok (.invokestatic 53, 3) := by decide +kernel
theorem dX9_empty_13 : decode cX9_empty 13 = .ok (.return_, 1) := by decide +kernel
theorem dX9_variableTerm_0 : decode cX9_variableTerm 0 = .ok (.aload_n 0, 1) := by decide +kernel
theorem dX9_variableTerm_1 : decode cX9_variableTerm 1 = .ok (.iload_n 1, 1) := by decide +kernel
theorem dX9_variableTerm_2 : decode cX9_variableTerm 2 = .ok (.iconst (-1), 1) := by decide +kernel
theorem dX9_variableTerm_3 : decode cX9_variableTerm 3 = .ok (.ixor, 1) := by decide +kernel
theorem dX9_variableTerm_4 : decode cX9_variableTerm 4 = .ok (.iconst (-1), 1) := by decide +kernel
theorem dX9_variableTerm_5 : decode cX9_variableTerm 5 = .ok (.iconst (-1), 1) := by decide +kernel
theorem dX9_variableTerm_6 : decode cX9_variableTerm 6 = .ok (.iconst (-1), 1) := by decide +kernel
theorem dX9_variableTerm_7 : decode cX9_variableTerm 7 = .ok (.invokevirtual 59, 3) := by decide +kernel
theorem dX9_variableTerm_10 : decode cX9_variableTerm 10 = .ok (.ireturn, 1) := by decide +kernel
theorem dX9_made_0 : decode cX9_made 0 = .ok (.aload_n 0, 1) := by decide +kernel
theorem dX9_made_1 : decode cX9_made 1 = .ok (.getfield 45, 3) := by decide +kernel
theorem dX9_made_4 : decode cX9_made 4 = .ok (.istore 5, 2) := by decide +kernel
theorem dX9_made_6 : decode cX9_made 6 = .ok (.aload_n 0, 1) := by decide +kernel
theorem dX9_made_7 : decode cX9_made 7 = .ok (.getfield 49, 3) := by decide +kernel
theorem dX9_made_10 : decode cX9_made 10 = .ok (.iload_n 1, 1) := by decide +kernel
theorem dX9_made_11 : decode cX9_made 11 = .ok (.invokevirtual 63, 3) := by decide +kernel
theorem dX9_made_14 : decode cX9_made 14 = .ok (.istore 6, 2) := by decide +kernel
theorem dX9_made_16 : decode cX9_made 16 = .ok (.iload 6, 2) := by decide +kernel
theorem dX9_made_18 : decode cX9_made 18 = .ok (.ifCond .eq 15, 3) := by decide +kernel
theorem dX9_made_21 : decode cX9_made 21 = .ok (.aload_n 0, 1) := by decide +kernel
theorem dX9_made_22 : decode cX9_made 22 = .ok (.getfield 49, 3) := by decide +kernel
theorem dX9_made_25 : decode cX9_made 25 = .ok (.getfield 69, 3) := by decide +kernel
theorem dX9_made_28 : decode cX9_made 28 = .ok (.iload_n 1, 1) := by decide +kernel
theorem dX9_made_29 : decode cX9_made 29 = .ok (.iaload, 1) := by decide +kernel
theorem dX9_made_30 : decode cX9_made 30 = .ok (.goto 4, 3) := by decide +kernel
theorem dX9_made_33 : decode cX9_made 33 = .ok (.iconst 0, 1) := by decide +kernel
theorem dX9_made_34 : decode cX9_made 34 = .ok (.istore 7, 2) := by decide +kernel
theorem dX9_made_36 : decode cX9_made 36 = .ok (.aload_n 0, 1) := by decide +kernel
theorem dX9_made_37 : decode cX9_made 37 = .ok (.getfield 11, 3) := by decide +kernel
theorem dX9_made_40 : decode cX9_made 40 = .ok (.iload 5, 2) := by decide +kernel
theorem dX9_made_42 : decode cX9_made 42 = .ok (.iload_n 1, 1) := by decide +kernel
theorem dX9_made_43 : decode cX9_made 43 = .ok (.iastore, 1) := by decide +kernel
theorem dX9_made_44 : decode cX9_made 44 = .ok (.aload_n 0, 1) := by decide +kernel
theorem dX9_made_45 : decode cX9_made 45 = .ok (.getfield 15, 3) := by decide +kernel
theorem dX9_made_48 : decode cX9_made 48 = .ok (.iload 5, 2) := by decide +kernel
theorem dX9_made_50 : decode cX9_made 50 = .ok (.iload 7, 2) := by decide +kernel
theorem dX9_made_52 : decode cX9_made 52 = .ok (.iastore, 1) := by decide +kernel
theorem dX9_made_53 : decode cX9_made 53 = .ok (.aload_n 0, 1) := by decide +kernel
theorem dX9_made_54 : decode cX9_made 54 = .ok (.getfield 24, 3) := by decide +kernel
theorem dX9_made_57 : decode cX9_made 57 = .ok (.iload 5, 2) := by decide +kernel
theorem dX9_made_59 : decode cX9_made 59 = .ok (.iload 6, 2) := by decide +kernel
theorem dX9_made_61 : decode cX9_made 61 = .ok (.ifCond .eq 15, 3) := by decide +kernel
theorem dX9_made_64 : decode cX9_made 64 = .ok (.aload_n 0, 1) := by decide +kernel
theorem dX9_made_65 : decode cX9_made 65 = .ok (.getfield 49, 3) := by decide +kernel
theorem dX9_made_68 : decode cX9_made 68 = .ok (.getfield 70, 3) := by decide +kernel
theorem dX9_made_71 : decode cX9_made 71 = .ok (.iload_n 1, 1) := by decide +kernel
theorem dX9_made_72 : decode cX9_made 72 = .ok (.iaload, 1) := by decide +kernel
theorem dX9_made_73 : decode cX9_made 73 = .ok (.goto 4, 3) := by decide +kernel
theorem dX9_made_76 : decode cX9_made 76 = .ok (.iconst 1, 1) := by decide +kernel
theorem dX9_made_77 : decode cX9_made 77 = .ok (.iastore, 1) := by decide +kernel
theorem dX9_made_78 : decode cX9_made 78 = .ok (.aload_n 0, 1) := by decide +kernel
theorem dX9_made_79 : decode cX9_made 79 = .ok (.getfield 18, 3) := by decide +kernel
theorem dX9_made_82 : decode cX9_made 82 = .ok (.iload 5, 2) := by decide +kernel
theorem dX9_made_84 : decode cX9_made 84 = .ok (.iconst 3, 1) := by decide +kernel
theorem dX9_made_85 : decode cX9_made 85 = .ok (.imul, 1) := by decide +kernel
theorem dX9_made_86 : decode cX9_made 86 = .ok (.iload 7, 2) := by decide +kernel
theorem dX9_made_88 : decode cX9_made 88 = .ok (.ifCond .le 7, 3) := by decide +kernel
theorem dX9_made_91 : decode cX9_made 91 = .ok (.iload_n 2, 1) := by decide +kernel
theorem dX9_made_92 : decode cX9_made 92 = .ok (.goto 4, 3) := by decide +kernel
theorem dX9_made_95 : decode cX9_made 95 = .ok (.iconst (-1), 1) := by decide +kernel
theorem dX9_made_96 : decode cX9_made 96 = .ok (.iastore, 1) := by decide +kernel
theorem dX9_made_97 : decode cX9_made 97 = .ok (.aload_n 0, 1) := by decide +kernel
theorem dX9_made_98 : decode cX9_made 98 = .ok (.getfield 18, 3) := by decide +kernel
theorem dX9_made_101 : decode cX9_made 101 = .ok (.iload 5, 2) := by decide +kernel
theorem dX9_made_103 : decode cX9_made 103 = .ok (.iconst 3, 1) := by decide +kernel
theorem dX9_made_104 : decode cX9_made 104 = .ok (.imul, 1) := by decide +kernel
theorem dX9_made_105 : decode cX9_made 105 = .ok (.iconst 1, 1) := by decide +kernel
theorem dX9_made_106 : decode cX9_made 106 = .ok (.iadd, 1) := by decide +kernel
theorem dX9_made_107 : decode cX9_made 107 = .ok (.iload 7, 2) := by decide +kernel
theorem dX9_made_109 : decode cX9_made 109 = .ok (.iconst 1, 1) := by decide +kernel
theorem dX9_made_110 : decode cX9_made 110 = .ok (.if_icmp .le 7, 3) := by decide +kernel
theorem dX9_made_113 : decode cX9_made 113 = .ok (.iload_n 3, 1) := by decide +kernel
theorem dX9_made_114 : decode cX9_made 114 = .ok (.goto 4, 3) := by decide +kernel
theorem dX9_made_117 : decode cX9_made 117 = .ok (.iconst (-1), 1) := by decide +kernel
theorem dX9_made_118 : decode cX9_made 118 = .ok (.iastore, 1) := by decide +kernel
theorem dX9_made_119 : decode cX9_made 119 = .ok (.aload_n 0, 1) := by decide +kernel
theorem dX9_made_120 : decode cX9_made 120 = .ok (.getfield 18, 3) := by decide +kernel
theorem dX9_made_123 : decode cX9_made 123 = .ok (.iload 5, 2) := by decide +kernel
theorem dX9_made_125 : decode cX9_made 125 = .ok (.iconst 3, 1) := by decide +kernel
theorem dX9_made_126 : decode cX9_made 126 = .ok (.imul, 1) := by decide +kernel
theorem dX9_made_127 : decode cX9_made 127 = .ok (.iconst 2, 1) := by decide +kernel
theorem dX9_made_128 : decode cX9_made 128 = .ok (.iadd, 1) := by decide +kernel
theorem dX9_made_129 : decode cX9_made 129 = .ok (.iload 7, 2) := by decide +kernel
theorem dX9_made_131 : decode cX9_made 131 = .ok (.iconst 2, 1) := by decide +kernel
theorem dX9_made_132 : decode cX9_made 132 = .ok (.if_icmp .le 8, 3) := by decide +kernel
theorem dX9_made_135 : decode cX9_made 135 = .ok (.iload 4, 2) := by decide +kernel
theorem dX9_made_137 : decode cX9_made 137 = .ok (.goto 4, 3) := by decide +kernel
theorem dX9_made_140 : decode cX9_made 140 = .ok (.iconst (-1), 1) := by decide +kernel
theorem dX9_made_141 : decode cX9_made 141 = .ok (.iastore, 1) := by decide +kernel
theorem dX9_made_142 : decode cX9_made 142 = .ok (.iload 7, 2) := by decide +kernel
theorem dX9_made_144 : decode cX9_made 144 = .ok (.ifCond .le 7, 3) := by decide +kernel
theorem dX9_made_147 : decode cX9_made 147 = .ok (.iload_n 2, 1) := by decide +kernel
theorem dX9_made_148 : decode cX9_made 148 = .ok (.ifCond .lt 24, 3) := by decide +kernel
theorem dX9_made_151 : decode cX9_made 151 = .ok (.iload 7, 2) := by decide +kernel
theorem dX9_made_153 : decode cX9_made 153 = .ok (.iconst 1, 1) := by decide +kernel
theorem dX9_made_154 : decode cX9_made 154 = .ok (.if_icmp .le 7, 3) := by decide +kernel
theorem dX9_made_157 : decode cX9_made 157 = .ok (.iload_n 3, 1) := by decide +kernel
theorem dX9_made_158 : decode cX9_made 158 = .ok (.ifCond .lt 14, 3) := by decide +kernel
theorem dX9_made_161 : decode cX9_made 161 = .ok (.iload 7, 2) := by decide +kernel
theorem dX9_made_163 : decode cX9_made 163 = .ok (.iconst 2, 1) := by decide +kernel
theorem dX9_made_164 : decode cX9_made 164 = .ok (.if_icmp .le 11, 3) := by decide +kernel
theorem dX9_made_167 : decode cX9_made 167 = .ok (.iload 4, 2) := by decide +kernel
theorem dX9_made_169 : decode cX9_made 169 = .ok (.ifCond .ge 6, 3) := by decide +kernel
theorem dX9_made_172 : decode cX9_made 172 = .ok (.bipush (-3), 2) := by decide +kernel
theorem dX9_made_174 : decode cX9_made 174 = .ok (.ireturn, 1) := by decide +kernel
theorem dX9_made_175 : decode cX9_made 175 = .ok (.aload_n 0, 1) := by decide +kernel
theorem dX9_made_176 : decode cX9_made 176 = .ok (.iload 5, 2) := by decide +kernel
theorem dX9_made_178 : decode cX9_made 178 = .ok (.invokevirtual 71, 3) := by decide +kernel
theorem dX9_made_181 : decode cX9_made 181 = .ok (.istore 8, 2) := by decide +kernel
theorem dX9_made_183 : decode cX9_made 183 = .ok (.aload_n 0, 1) := by decide +kernel
theorem dX9_made_184 : decode cX9_made 184 = .ok (.getfield 33, 3) := by decide +kernel
theorem dX9_made_187 : decode cX9_made 187 = .ok (.iload 5, 2) := by decide +kernel
theorem dX9_made_189 : decode cX9_made 189 = .ok (.iload 5, 2) := by decide +kernel
theorem dX9_made_191 : decode cX9_made 191 = .ok (.iastore, 1) := by decide +kernel
theorem dX9_made_192 : decode cX9_made 192 = .ok (.aload_n 0, 1) := by decide +kernel
theorem dX9_made_193 : decode cX9_made 193 = .ok (.getfield 39, 3) := by decide +kernel
theorem dX9_made_196 : decode cX9_made 196 = .ok (.iload 8, 2) := by decide +kernel
theorem dX9_made_198 : decode cX9_made 198 = .ok (.iaload, 1) := by decide +kernel
theorem dX9_made_199 : decode cX9_made 199 = .ok (.istore 9, 2) := by decide +kernel
theorem dX9_made_201 : decode cX9_made 201 = .ok (.iconst 0, 1) := by decide +kernel
theorem dX9_made_202 : decode cX9_made 202 = .ok (.istore 10, 2) := by decide +kernel
theorem dX9_made_204 : decode cX9_made 204 = .ok (.iload 10, 2) := by decide +kernel
theorem dX9_made_206 : decode cX9_made 206 = .ok (.sipush 400, 3) := by decide +kernel
theorem dX9_made_209 : decode cX9_made 209 = .ok (.if_icmp .ge 63, 3) := by decide +kernel
theorem dX9_made_212 : decode cX9_made 212 = .ok (.iload 9, 2) := by decide +kernel
theorem dX9_made_214 : decode cX9_made 214 = .ok (.iconst (-1), 1) := by decide +kernel
theorem dX9_made_215 : decode cX9_made 215 = .ok (.if_icmp .eq 57, 3) := by decide +kernel
theorem dX9_made_218 : decode cX9_made 218 = .ok (.aload_n 0, 1) := by decide +kernel
theorem dX9_made_219 : decode cX9_made 219 = .ok (.iload 9, 2) := by decide +kernel
theorem dX9_made_221 : decode cX9_made 221 = .ok (.iload 5, 2) := by decide +kernel
theorem dX9_made_223 : decode cX9_made 223 = .ok (.invokevirtual 75, 3) := by decide +kernel
theorem dX9_made_226 : decode cX9_made 226 = .ok (.ifCond .eq 6, 3) := by decide +kernel
theorem dX9_made_229 : decode cX9_made 229 = .ok (.iload 9, 2) := by decide +kernel
theorem dX9_made_231 : decode cX9_made 231 = .ok (.ireturn, 1) := by decide +kernel
theorem dX9_made_232 : decode cX9_made 232 = .ok (.aload_n 0, 1) := by decide +kernel
theorem dX9_made_233 : decode cX9_made 233 = .ok (.iload 9, 2) := by decide +kernel
theorem dX9_made_235 : decode cX9_made 235 = .ok (.iload 5, 2) := by decide +kernel
theorem dX9_made_237 : decode cX9_made 237 = .ok (.invokevirtual 79, 3) := by decide +kernel
theorem dX9_made_240 : decode cX9_made 240 = .ok (.ifCond .eq 17, 3) := by decide +kernel
theorem dX9_made_243 : decode cX9_made 243 = .ok (.aload_n 0, 1) := by decide +kernel
theorem dX9_made_244 : decode cX9_made 244 = .ok (.getfield 33, 3) := by decide +kernel
theorem dX9_made_247 : decode cX9_made 247 = .ok (.iload 5, 2) := by decide +kernel
theorem dX9_made_249 : decode cX9_made 249 = .ok (.aload_n 0, 1) := by decide +kernel
theorem dX9_made_250 : decode cX9_made 250 = .ok (.getfield 33, 3) := by decide +kernel
theorem dX9_made_253 : decode cX9_made 253 = .ok (.iload 9, 2) := by decide +kernel
theorem dX9_made_255 : decode cX9_made 255 = .ok (.iaload, 1) := by decide +kernel
theorem dX9_made_256 : decode cX9_made 256 = .ok (.iastore, 1) := by decide +kernel
theorem dX9_made_257 : decode cX9_made 257 = .ok (.aload_n 0, 1) := by decide +kernel
theorem dX9_made_258 : decode cX9_made 258 = .ok (.getfield 36, 3) := by decide +kernel
theorem dX9_made_261 : decode cX9_made 261 = .ok (.iload 9, 2) := by decide +kernel
theorem dX9_made_263 : decode cX9_made 263 = .ok (.iaload, 1) := by decide +kernel
theorem dX9_made_264 : decode cX9_made 264 = .ok (.istore 9, 2) := by decide +kernel
theorem dX9_made_266 : decode cX9_made 266 = .ok (.iinc 10 1, 3) := by decide +kernel
theorem dX9_made_269 : decode cX9_made 269 = .ok (.goto (-65), 3) := by decide +kernel
theorem dX9_made_272 : decode cX9_made 272 = .ok (.aload_n 0, 1) := by decide +kernel
theorem dX9_made_273 : decode cX9_made 273 = .ok (.iload 5, 2) := by decide +kernel
theorem dX9_made_275 : decode cX9_made 275 = .ok (.invokevirtual 82, 3) := by decide +kernel
theorem dX9_made_278 : decode cX9_made 278 = .ok (.iload 5, 2) := by decide +kernel
theorem dX9_made_280 : decode cX9_made 280 = .ok (.sipush 400, 3) := by decide +kernel
theorem dX9_made_283 : decode cX9_made 283 = .ok (.if_icmp .ge 15, 3) := by decide +kernel
theorem dX9_made_286 : decode cX9_made 286 = .ok (.aload_n 0, 1) := by decide +kernel
theorem dX9_made_287 : decode cX9_made 287 = .ok (.getfield 27, 3) := by decide +kernel
theorem dX9_made_290 : decode cX9_made 290 = .ok (.iload 5, 2) := by decide +kernel
theorem dX9_made_292 : decode cX9_made 292 = .ok (.iaload, 1) := by decide +kernel
theorem dX9_made_293 : decode cX9_made 293 = .ok (.bipush 6, 2) := by decide +kernel
theorem dX9_made_295 : decode cX9_made 295 = .ok (.if_icmp .le 6, 3) := by decide +kernel
theorem dX9_made_298 : decode cX9_made 298 = .ok (.bipush (-3), 2) := by decide +kernel
theorem dX9_made_300 : decode cX9_made 300 = .ok (.ireturn, 1) := by decide +kernel
theorem dX9_made_301 : decode cX9_made 301 = .ok (.aload_n 0, 1) := by decide +kernel
theorem dX9_made_302 : decode cX9_made 302 = .ok (.getfield 36, 3) := by decide +kernel
theorem dX9_made_305 : decode cX9_made 305 = .ok (.iload 5, 2) := by decide +kernel
theorem dX9_made_307 : decode cX9_made 307 = .ok (.aload_n 0, 1) := by decide +kernel
theorem dX9_made_308 : decode cX9_made 308 = .ok (.getfield 39, 3) := by decide +kernel
theorem dX9_made_311 : decode cX9_made 311 = .ok (.iload 8, 2) := by decide +kernel
theorem dX9_made_313 : decode cX9_made 313 = .ok (.iaload, 1) := by decide +kernel
theorem dX9_made_314 : decode cX9_made 314 = .ok (.iastore, 1) := by decide +kernel
theorem dX9_made_315 : decode cX9_made 315 = .ok (.aload_n 0, 1) := by decide +kernel
theorem dX9_made_316 : decode cX9_made 316 = .ok (.getfield 39, 3) := by decide +kernel
theorem dX9_made_319 : decode cX9_made 319 = .ok (.iload 8, 2) := by decide +kernel
theorem dX9_made_321 : decode cX9_made 321 = .ok (.iload 5, 2) := by decide +kernel
theorem dX9_made_323 : decode cX9_made 323 = .ok (.iastore, 1) := by decide +kernel
theorem dX9_made_324 : decode cX9_made 324 = .ok (.aload_n 0, 1) := by decide +kernel
theorem dX9_made_325 : decode cX9_made 325 = .ok (.dup, 1) := by decide +kernel
theorem dX9_made_326 : decode cX9_made 326 = .ok (.getfield 45, 3) := by decide +kernel
theorem dX9_made_329 : decode cX9_made 329 = .ok (.iconst 1, 1) := by decide +kernel
theorem dX9_made_330 : decode cX9_made 330 = .ok (.iadd, 1) := by decide +kernel
theorem dX9_made_331 : decode cX9_made 331 = .ok (.putfield 45, 3) := by decide +kernel
theorem dX9_made_334 : decode cX9_made 334 = .ok (.iload 5, 2) := by decide +kernel
theorem dX9_made_336 : decode cX9_made 336 = .ok (.ireturn, 1) := by decide +kernel
theorem dX9_bucketOf_0 : decode cX9_bucketOf 0 = .ok (.aload_n 0, 1) := by decide +kernel
theorem dX9_bucketOf_1 : decode cX9_bucketOf 1 = .ok (.getfield 11, 3) := by decide +kernel
theorem dX9_bucketOf_4 : decode cX9_bucketOf 4 = .ok (.iload_n 1, 1) := by decide +kernel
theorem dX9_bucketOf_5 : decode cX9_bucketOf 5 = .ok (.iaload, 1) := by decide +kernel
theorem dX9_bucketOf_6 : decode cX9_bucketOf 6 = .ok (.iconst (-1), 1) := by decide +kernel
theorem dX9_bucketOf_7 : decode cX9_bucketOf 7 = .ok (.invokestatic 86, 3) := by decide +kernel
theorem dX9_bucketOf_10 : decode cX9_bucketOf 10 = .ok (.istore_n 2, 1) := by decide +kernel
theorem dX9_bucketOf_11 : decode cX9_bucketOf 11 = .ok (.iconst 0, 1) := by decide +kernel
theorem dX9_bucketOf_12 : decode cX9_bucketOf 12 = .ok (.istore_n 3, 1) := by decide +kernel
theorem dX9_bucketOf_13 : decode cX9_bucketOf 13 = .ok (.iload_n 3, 1) := by decide +kernel
theorem dX9_bucketOf_14 : decode cX9_bucketOf 14 = .ok (.aload_n 0, 1) := by decide +kernel
theorem dX9_bucketOf_15 : decode cX9_bucketOf 15 = .ok (.getfield 15, 3) := by decide +kernel
theorem dX9_bucketOf_18 : decode cX9_bucketOf 18 = .ok (.iload_n 1, 1) := by decide +kernel
theorem dX9_bucketOf_19 : decode cX9_bucketOf 19 = .ok (.iaload, 1) := by decide +kernel
theorem dX9_bucketOf_20 : decode cX9_bucketOf 20 = .ok (.if_icmp .ge 30, 3) := by decide +kernel
theorem dX9_bucketOf_23 : decode cX9_bucketOf 23 = .ok (.iload_n 2, 1) := by decide +kernel
theorem dX9_bucketOf_24 : decode cX9_bucketOf 24 = .ok (.bipush 37, 2) := by decide +kernel
theorem dX9_bucketOf_26 : decode cX9_bucketOf 26 = .ok (.imul, 1) := by decide +kernel
theorem dX9_bucketOf_27 : decode cX9_bucketOf 27 = .ok (.aload_n 0, 1) := by decide +kernel
theorem dX9_bucketOf_28 : decode cX9_bucketOf 28 = .ok (.getfield 33, 3) := by decide +kernel
theorem dX9_bucketOf_31 : decode cX9_bucketOf 31 = .ok (.aload_n 0, 1) := by decide +kernel
theorem dX9_bucketOf_32 : decode cX9_bucketOf 32 = .ok (.getfield 18, 3) := by decide +kernel
theorem dX9_bucketOf_35 : decode cX9_bucketOf 35 = .ok (.iload_n 1, 1) := by decide +kernel
theorem dX9_bucketOf_36 : decode cX9_bucketOf 36 = .ok (.iconst 3, 1) := by decide +kernel
theorem dX9_bucketOf_37 : decode cX9_bucketOf 37 = .ok (.imul, 1) := by decide +kernel
theorem dX9_bucketOf_38 : decode cX9_bucketOf 38 = .ok (.iload_n 3, 1) := by decide +kernel
theorem dX9_bucketOf_39 : decode cX9_bucketOf 39 = .ok (.iadd, 1) := by decide +kernel
theorem dX9_bucketOf_40 : decode cX9_bucketOf 40 = .ok (.iaload, 1) := by decide +kernel
theorem dX9_bucketOf_41 : decode cX9_bucketOf 41 = .ok (.iaload, 1) := by decide +kernel
theorem dX9_bucketOf_42 : decode cX9_bucketOf 42 = .ok (.iadd, 1) := by decide +kernel
theorem dX9_bucketOf_43 : decode cX9_bucketOf 43 = .ok (.istore_n 2, 1) := by decide +kernel
theorem dX9_bucketOf_44 : decode cX9_bucketOf 44 = .ok (.iinc 3 1, 3) := by decide +kernel
theorem dX9_bucketOf_47 : decode cX9_bucketOf 47 = .ok (.goto (-34), 3) := by decide +kernel
theorem dX9_bucketOf_50 : decode cX9_bucketOf 50 = .ok (.iload_n 2, 1) := by decide +kernel
theorem dX9_bucketOf_51 : decode cX9_bucketOf 51 = .ok (.iload_n 2, 1) := by decide +kernel
theorem dX9_bucketOf_52 : decode cX9_bucketOf 52 = .ok (.bipush 8, 2) := by decide +kernel
theorem dX9_bucketOf_54 : decode cX9_bucketOf 54 = .ok (.iushr, 1) := by decide +kernel
theorem dX9_bucketOf_55 : decode cX9_bucketOf 55 = .ok (.ixor, 1) := by decide +kernel
theorem dX9_bucketOf_56 : decode cX9_bucketOf 56 = .ok (.sipush 255, 3) := by decide +kernel
theorem dX9_bucketOf_59 : decode cX9_bucketOf 59 = .ok (.iand, 1) := by decide +kernel
theorem dX9_bucketOf_60 : decode cX9_bucketOf 60 = .ok (.ireturn, 1) := by decide +kernel
theorem dX9_isSame_0 : decode cX9_isSame 0 = .ok (.aload_n 0, 1) := by decide +kernel
theorem dX9_isSame_1 : decode cX9_isSame 1 = .ok (.getfield 11, 3) := by decide +kernel
theorem dX9_isSame_4 : decode cX9_isSame 4 = .ok (.iload_n 1, 1) := by decide +kernel
theorem dX9_isSame_5 : decode cX9_isSame 5 = .ok (.iaload, 1) := by decide +kernel
theorem dX9_isSame_6 : decode cX9_isSame 6 = .ok (.aload_n 0, 1) := by decide +kernel
theorem dX9_isSame_7 : decode cX9_isSame 7 = .ok (.getfield 11, 3) := by decide +kernel
theorem dX9_isSame_10 : decode cX9_isSame 10 = .ok (.iload_n 2, 1) := by decide +kernel
theorem dX9_isSame_11 : decode cX9_isSame 11 = .ok (.iaload, 1) := by decide +kernel
theorem dX9_isSame_12 : decode cX9_isSame 12 = .ok (.if_icmp .ne 7, 3) := by decide +kernel
theorem dX9_isSame_15 : decode cX9_isSame 15 = .ok (.iconst 1, 1) := by decide +kernel
theorem dX9_isSame_16 : decode cX9_isSame 16 = .ok (.goto 4, 3) := by decide +kernel
theorem dX9_isSame_19 : decode cX9_isSame 19 = .ok (.iconst 0, 1) := by decide +kernel
theorem dX9_isSame_20 : decode cX9_isSame 20 = .ok (.istore_n 3, 1) := by decide +kernel
theorem dX9_isSame_21 : decode cX9_isSame 21 = .ok (.iconst 0, 1) := by decide +kernel
theorem dX9_isSame_22 : decode cX9_isSame 22 = .ok (.istore 4, 2) := by decide +kernel
theorem dX9_isSame_24 : decode cX9_isSame 24 = .ok (.iload 4, 2) := by decide +kernel
theorem dX9_isSame_26 : decode cX9_isSame 26 = .ok (.aload_n 0, 1) := by decide +kernel
theorem dX9_isSame_27 : decode cX9_isSame 27 = .ok (.getfield 15, 3) := by decide +kernel
theorem dX9_isSame_30 : decode cX9_isSame 30 = .ok (.iload_n 2, 1) := by decide +kernel
theorem dX9_isSame_31 : decode cX9_isSame 31 = .ok (.iaload, 1) := by decide +kernel
theorem dX9_isSame_32 : decode cX9_isSame 32 = .ok (.if_icmp .ge 44, 3) := by decide +kernel
theorem dX9_isSame_35 : decode cX9_isSame 35 = .ok (.iload_n 3, 1) := by decide +kernel
theorem dX9_isSame_36 : decode cX9_isSame 36 = .ok (.ifCond .eq 40, 3) := by decide +kernel
theorem dX9_isSame_39 : decode cX9_isSame 39 = .ok (.aload_n 0, 1) := by decide +kernel
theorem dX9_isSame_40 : decode cX9_isSame 40 = .ok (.getfield 18, 3) := by decide +kernel
theorem dX9_isSame_43 : decode cX9_isSame 43 = .ok (.iload_n 1, 1) := by decide +kernel
theorem dX9_isSame_44 : decode cX9_isSame 44 = .ok (.iconst 3, 1) := by decide +kernel
theorem dX9_isSame_45 : decode cX9_isSame 45 = .ok (.imul, 1) := by decide +kernel
theorem dX9_isSame_46 : decode cX9_isSame 46 = .ok (.iload 4, 2) := by decide +kernel
theorem dX9_isSame_48 : decode cX9_isSame 48 = .ok (.iadd, 1) := by decide +kernel
theorem dX9_isSame_49 : decode cX9_isSame 49 = .ok (.iaload, 1) := by decide +kernel
theorem dX9_isSame_50 : decode cX9_isSame 50 = .ok (.aload_n 0, 1) := by decide +kernel
theorem dX9_isSame_51 : decode cX9_isSame 51 = .ok (.getfield 18, 3) := by decide +kernel
theorem dX9_isSame_54 : decode cX9_isSame 54 = .ok (.iload_n 2, 1) := by decide +kernel
theorem dX9_isSame_55 : decode cX9_isSame 55 = .ok (.iconst 3, 1) := by decide +kernel
theorem dX9_isSame_56 : decode cX9_isSame 56 = .ok (.imul, 1) := by decide +kernel
theorem dX9_isSame_57 : decode cX9_isSame 57 = .ok (.iload 4, 2) := by decide +kernel
theorem dX9_isSame_59 : decode cX9_isSame 59 = .ok (.iadd, 1) := by decide +kernel
theorem dX9_isSame_60 : decode cX9_isSame 60 = .ok (.iaload, 1) := by decide +kernel
theorem dX9_isSame_61 : decode cX9_isSame 61 = .ok (.if_icmp .ne 7, 3) := by decide +kernel
theorem dX9_isSame_64 : decode cX9_isSame 64 = .ok (.iconst 1, 1) := by decide +kernel
theorem dX9_isSame_65 : decode cX9_isSame 65 = .ok (.goto 4, 3) := by decide +kernel
theorem dX9_isSame_68 : decode cX9_isSame 68 = .ok (.iconst 0, 1) := by decide +kernel
theorem dX9_isSame_69 : decode cX9_isSame 69 = .ok (.istore_n 3, 1) := by decide +kernel
theorem dX9_isSame_70 : decode cX9_isSame 70 = .ok (.iinc 4 1, 3) := by decide +kernel
theorem dX9_isSame_73 : decode cX9_isSame 73 = .ok (.goto (-49), 3) := by decide +kernel
theorem dX9_isSame_76 : decode cX9_isSame 76 = .ok (.iload_n 3, 1) := by decide +kernel
theorem dX9_isSame_77 : decode cX9_isSame 77 = .ok (.ireturn, 1) := by decide +kernel
theorem dX9_hasShapeOf_0 : decode cX9_hasShapeOf 0 = .ok (.aload_n 0, 1) := by decide +kernel
theorem dX9_hasShapeOf_1 : decode cX9_hasShapeOf 1 = .ok (.getfield 11, 3) := by decide +kernel
theorem dX9_hasShapeOf_4 : decode cX9_hasShapeOf 4 = .ok (.iload_n 1, 1) := by decide +kernel
theorem dX9_hasShapeOf_5 : decode cX9_hasShapeOf 5 = .ok (.iaload, 1) := by decide +kernel
theorem dX9_hasShapeOf_6 : decode cX9_hasShapeOf 6 = .ok (.aload_n 0, 1) := by decide +kernel
theorem dX9_hasShapeOf_7 : decode cX9_hasShapeOf 7 = .ok (.getfield 11, 3) := by decide +kernel
theorem dX9_hasShapeOf_10 : decode cX9_hasShapeOf 10 = .ok (.iload_n 2, 1) := by decide +kernel
theorem dX9_hasShapeOf_11 : decode cX9_hasShapeOf 11 = .ok (.iaload, 1) := by decide +kernel
theorem dX9_hasShapeOf_12 : decode cX9_hasShapeOf 12 = .ok (.if_icmp .eq 21, 3) := by decide +kernel
theorem dX9_hasShapeOf_15 : decode cX9_hasShapeOf 15 = .ok (.aload_n 0, 1) := by decide +kernel
theorem dX9_hasShapeOf_16 : decode cX9_hasShapeOf 16 = .ok (.getfield 11, 3) := by decide +kernel
theorem dX9_hasShapeOf_19 : decode cX9_hasShapeOf 19 = .ok (.iload_n 1, 1) := by decide +kernel
theorem dX9_hasShapeOf_20 : decode cX9_hasShapeOf 20 = .ok (.iaload, 1) := by decide +kernel
theorem dX9_hasShapeOf_21 : decode cX9_hasShapeOf 21 = .ok (.ifCond .ge 16, 3) := by decide +kernel
theorem dX9_hasShapeOf_24 : decode cX9_hasShapeOf 24 = .ok (.aload_n 0, 1) := by decide +kernel
theorem dX9_hasShapeOf_25 : decode cX9_hasShapeOf 25 = .ok (.getfield 11, 3) := by decide +kernel
theorem dX9_hasShapeOf_28 : decode cX9_hasShapeOf 28 = .ok (.iload_n 2, 1) := by decide +kernel
theorem dX9_hasShapeOf_29 : decode cX9_hasShapeOf 29 = .ok (.iaload, 1) := by decide +kernel
theorem dX9_hasShapeOf_30 : decode cX9_hasShapeOf 30 = .ok (.ifCond .ge 7, 3) := by decide +kernel
theorem dX9_hasShapeOf_33 : decode cX9_hasShapeOf 33 = .ok (.iconst 1, 1) := by decide +kernel
theorem dX9_hasShapeOf_34 : decode cX9_hasShapeOf 34 = .ok (.goto 4, 3) := by decide +kernel
theorem dX9_hasShapeOf_37 : decode cX9_hasShapeOf 37 = .ok (.iconst 0, 1) := by decide +kernel
theorem dX9_hasShapeOf_38 : decode cX9_hasShapeOf 38 = .ok (.istore_n 3, 1) := by decide +kernel
theorem dX9_hasShapeOf_39 : decode cX9_hasShapeOf 39 = .ok (.iconst 0, 1) := by decide +kernel
theorem dX9_hasShapeOf_40 : decode cX9_hasShapeOf 40 = .ok (.istore 4, 2) := by decide +kernel
theorem dX9_hasShapeOf_42 : decode cX9_hasShapeOf 42 = .ok (.iload 4, 2) := by decide +kernel
theorem dX9_hasShapeOf_44 : decode cX9_hasShapeOf 44 = .ok (.aload_n 0, 1) := by decide +kernel
theorem dX9_hasShapeOf_45 : decode cX9_hasShapeOf 45 = .ok (.getfield 15, 3) := by decide +kernel
theorem dX9_hasShapeOf_48 : decode cX9_hasShapeOf 48 = .ok (.iload_n 2, 1) := by decide +kernel
theorem dX9_hasShapeOf_49 : decode cX9_hasShapeOf 49 = .ok (.iaload, 1) := by decide +kernel
theorem dX9_hasShapeOf_50 : decode cX9_hasShapeOf 50 = .ok (.if_icmp .ge 54, 3) := by decide +kernel
theorem dX9_hasShapeOf_53 : decode cX9_hasShapeOf 53 = .ok (.iload_n 3, 1) := by decide +kernel
theorem dX9_hasShapeOf_54 : decode cX9_hasShapeOf 54 = .ok (.ifCond .eq 50, 3) := by decide +kernel
theorem dX9_hasShapeOf_57 : decode cX9_hasShapeOf 57 = .ok (.aload_n 0, 1) := by decide +kernel
theorem dX9_hasShapeOf_58 : decode cX9_hasShapeOf 58 = .ok (.getfield 33, 3) := by decide +kernel
theorem dX9_hasShapeOf_61 : decode cX9_hasShapeOf 61 = .ok (.aload_n 0, 1) := by decide +kernel
theorem dX9_hasShapeOf_62 : decode cX9_hasShapeOf 62 = .ok (.getfield 18, 3) := by decide +kernel
theorem dX9_hasShapeOf_65 : decode cX9_hasShapeOf 65 = .ok (.iload_n 1, 1) := by decide +kernel
theorem dX9_hasShapeOf_66 : decode cX9_hasShapeOf 66 = .ok (.iconst 3, 1) := by decide +kernel
theorem dX9_hasShapeOf_67 : decode cX9_hasShapeOf 67 = .ok (.imul, 1) := by decide +kernel
theorem dX9_hasShapeOf_68 : decode cX9_hasShapeOf 68 = .ok (.iload 4, 2) := by decide +kernel
theorem dX9_hasShapeOf_70 : decode cX9_hasShapeOf 70 = .ok (.iadd, 1) := by decide +kernel
theorem dX9_hasShapeOf_71 : decode cX9_hasShapeOf 71 = .ok (.iaload, 1) := by decide +kernel
theorem dX9_hasShapeOf_72 : decode cX9_hasShapeOf 72 = .ok (.iaload, 1) := by decide +kernel
theorem dX9_hasShapeOf_73 : decode cX9_hasShapeOf 73 = .ok (.aload_n 0, 1) := by decide +kernel
theorem dX9_hasShapeOf_74 : decode cX9_hasShapeOf 74 = .ok (.getfield 33, 3) := by decide +kernel
theorem dX9_hasShapeOf_77 : decode cX9_hasShapeOf 77 = .ok (.aload_n 0, 1) := by decide +kernel
theorem dX9_hasShapeOf_78 : decode cX9_hasShapeOf 78 = .ok (.getfield 18, 3) := by decide +kernel
theorem dX9_hasShapeOf_81 : decode cX9_hasShapeOf 81 = .ok (.iload_n 2, 1) := by decide +kernel
theorem dX9_hasShapeOf_82 : decode cX9_hasShapeOf 82 = .ok (.iconst 3, 1) := by decide +kernel
theorem dX9_hasShapeOf_83 : decode cX9_hasShapeOf 83 = .ok (.imul, 1) := by decide +kernel
theorem dX9_hasShapeOf_84 : decode cX9_hasShapeOf 84 = .ok (.iload 4, 2) := by decide +kernel
theorem dX9_hasShapeOf_86 : decode cX9_hasShapeOf 86 = .ok (.iadd, 1) := by decide +kernel
theorem dX9_hasShapeOf_87 : decode cX9_hasShapeOf 87 = .ok (.iaload, 1) := by decide +kernel
theorem dX9_hasShapeOf_88 : decode cX9_hasShapeOf 88 = .ok (.iaload, 1) := by decide +kernel
theorem dX9_hasShapeOf_89 : decode cX9_hasShapeOf 89 = .ok (.if_icmp .ne 7, 3) := by decide +kernel
theorem dX9_hasShapeOf_92 : decode cX9_hasShapeOf 92 = .ok (.iconst 1, 1) := by decide +kernel
theorem dX9_hasShapeOf_93 : decode cX9_hasShapeOf 93 = .ok (.goto 4, 3) := by decide +kernel
theorem dX9_hasShapeOf_96 : decode cX9_hasShapeOf 96 = .ok (.iconst 0, 1) := by decide +kernel
theorem dX9_hasShapeOf_97 : decode cX9_hasShapeOf 97 = .ok (.istore_n 3, 1) := by decide +kernel
theorem dX9_hasShapeOf_98 : decode cX9_hasShapeOf 98 = .ok (.iinc 4 1, 3) := by decide +kernel
theorem dX9_hasShapeOf_101 : decode cX9_hasShapeOf 101 = .ok (.goto (-59), 3) := by decide +kernel
theorem dX9_hasShapeOf_104 : decode cX9_hasShapeOf 104 = .ok (.iload_n 3, 1) := by decide +kernel
theorem dX9_hasShapeOf_105 : decode cX9_hasShapeOf 105 = .ok (.ireturn, 1) := by decide +kernel
theorem dX9_measure_0 : decode cX9_measure 0 = .ok (.aload_n 0, 1) := by decide +kernel
theorem dX9_measure_1 : decode cX9_measure 1 = .ok (.getfield 21, 3) := by decide +kernel
theorem dX9_measure_4 : decode cX9_measure 4 = .ok (.iload_n 1, 1) := by decide +kernel
theorem dX9_measure_5 : decode cX9_measure 5 = .ok (.iconst 1, 1) := by decide +kernel
theorem dX9_measure_6 : decode cX9_measure 6 = .ok (.iastore, 1) := by decide +kernel
theorem dX9_measure_7 : decode cX9_measure 7 = .ok (.aload_n 0, 1) := by decide +kernel
theorem dX9_measure_8 : decode cX9_measure 8 = .ok (.getfield 27, 3) := by decide +kernel
theorem dX9_measure_11 : decode cX9_measure 11 = .ok (.iload_n 1, 1) := by decide +kernel
theorem dX9_measure_12 : decode cX9_measure 12 = .ok (.iconst 1, 1) := by decide +kernel
theorem dX9_measure_13 : decode cX9_measure 13 = .ok (.iastore, 1) := by decide +kernel
theorem dX9_measure_14 : decode cX9_measure 14 = .ok (.aload_n 0, 1) := by decide +kernel
theorem dX9_measure_15 : decode cX9_measure 15 = .ok (.getfield 30, 3) := by decide +kernel
theorem dX9_measure_18 : decode cX9_measure 18 = .ok (.iload_n 1, 1) := by decide +kernel
theorem dX9_measure_19 : decode cX9_measure 19 = .ok (.aload_n 0, 1) := by decide +kernel
theorem dX9_measure_20 : decode cX9_measure 20 = .ok (.getfield 11, 3) := by decide +kernel
theorem dX9_measure_23 : decode cX9_measure 23 = .ok (.iload_n 1, 1) := by decide +kernel
theorem dX9_measure_24 : decode cX9_measure 24 = .ok (.iaload, 1) := by decide +kernel
theorem dX9_measure_25 : decode cX9_measure 25 = .ok (.ifCond .ge 16, 3) := by decide +kernel
theorem dX9_measure_28 : decode cX9_measure 28 = .ok (.iconst 1, 1) := by decide +kernel
theorem dX9_measure_29 : decode cX9_measure 29 = .ok (.aload_n 0, 1) := by decide +kernel
theorem dX9_measure_30 : decode cX9_measure 30 = .ok (.getfield 11, 3) := by decide +kernel
theorem dX9_measure_33 : decode cX9_measure 33 = .ok (.iload_n 1, 1) := by decide +kernel
theorem dX9_measure_34 : decode cX9_measure 34 = .ok (.iaload, 1) := by decide +kernel
theorem dX9_measure_35 : decode cX9_measure 35 = .ok (.iconst (-1), 1) := by decide +kernel
theorem dX9_measure_36 : decode cX9_measure 36 = .ok (.ixor, 1) := by decide +kernel
theorem dX9_measure_37 : decode cX9_measure 37 = .ok (.ishl, 1) := by decide +kernel
theorem dX9_measure_38 : decode cX9_measure 38 = .ok (.goto 4, 3) := by decide +kernel
theorem dX9_measure_41 : decode cX9_measure 41 = .ok (.iconst 0, 1) := by decide +kernel
theorem dX9_measure_42 : decode cX9_measure 42 = .ok (.iastore, 1) := by decide +kernel
theorem dX9_measure_43 : decode cX9_measure 43 = .ok (.iconst 0, 1) := by decide +kernel
theorem dX9_measure_44 : decode cX9_measure 44 = .ok (.istore_n 2, 1) := by decide +kernel
theorem dX9_measure_45 : decode cX9_measure 45 = .ok (.iload_n 2, 1) := by decide +kernel
theorem dX9_measure_46 : decode cX9_measure 46 = .ok (.aload_n 0, 1) := by decide +kernel
theorem dX9_measure_47 : decode cX9_measure 47 = .ok (.getfield 15, 3) := by decide +kernel
theorem dX9_measure_50 : decode cX9_measure 50 = .ok (.iload_n 1, 1) := by decide +kernel
theorem dX9_measure_51 : decode cX9_measure 51 = .ok (.iaload, 1) := by decide +kernel
theorem dX9_measure_52 : decode cX9_measure 52 = .ok (.if_icmp .ge 88, 3) := by decide +kernel
theorem dX9_measure_55 : decode cX9_measure 55 = .ok (.aload_n 0, 1) := by decide +kernel
theorem dX9_measure_56 : decode cX9_measure 56 = .ok (.getfield 18, 3) := by decide +kernel
theorem dX9_measure_59 : decode cX9_measure 59 = .ok (.iload_n 1, 1) := by decide +kernel
theorem dX9_measure_60 : decode cX9_measure 60 = .ok (.iconst 3, 1) := by decide +kernel
theorem dX9_measure_61 : decode cX9_measure 61 = .ok (.imul, 1) := by decide +kernel
theorem dX9_measure_62 : decode cX9_measure 62 = .ok (.iload_n 2, 1) := by decide +kernel
theorem dX9_measure_63 : decode cX9_measure 63 = .ok (.iadd, 1) := by decide +kernel
theorem dX9_measure_64 : decode cX9_measure 64 = .ok (.iaload, 1) := by decide +kernel
theorem dX9_measure_65 : decode cX9_measure 65 = .ok (.istore_n 3, 1) := by decide +kernel
theorem dX9_measure_66 : decode cX9_measure 66 = .ok (.aload_n 0, 1) := by decide +kernel
theorem dX9_measure_67 : decode cX9_measure 67 = .ok (.getfield 21, 3) := by decide +kernel
theorem dX9_measure_70 : decode cX9_measure 70 = .ok (.iload_n 1, 1) := by decide +kernel
theorem dX9_measure_71 : decode cX9_measure 71 = .ok (.dup2, 1) := by decide +kernel
theorem dX9_measure_72 : decode cX9_measure 72 = .ok (.iaload, 1) := by decide +kernel
theorem dX9_measure_73 : decode cX9_measure 73 = .ok (.aload_n 0, 1) := by decide +kernel
theorem dX9_measure_74 : decode cX9_measure 74 = .ok (.getfield 21, 3) := by decide +kernel
theorem dX9_measure_77 : decode cX9_measure 77 = .ok (.iload_n 3, 1) := by decide +kernel
theorem dX9_measure_78 : decode cX9_measure 78 = .ok (.iaload, 1) := by decide +kernel
theorem dX9_measure_79 : decode cX9_measure 79 = .ok (.iadd, 1) := by decide +kernel
theorem dX9_measure_80 : decode cX9_measure 80 = .ok (.iastore, 1) := by decide +kernel
theorem dX9_measure_81 : decode cX9_measure 81 = .ok (.aload_n 0, 1) := by decide +kernel
theorem dX9_measure_82 : decode cX9_measure 82 = .ok (.getfield 24, 3) := by decide +kernel
theorem dX9_measure_85 : decode cX9_measure 85 = .ok (.iload_n 1, 1) := by decide +kernel
theorem dX9_measure_86 : decode cX9_measure 86 = .ok (.dup2, 1) := by decide +kernel
theorem dX9_measure_87 : decode cX9_measure 87 = .ok (.iaload, 1) := by decide +kernel
theorem dX9_measure_88 : decode cX9_measure 88 = .ok (.aload_n 0, 1) := by decide +kernel
theorem dX9_measure_89 : decode cX9_measure 89 = .ok (.getfield 24, 3) := by decide +kernel
theorem dX9_measure_92 : decode cX9_measure 92 = .ok (.iload_n 3, 1) := by decide +kernel
theorem dX9_measure_93 : decode cX9_measure 93 = .ok (.iaload, 1) := by decide +kernel
theorem dX9_measure_94 : decode cX9_measure 94 = .ok (.iadd, 1) := by decide +kernel
theorem dX9_measure_95 : decode cX9_measure 95 = .ok (.iastore, 1) := by decide +kernel
theorem dX9_measure_96 : decode cX9_measure 96 = .ok (.aload_n 0, 1) := by decide +kernel
theorem dX9_measure_97 : decode cX9_measure 97 = .ok (.getfield 27, 3) := by decide +kernel
theorem dX9_measure_100 : decode cX9_measure 100 = .ok (.iload_n 1, 1) := by decide +kernel
theorem dX9_measure_101 : decode cX9_measure 101 = .ok (.aload_n 0, 1) := by decide +kernel
theorem dX9_measure_102 : decode cX9_measure 102 = .ok (.getfield 27, 3) := by decide +kernel
theorem dX9_measure_105 : decode cX9_measure 105 = .ok (.iload_n 1, 1) := by decide +kernel
theorem dX9_measure_106 : decode cX9_measure 106 = .ok (.iaload, 1) := by decide +kernel
theorem dX9_measure_107 : decode cX9_measure 107 = .ok (.aload_n 0, 1) := by decide +kernel
theorem dX9_measure_108 : decode cX9_measure 108 = .ok (.getfield 27, 3) := by decide +kernel
theorem dX9_measure_111 : decode cX9_measure 111 = .ok (.iload_n 3, 1) := by decide +kernel
theorem dX9_measure_112 : decode cX9_measure 112 = .ok (.iaload, 1) := by decide +kernel
theorem dX9_measure_113 : decode cX9_measure 113 = .ok (.iconst 1, 1) := by decide +kernel
theorem dX9_measure_114 : decode cX9_measure 114 = .ok (.iadd, 1) := by decide +kernel
theorem dX9_measure_115 : decode cX9_measure 115 = .ok (.invokestatic 86, 3) := by decide +kernel
theorem dX9_measure_118 : decode cX9_measure 118 = .ok (.iastore, 1) := by decide +kernel
theorem dX9_measure_119 : decode cX9_measure 119 = .ok (.aload_n 0, 1) := by decide +kernel
theorem dX9_measure_120 : decode cX9_measure 120 = .ok (.getfield 30, 3) := by decide +kernel
theorem dX9_measure_123 : decode cX9_measure 123 = .ok (.iload_n 1, 1) := by decide +kernel
theorem dX9_measure_124 : decode cX9_measure 124 = .ok (.dup2, 1) := by decide +kernel
theorem dX9_measure_125 : decode cX9_measure 125 = .ok (.iaload, 1) := by decide +kernel
theorem dX9_measure_126 : decode cX9_measure 126 = .ok (.aload_n 0, 1) := by decide +kernel
theorem dX9_measure_127 : decode cX9_measure 127 = .ok (.getfield 30, 3) := by decide +kernel
theorem dX9_measure_130 : decode cX9_measure 130 = .ok (.iload_n 3, 1) := by decide +kernel
theorem dX9_measure_131 : decode cX9_measure 131 = .ok (.iaload, 1) := by decide +kernel
theorem dX9_measure_132 : decode cX9_measure 132 = .ok (.ior, 1) := by decide +kernel
theorem dX9_measure_133 : decode cX9_measure 133 = .ok (.iastore, 1) := by decide +kernel
theorem dX9_measure_134 : decode cX9_measure 134 = .ok (.iinc 2 1, 3) := by decide +kernel
theorem dX9_measure_137 : decode cX9_measure 137 = .ok (.goto (-92), 3) := by decide +kernel
theorem dX9_measure_140 : decode cX9_measure 140 = .ok (.return_, 1) := by decide +kernel
theorem dX9_cutTo_0 : decode cX9_cutTo 0 = .ok (.aload_n 0, 1) := by decide +kernel
theorem dX9_cutTo_1 : decode cX9_cutTo 1 = .ok (.getfield 45, 3) := by decide +kernel
theorem dX9_cutTo_4 : decode cX9_cutTo 4 = .ok (.iconst 1, 1) := by decide +kernel
theorem dX9_cutTo_5 : decode cX9_cutTo 5 = .ok (.isub, 1) := by decide +kernel
theorem dX9_cutTo_6 : decode cX9_cutTo 6 = .ok (.istore_n 2, 1) := by decide +kernel
theorem dX9_cutTo_7 : decode cX9_cutTo 7 = .ok (.iload_n 2, 1) := by decide +kernel
theorem dX9_cutTo_8 : decode cX9_cutTo 8 = .ok (.iload_n 1, 1) := by decide +kernel
theorem dX9_cutTo_9 : decode cX9_cutTo 9 = .ok (.if_icmp .lt 34, 3) := by decide +kernel
theorem dX9_cutTo_12 : decode cX9_cutTo 12 = .ok (.iload_n 2, 1) := by decide +kernel
theorem dX9_cutTo_13 : decode cX9_cutTo 13 = .ok (.ifCond .lt 30, 3) := by decide +kernel
theorem dX9_cutTo_16 : decode cX9_cutTo 16 = .ok (.aload_n 0, 1) := by decide +kernel
theorem dX9_cutTo_17 : decode cX9_cutTo 17 = .ok (.getfield 39, 3) := by decide +kernel
theorem dX9_cutTo_20 : decode cX9_cutTo 20 = .ok (.aload_n 0, 1) := by decide +kernel
theorem dX9_cutTo_21 : decode cX9_cutTo 21 = .ok (.iload_n 2, 1) := by decide +kernel
theorem dX9_cutTo_22 : decode cX9_cutTo 22 = .ok (.invokevirtual 71, 3) := by decide +kernel
theorem dX9_cutTo_25 : decode cX9_cutTo 25 = .ok (.aload_n 0, 1) := by decide +kernel
theorem dX9_cutTo_26 : decode cX9_cutTo 26 = .ok (.getfield 36, 3) := by decide +kernel
theorem dX9_cutTo_29 : decode cX9_cutTo 29 = .ok (.iload_n 2, 1) := by decide +kernel
theorem dX9_cutTo_30 : decode cX9_cutTo 30 = .ok (.iaload, 1) := by decide +kernel
theorem dX9_cutTo_31 : decode cX9_cutTo 31 = .ok (.iastore, 1) := by decide +kernel
theorem dX9_cutTo_32 : decode cX9_cutTo 32 = .ok (.aload_n 0, 1) := by decide +kernel
theorem dX9_cutTo_33 : decode cX9_cutTo 33 = .ok (.iload_n 2, 1) := by decide +kernel
theorem dX9_cutTo_34 : decode cX9_cutTo 34 = .ok (.putfield 45, 3) := by decide +kernel
theorem dX9_cutTo_37 : decode cX9_cutTo 37 = .ok (.iinc 2 (-1), 3) := by decide +kernel
theorem dX9_cutTo_40 : decode cX9_cutTo 40 = .ok (.goto (-33), 3) := by decide +kernel
theorem dX9_cutTo_43 : decode cX9_cutTo 43 = .ok (.return_, 1) := by decide +kernel
theorem dX9_hasPlace_0 : decode cX9_hasPlace 0 = .ok (.iload_n 2, 1) := by decide +kernel
theorem dX9_hasPlace_1 : decode cX9_hasPlace 1 = .ok (.ifCond .lt 17, 3) := by decide +kernel
theorem dX9_hasPlace_4 : decode cX9_hasPlace 4 = .ok (.iload_n 2, 1) := by decide +kernel
theorem dX9_hasPlace_5 : decode cX9_hasPlace 5 = .ok (.aload_n 0, 1) := by decide +kernel
theorem dX9_hasPlace_6 : decode cX9_hasPlace 6 = .ok (.getfield 21, 3) := by decide +kernel
theorem dX9_hasPlace_9 : decode cX9_hasPlace 9 = .ok (.iload_n 1, 1) := by decide +kernel
theorem dX9_hasPlace_10 : decode cX9_hasPlace 10 = .ok (.iaload, 1) := by decide +kernel
theorem dX9_hasPlace_11 : decode cX9_hasPlace 11 = .ok (.if_icmp .ge 7, 3) := by decide +kernel
theorem dX9_hasPlace_14 : decode cX9_hasPlace 14 = .ok (.iconst 1, 1) := by decide +kernel
theorem dX9_hasPlace_15 : decode cX9_hasPlace 15 = .ok (.goto 4, 3) := by decide +kernel
theorem dX9_hasPlace_18 : decode cX9_hasPlace 18 = .ok (.iconst 0, 1) := by decide +kernel
theorem dX9_hasPlace_19 : decode cX9_hasPlace 19 = .ok (.ireturn, 1) := by decide +kernel
theorem dX9_inPlace_0 : decode cX9_inPlace 0 = .ok (.iload_n 1, 1) := by decide +kernel
theorem dX9_inPlace_1 : decode cX9_inPlace 1 = .ok (.istore_n 3, 1) := by decide +kernel
theorem dX9_inPlace_2 : decode cX9_inPlace 2 = .ok (.iload_n 2, 1) := by decide +kernel
theorem dX9_inPlace_3 : decode cX9_inPlace 3 = .ok (.istore 4, 2) := by decide +kernel
theorem dX9_inPlace_5 : decode cX9_inPlace 5 = .ok (.iconst 0, 1) := by decide +kernel
theorem dX9_inPlace_6 : decode cX9_inPlace 6 = .ok (.istore 5, 2) := by decide +kernel
theorem dX9_inPlace_8 : decode cX9_inPlace 8 = .ok (.iload 5, 2) := by decide +kernel
theorem dX9_inPlace_10 : decode cX9_inPlace 10 = .ok (.bipush 6, 2) := by decide +kernel
theorem dX9_inPlace_12 : decode cX9_inPlace 12 = .ok (.if_icmp .ge 42, 3) := by decide +kernel
theorem dX9_inPlace_15 : decode cX9_inPlace 15 = .ok (.iload 4, 2) := by decide +kernel
theorem dX9_inPlace_17 : decode cX9_inPlace 17 = .ok (.ifCond .le 37, 3) := by decide +kernel
theorem dX9_inPlace_20 : decode cX9_inPlace 20 = .ok (.aload_n 0, 1) := by decide +kernel
theorem dX9_inPlace_21 : decode cX9_inPlace 21 = .ok (.iload_n 3, 1) := by decide +kernel
theorem dX9_inPlace_22 : decode cX9_inPlace 22 = .ok (.iload 4, 2) := by decide +kernel
theorem dX9_inPlace_24 : decode cX9_inPlace 24 = .ok (.invokevirtual 92, 3) := by decide +kernel
theorem dX9_inPlace_27 : decode cX9_inPlace 27 = .ok (.istore 6, 2) := by decide +kernel
theorem dX9_inPlace_29 : decode cX9_inPlace 29 = .ok (.aload_n 0, 1) := by decide +kernel
theorem dX9_inPlace_30 : decode cX9_inPlace 30 = .ok (.iload_n 3, 1) := by decide +kernel
theorem dX9_inPlace_31 : decode cX9_inPlace 31 = .ok (.iload 4, 2) := by decide +kernel
theorem dX9_inPlace_33 : decode cX9_inPlace 33 = .ok (.iload 6, 2) := by decide +kernel
theorem dX9_inPlace_35 : decode cX9_inPlace 35 = .ok (.invokevirtual 95, 3) := by decide +kernel
theorem dX9_inPlace_38 : decode cX9_inPlace 38 = .ok (.istore 4, 2) := by decide +kernel
theorem dX9_inPlace_40 : decode cX9_inPlace 40 = .ok (.aload_n 0, 1) := by decide +kernel
theorem dX9_inPlace_41 : decode cX9_inPlace 41 = .ok (.iload_n 3, 1) := by decide +kernel
theorem dX9_inPlace_42 : decode cX9_inPlace 42 = .ok (.iload 6, 2) := by decide +kernel
theorem dX9_inPlace_44 : decode cX9_inPlace 44 = .ok (.invokevirtual 99, 3) := by decide +kernel
theorem dX9_inPlace_47 : decode cX9_inPlace 47 = .ok (.istore_n 3, 1) := by decide +kernel
theorem dX9_inPlace_48 : decode cX9_inPlace 48 = .ok (.iinc 5 1, 3) := by decide +kernel
theorem dX9_inPlace_51 : decode cX9_inPlace 51 = .ok (.goto (-43), 3) := by decide +kernel
theorem dX9_inPlace_54 : decode cX9_inPlace 54 = .ok (.iload_n 3, 1) := by decide +kernel
theorem dX9_inPlace_55 : decode cX9_inPlace 55 = .ok (.ireturn, 1) := by decide +kernel
theorem dX9_argumentAtPlace_0 : decode cX9_argumentAtPlace 0 = .ok (.iconst 1, 1) := by decide +kernel
theorem dX9_argumentAtPlace_1 : decode cX9_argumentAtPlace 1 = .ok (.istore_n 3, 1) := by decide +kernel
theorem dX9_argumentAtPlace_2 : decode cX9_argumentAtPlace 2 = .ok (.aload_n 0, 1) := by decide +kernel
theorem dX9_argumentAtPlace_3 : decode cX9_argumentAtPlace 3 = .ok (.getfield 15, 3) := by decide +kernel
theorem dX9_argumentAtPlace_6 : decode cX9_argumentAtPlace 6 = .ok (.iload_n 1, 1) := by decide +kernel
theorem dX9_argumentAtPlace_7 : decode cX9_argumentAtPlace 7 = .ok (.iaload, 1) := by decide +kernel
theorem dX9_argumentAtPlace_8 : decode cX9_argumentAtPlace 8 = .ok (.iconst 1, 1) := by decide +kernel
theorem dX9_argumentAtPlace_9 : decode cX9_argumentAtPlace 9 = .ok (.isub, 1) := by decide +kernel
theorem dX9_argumentAtPlace_10 : decode cX9_argumentAtPlace 10 = .ok (.istore 4, 2) := by decide +kernel
theorem dX9_argumentAtPlace_12 : decode cX9_argumentAtPlace 12 = .ok (.iconst 0, 1) := by decide +kernel
theorem dX9_argumentAtPlace_13 : decode cX9_argumentAtPlace 13 = .ok (.istore 5, 2) := by decide +kernel
theorem dX9_argumentAtPlace_15 : decode cX9_argumentAtPlace 15 = .ok (.iload 5, 2) := by decide +kernel
theorem dX9_argumentAtPlace_17 : decode cX9_argumentAtPlace 17 = .ok (.iload 4, 2) := by decide +kernel
theorem dX9_argumentAtPlace_19 : decode cX9_argumentAtPlace 19 = .ok (.if_icmp .ge 32, 3) := by decide +kernel
theorem dX9_argumentAtPlace_22 : decode cX9_argumentAtPlace 22 = .ok (.iload_n 3, 1) := by decide +kernel
theorem dX9_argumentAtPlace_23 : decode cX9_argumentAtPlace 23 = .ok (.aload_n 0, 1) := by decide +kernel
theorem dX9_argumentAtPlace_24 : decode cX9_argumentAtPlace 24 = .ok (.getfield 21, 3) := by decide +kernel
theorem dX9_argumentAtPlace_27 : decode cX9_argumentAtPlace 27 = .ok (.aload_n 0, 1) := by decide +kernel
theorem dX9_argumentAtPlace_28 : decode cX9_argumentAtPlace 28 = .ok (.iload_n 1, 1) := by decide +kernel
theorem dX9_argumentAtPlace_29 : decode cX9_argumentAtPlace 29 = .ok (.iload 5, 2) := by decide +kernel
theorem dX9_argumentAtPlace_31 : decode cX9_argumentAtPlace 31 = .ok (.invokevirtual 99, 3) := by decide +kernel
theorem dX9_argumentAtPlace_34 : decode cX9_argumentAtPlace 34 = .ok (.iaload, 1) := by decide +kernel
theorem dX9_argumentAtPlace_35 : decode cX9_argumentAtPlace 35 = .ok (.iadd, 1) := by decide +kernel
theorem dX9_argumentAtPlace_36 : decode cX9_argumentAtPlace 36 = .ok (.istore_n 3, 1) := by decide +kernel
theorem dX9_argumentAtPlace_37 : decode cX9_argumentAtPlace 37 = .ok (.iload_n 2, 1) := by decide +kernel
theorem dX9_argumentAtPlace_38 : decode cX9_argumentAtPlace 38 = .ok (.iload_n 3, 1) := by decide +kernel
theorem dX9_argumentAtPlace_39 : decode cX9_argumentAtPlace 39 = .ok (.if_icmp .ge 6, 3) := by decide +kernel
theorem dX9_argumentAtPlace_42 : decode cX9_argumentAtPlace 42 = .ok (.iload 5, 2) := by decide +kernel
theorem dX9_argumentAtPlace_44 : decode cX9_argumentAtPlace 44 = .ok (.ireturn, 1) := by decide +kernel
theorem dX9_argumentAtPlace_45 : decode cX9_argumentAtPlace 45 = .ok (.iinc 5 1, 3) := by decide +kernel
theorem dX9_argumentAtPlace_48 : decode cX9_argumentAtPlace 48 = .ok (.goto (-33), 3) := by decide +kernel
theorem dX9_argumentAtPlace_51 : decode cX9_argumentAtPlace 51 = .ok (.iload 4, 2) := by decide +kernel
theorem dX9_argumentAtPlace_53 : decode cX9_argumentAtPlace 53 = .ok (.iconst 0, 1) := by decide +kernel
theorem dX9_argumentAtPlace_54 : decode cX9_argumentAtPlace 54 = .ok (.invokestatic 86, 3) := by decide +kernel
theorem dX9_argumentAtPlace_57 : decode cX9_argumentAtPlace 57 = .ok (.ireturn, 1) := by decide +kernel
theorem dX9_placeInArgument_0 : decode cX9_placeInArgument 0 = .ok (.iconst 1, 1) := by decide +kernel
theorem dX9_placeInArgument_1 : decode cX9_placeInArgument 1 = .ok (.istore 4, 2) := by decide +kernel
theorem dX9_placeInArgument_3 : decode cX9_placeInArgument 3 = .ok (.iconst 0, 1) := by decide +kernel
theorem dX9_placeInArgument_4 : decode cX9_placeInArgument 4 = .ok (.istore 5, 2) := by decide +kernel
theorem dX9_placeInArgument_6 : decode cX9_placeInArgument 6 = .ok (.iload 5, 2) := by decide +kernel
theorem dX9_placeInArgument_8 : decode cX9_placeInArgument 8 = .ok (.iload_n 3, 1) := by decide +kernel
theorem dX9_placeInArgument_9 : decode cX9_placeInArgument 9 = .ok (.if_icmp .ge 26, 3) := by decide +kernel
theorem dX9_placeInArgument_12 : decode cX9_placeInArgument 12 = .ok (.iload 4, 2) := by decide +kernel
theorem dX9_placeInArgument_14 : decode cX9_placeInArgument 14 = .ok (.aload_n 0, 1) := by decide +kernel
theorem dX9_placeInArgument_15 : decode cX9_placeInArgument 15 = .ok (.getfield 21, 3) := by decide +kernel
theorem dX9_placeInArgument_18 : decode cX9_placeInArgument 18 = .ok (.aload_n 0, 1) := by decide +kernel
theorem dX9_placeInArgument_19 : decode cX9_placeInArgument 19 = .ok (.iload_n 1, 1) := by decide +kernel
theorem dX9_placeInArgument_20 : decode cX9_placeInArgument 20 = .ok (.iload 5, 2) := by decide +kernel
theorem dX9_placeInArgument_22 : decode cX9_placeInArgument 22 = .ok (.invokevirtual 99, 3) := by decide +kernel
theorem dX9_placeInArgument_25 : decode cX9_placeInArgument 25 = .ok (.iaload, 1) := by decide +kernel
theorem dX9_placeInArgument_26 : decode cX9_placeInArgument 26 = .ok (.iadd, 1) := by decide +kernel
theorem dX9_placeInArgument_27 : decode cX9_placeInArgument 27 = .ok (.istore 4, 2) := by decide +kernel
theorem dX9_placeInArgument_29 : decode cX9_placeInArgument 29 = .ok (.iinc 5 1, 3) := by decide +kernel
theorem dX9_placeInArgument_32 : decode cX9_placeInArgument 32 = .ok (.goto (-26), 3) := by decide +kernel
theorem dX9_placeInArgument_35 : decode cX9_placeInArgument 35 = .ok (.iload_n 2, 1) := by decide +kernel
theorem dX9_placeInArgument_36 : decode cX9_placeInArgument 36 = .ok (.iload 4, 2) := by decide +kernel
theorem dX9_placeInArgument_38 : decode cX9_placeInArgument 38 = .ok (.isub, 1) := by decide +kernel
theorem dX9_placeInArgument_39 : decode cX9_placeInArgument 39 = .ok (.ireturn, 1) := by decide +kernel
theorem dX9_markParts_0 : decode cX9_markParts 0 = .ok (.aload_n 0, 1) := by decide +kernel
theorem dX9_markParts_1 : decode cX9_markParts 1 = .ok (.getfield 42, 3) := by decide +kernel
theorem dX9_markParts_4 : decode cX9_markParts 4 = .ok (.iconst 0, 1) := by decide +kernel
theorem dX9_markParts_5 : decode cX9_markParts 5 = .ok (.invokestatic 53, 3) := by decide +kernel
theorem dX9_markParts_8 : decode cX9_markParts 8 = .ok (.aload_n 0, 1) := by decide +kernel
theorem dX9_markParts_9 : decode cX9_markParts 9 = .ok (.getfield 42, 3) := by decide +kernel
theorem dX9_markParts_12 : decode cX9_markParts 12 = .ok (.iload_n 1, 1) := by decide +kernel
theorem dX9_markParts_13 : decode cX9_markParts 13 = .ok (.iconst 1, 1) := by decide +kernel
theorem dX9_markParts_14 : decode cX9_markParts 14 = .ok (.iastore, 1) := by decide +kernel
theorem dX9_markParts_15 : decode cX9_markParts 15 = .ok (.iload_n 1, 1) := by decide +kernel
theorem dX9_markParts_16 : decode cX9_markParts 16 = .ok (.istore_n 2, 1) := by decide +kernel
theorem dX9_markParts_17 : decode cX9_markParts 17 = .ok (.iload_n 2, 1) := by decide +kernel
theorem dX9_markParts_18 : decode cX9_markParts 18 = .ok (.ifCond .lt 49, 3) := by decide +kernel
theorem dX9_markParts_21 : decode cX9_markParts 21 = .ok (.iconst 0, 1) := by decide +kernel
theorem dX9_markParts_22 : decode cX9_markParts 22 = .ok (.istore_n 3, 1) := by decide +kernel
theorem dX9_markParts_23 : decode cX9_markParts 23 = .ok (.aload_n 0, 1) := by decide +kernel
theorem dX9_markParts_24 : decode cX9_markParts 24 = .ok (.getfield 42, 3) := by decide +kernel
theorem dX9_markParts_27 : decode cX9_markParts 27 = .ok (.iload_n 2, 1) := by decide +kernel
theorem dX9_markParts_28 : decode cX9_markParts 28 = .ok (.iaload, 1) := by decide +kernel
theorem dX9_markParts_29 : decode cX9_markParts 29 = .ok (.iconst 1, 1) := by decide +kernel
theorem dX9_markParts_30 : decode cX9_markParts 30 = .ok (.if_icmp .ne 31, 3) := by decide +kernel
theorem dX9_markParts_33 : decode cX9_markParts 33 = .ok (.iload_n 3, 1) := by decide +kernel
theorem dX9_markParts_34 : decode cX9_markParts 34 = .ok (.aload_n 0, 1) := by decide +kernel
theorem dX9_markParts_35 : decode cX9_markParts 35 = .ok (.getfield 15, 3) := by decide +kernel
theorem dX9_markParts_38 : decode cX9_markParts 38 = .ok (.iload_n 2, 1) := by decide +kernel
theorem dX9_markParts_39 : decode cX9_markParts 39 = .ok (.iaload, 1) := by decide +kernel
theorem dX9_markParts_40 : decode cX9_markParts 40 = .ok (.if_icmp .ge 21, 3) := by decide +kernel
theorem dX9_markParts_43 : decode cX9_markParts 43 = .ok (.aload_n 0, 1) := by decide +kernel
theorem dX9_markParts_44 : decode cX9_markParts 44 = .ok (.getfield 42, 3) := by decide +kernel
theorem dX9_markParts_47 : decode cX9_markParts 47 = .ok (.aload_n 0, 1) := by decide +kernel
theorem dX9_markParts_48 : decode cX9_markParts 48 = .ok (.iload_n 2, 1) := by decide +kernel
theorem dX9_markParts_49 : decode cX9_markParts 49 = .ok (.iload_n 3, 1) := by decide +kernel
theorem dX9_markParts_50 : decode cX9_markParts 50 = .ok (.invokevirtual 99, 3) := by decide +kernel
theorem dX9_markParts_53 : decode cX9_markParts 53 = .ok (.iconst 1, 1) := by decide +kernel
theorem dX9_markParts_54 : decode cX9_markParts 54 = .ok (.iastore, 1) := by decide +kernel
theorem dX9_markParts_55 : decode cX9_markParts 55 = .ok (.iinc 3 1, 3) := by decide +kernel
theorem dX9_markParts_58 : decode cX9_markParts 58 = .ok (.goto (-35), 3) := by decide +kernel
theorem dX9_markParts_61 : decode cX9_markParts 61 = .ok (.iinc 2 (-1), 3) := by decide +kernel
theorem dX9_markParts_64 : decode cX9_markParts 64 = .ok (.goto (-47), 3) := by decide +kernel
theorem dX9_markParts_67 : decode cX9_markParts 67 = .ok (.return_, 1) := by decide +kernel
theorem dX9_shared_0 : decode cX9_shared 0 = .ok (.aload_n 0, 1) := by decide +kernel
theorem dX9_shared_1 : decode cX9_shared 1 = .ok (.iload_n 1, 1) := by decide +kernel
theorem dX9_shared_2 : decode cX9_shared 2 = .ok (.invokevirtual 102, 3) := by decide +kernel
theorem dX9_shared_5 : decode cX9_shared 5 = .ok (.iconst 0, 1) := by decide +kernel
theorem dX9_shared_6 : decode cX9_shared 6 = .ok (.istore_n 2, 1) := by decide +kernel
theorem dX9_shared_7 : decode cX9_shared 7 = .ok (.iconst 0, 1) := by decide +kernel
theorem dX9_shared_8 : decode cX9_shared 8 = .ok (.istore_n 3, 1) := by decide +kernel
theorem dX9_shared_9 : decode cX9_shared 9 = .ok (.iload_n 3, 1) := by decide +kernel
theorem dX9_shared_10 : decode cX9_shared 10 = .ok (.iload_n 1, 1) := by decide +kernel
theorem dX9_shared_11 : decode cX9_shared 11 = .ok (.if_icmp .gt 18, 3) := by decide +kernel
theorem dX9_shared_14 : decode cX9_shared 14 = .ok (.iload_n 2, 1) := by decide +kernel
theorem dX9_shared_15 : decode cX9_shared 15 = .ok (.aload_n 0, 1) := by decide +kernel
theorem dX9_shared_16 : decode cX9_shared 16 = .ok (.getfield 42, 3) := by decide +kernel
theorem dX9_shared_19 : decode cX9_shared 19 = .ok (.iload_n 3, 1) := by decide +kernel
theorem dX9_shared_20 : decode cX9_shared 20 = .ok (.iaload, 1) := by decide +kernel
theorem dX9_shared_21 : decode cX9_shared 21 = .ok (.iadd, 1) := by decide +kernel
theorem dX9_shared_22 : decode cX9_shared 22 = .ok (.istore_n 2, 1) := by decide +kernel
theorem dX9_shared_23 : decode cX9_shared 23 = .ok (.iinc 3 1, 3) := by decide +kernel
theorem dX9_shared_26 : decode cX9_shared 26 = .ok (.goto (-17), 3) := by decide +kernel
theorem dX9_shared_29 : decode cX9_shared 29 = .ok (.iload_n 2, 1) := by decide +kernel
theorem dX9_shared_30 : decode cX9_shared 30 = .ok (.ireturn, 1) := by decide +kernel
theorem dX9_users_0 : decode cX9_users 0 = .ok (.iconst 0, 1) := by decide +kernel
theorem dX9_users_1 : decode cX9_users 1 = .ok (.istore_n 2, 1) := by decide +kernel
theorem dX9_users_2 : decode cX9_users 2 = .ok (.iload_n 1, 1) := by decide +kernel
theorem dX9_users_3 : decode cX9_users 3 = .ok (.iconst 1, 1) := by decide +kernel
theorem dX9_users_4 : decode cX9_users 4 = .ok (.iadd, 1) := by decide +kernel
theorem dX9_users_5 : decode cX9_users 5 = .ok (.istore_n 3, 1) := by decide +kernel
theorem dX9_users_6 : decode cX9_users 6 = .ok (.iload_n 3, 1) := by decide +kernel
theorem dX9_users_7 : decode cX9_users 7 = .ok (.aload_n 0, 1) := by decide +kernel
theorem dX9_users_8 : decode cX9_users 8 = .ok (.getfield 45, 3) := by decide +kernel
theorem dX9_users_11 : decode cX9_users 11 = .ok (.if_icmp .ge 42, 3) := by decide +kernel
theorem dX9_users_14 : decode cX9_users 14 = .ok (.aload_n 0, 1) := by decide +kernel
theorem dX9_users_15 : decode cX9_users 15 = .ok (.iload_n 3, 1) := by decide +kernel
theorem dX9_users_16 : decode cX9_users 16 = .ok (.iconst 0, 1) := by decide +kernel
theorem dX9_users_17 : decode cX9_users 17 = .ok (.invokevirtual 99, 3) := by decide +kernel
theorem dX9_users_20 : decode cX9_users 20 = .ok (.iload_n 1, 1) := by decide +kernel
theorem dX9_users_21 : decode cX9_users 21 = .ok (.if_icmp .eq 23, 3) := by decide +kernel
theorem dX9_users_24 : decode cX9_users 24 = .ok (.aload_n 0, 1) := by decide +kernel
theorem dX9_users_25 : decode cX9_users 25 = .ok (.iload_n 3, 1) := by decide +kernel
theorem dX9_users_26 : decode cX9_users 26 = .ok (.iconst 1, 1) := by decide +kernel
theorem dX9_users_27 : decode cX9_users 27 = .ok (.invokevirtual 99, 3) := by decide +kernel
theorem dX9_users_30 : decode cX9_users 30 = .ok (.iload_n 1, 1) := by decide +kernel
theorem dX9_users_31 : decode cX9_users 31 = .ok (.if_icmp .eq 13, 3) := by decide +kernel
theorem dX9_users_34 : decode cX9_users 34 = .ok (.aload_n 0, 1) := by decide +kernel
theorem dX9_users_35 : decode cX9_users 35 = .ok (.iload_n 3, 1) := by decide +kernel
theorem dX9_users_36 : decode cX9_users 36 = .ok (.iconst 2, 1) := by decide +kernel
theorem dX9_users_37 : decode cX9_users 37 = .ok (.invokevirtual 99, 3) := by decide +kernel
theorem dX9_users_40 : decode cX9_users 40 = .ok (.iload_n 1, 1) := by decide +kernel
theorem dX9_users_41 : decode cX9_users 41 = .ok (.if_icmp .ne 6, 3) := by decide +kernel
theorem dX9_users_44 : decode cX9_users 44 = .ok (.iinc 2 1, 3) := by decide +kernel
theorem dX9_users_47 : decode cX9_users 47 = .ok (.iinc 3 1, 3) := by decide +kernel
theorem dX9_users_50 : decode cX9_users 50 = .ok (.goto (-44), 3) := by decide +kernel
theorem dX9_users_53 : decode cX9_users 53 = .ok (.iload_n 2, 1) := by decide +kernel
theorem dX9_users_54 : decode cX9_users 54 = .ok (.ireturn, 1) := by decide +kernel
theorem dX9_unlikeShapes_0 : decode cX9_unlikeShapes 0 = .ok (.iconst 0, 1) := by decide +kernel
theorem dX9_unlikeShapes_1 : decode cX9_unlikeShapes 1 = .ok (.istore_n 1, 1) := by decide +kernel
theorem dX9_unlikeShapes_2 : decode cX9_unlikeShapes 2 = .ok (.iconst 0, 1) := by decide +kernel
theorem dX9_unlikeShapes_3 : decode cX9_unlikeShapes 3 = .ok (.istore_n 2, 1) := by decide +kernel
theorem dX9_unlikeShapes_4 : decode cX9_unlikeShapes 4 = .ok (.iload_n 2, 1) := by decide +kernel
theorem dX9_unlikeShapes_5 : decode cX9_unlikeShapes 5 = .ok (.aload_n 0, 1) := by decide +kernel
theorem dX9_unlikeShapes_6 : decode cX9_unlikeShapes 6 = .ok (.getfield 45, 3) := by decide +kernel
theorem dX9_unlikeShapes_9 : decode cX9_unlikeShapes 9 = .ok (.if_icmp .ge 27, 3) := by decide +kernel
theorem dX9_unlikeShapes_12 : decode cX9_unlikeShapes 12 = .ok (.iload_n 1, 1) := by decide +kernel
theorem dX9_unlikeShapes_13 : decode cX9_unlikeShapes 13 = .ok (.aload_n 0, 1) := by decide +kernel
theorem dX9_unlikeShapes_14 : decode cX9_unlikeShapes 14 = .ok (.getfield 33, 3) := by decide +kernel
theorem dX9_unlikeShapes_17 : decode cX9_unlikeShapes 17 = .ok (.iload_n 2, 1) := by decide +kernel
theorem dX9_unlikeShapes_18 : decode cX9_unlikeShapes 18 = .ok (.iaload, 1) := by decide +kernel
theorem dX9_unlikeShapes_19 : decode cX9_unlikeShapes 19 = .ok (.iload_n 2, 1) := by decide +kernel
theorem dX9_unlikeShapes_20 : decode cX9_unlikeShapes 20 = .ok (.if_icmp .ne 7, 3) := by decide +kernel
theorem dX9_unlikeShapes_23 : decode cX9_unlikeShapes 23 = .ok (.iconst 1, 1) := by decide +kernel
theorem dX9_unlikeShapes_24 : decode cX9_unlikeShapes 24 = .ok (.goto 4, 3) := by decide +kernel
theorem dX9_unlikeShapes_27 : decode cX9_unlikeShapes 27 = .ok (.iconst 0, 1) := by decide +kernel
theorem dX9_unlikeShapes_28 : decode cX9_unlikeShapes 28 = .ok (.iadd, 1) := by decide +kernel
theorem dX9_unlikeShapes_29 : decode cX9_unlikeShapes 29 = .ok (.istore_n 1, 1) := by decide +kernel
theorem dX9_unlikeShapes_30 : decode cX9_unlikeShapes 30 = .ok (.iinc 2 1, 3) := by decide +kernel
theorem dX9_unlikeShapes_33 : decode cX9_unlikeShapes 33 = .ok (.goto (-29), 3) := by decide +kernel
theorem dX9_unlikeShapes_36 : decode cX9_unlikeShapes 36 = .ok (.iload_n 1, 1) := by decide +kernel
theorem dX9_unlikeShapes_37 : decode cX9_unlikeShapes 37 = .ok (.ireturn, 1) := by decide +kernel
theorem dX9_takeFrom_0 : decode cX9_takeFrom 0 = .ok (.aload_n 0, 1) := by decide +kernel
theorem dX9_takeFrom_1 : decode cX9_takeFrom 1 = .ok (.aload_n 1, 1) := by decide +kernel
theorem dX9_takeFrom_2 : decode cX9_takeFrom 2 = .ok (.getfield 45, 3) := by decide +kernel
theorem dX9_takeFrom_5 : decode cX9_takeFrom 5 = .ok (.putfield 45, 3) := by decide +kernel
theorem dX9_takeFrom_8 : decode cX9_takeFrom 8 = .ok (.aload_n 1, 1) := by decide +kernel
theorem dX9_takeFrom_9 : decode cX9_takeFrom 9 = .ok (.getfield 11, 3) := by decide +kernel
theorem dX9_takeFrom_12 : decode cX9_takeFrom 12 = .ok (.iconst 0, 1) := by decide +kernel
theorem dX9_takeFrom_13 : decode cX9_takeFrom 13 = .ok (.aload_n 0, 1) := by decide +kernel
theorem dX9_takeFrom_14 : decode cX9_takeFrom 14 = .ok (.getfield 11, 3) := by decide +kernel
theorem dX9_takeFrom_17 : decode cX9_takeFrom 17 = .ok (.iconst 0, 1) := by decide +kernel
theorem dX9_takeFrom_18 : decode cX9_takeFrom 18 = .ok (.aload_n 0, 1) := by decide +kernel
theorem dX9_takeFrom_19 : decode cX9_takeFrom 19 = .ok (.getfield 45, 3) := by decide +kernel
theorem dX9_takeFrom_22 : decode cX9_takeFrom 22 = .ok (.invokestatic 105, 3) := by decide +kernel
theorem dX9_takeFrom_25 : decode cX9_takeFrom 25 = .ok (.aload_n 1, 1) := by decide +kernel
theorem dX9_takeFrom_26 : decode cX9_takeFrom 26 = .ok (.getfield 15, 3) := by decide +kernel
theorem dX9_takeFrom_29 : decode cX9_takeFrom 29 = .ok (.iconst 0, 1) := by decide +kernel
theorem dX9_takeFrom_30 : decode cX9_takeFrom 30 = .ok (.aload_n 0, 1) := by decide +kernel
theorem dX9_takeFrom_31 : decode cX9_takeFrom 31 = .ok (.getfield 15, 3) := by decide +kernel
theorem dX9_takeFrom_34 : decode cX9_takeFrom 34 = .ok (.iconst 0, 1) := by decide +kernel
theorem dX9_takeFrom_35 : decode cX9_takeFrom 35 = .ok (.aload_n 0, 1) := by decide +kernel
theorem dX9_takeFrom_36 : decode cX9_takeFrom 36 = .ok (.getfield 45, 3) := by decide +kernel
theorem dX9_takeFrom_39 : decode cX9_takeFrom 39 = .ok (.invokestatic 105, 3) := by decide +kernel
theorem dX9_takeFrom_42 : decode cX9_takeFrom 42 = .ok (.aload_n 1, 1) := by decide +kernel
theorem dX9_takeFrom_43 : decode cX9_takeFrom 43 = .ok (.getfield 18, 3) := by decide +kernel
theorem dX9_takeFrom_46 : decode cX9_takeFrom 46 = .ok (.iconst 0, 1) := by decide +kernel
theorem dX9_takeFrom_47 : decode cX9_takeFrom 47 = .ok (.aload_n 0, 1) := by decide +kernel
theorem dX9_takeFrom_48 : decode cX9_takeFrom 48 = .ok (.getfield 18, 3) := by decide +kernel
theorem dX9_takeFrom_51 : decode cX9_takeFrom 51 = .ok (.iconst 0, 1) := by decide +kernel
theorem dX9_takeFrom_52 : decode cX9_takeFrom 52 = .ok (.aload_n 0, 1) := by decide +kernel
theorem dX9_takeFrom_53 : decode cX9_takeFrom 53 = .ok (.getfield 45, 3) := by decide +kernel
theorem dX9_takeFrom_56 : decode cX9_takeFrom 56 = .ok (.iconst 3, 1) := by decide +kernel
theorem dX9_takeFrom_57 : decode cX9_takeFrom 57 = .ok (.imul, 1) := by decide +kernel
theorem dX9_takeFrom_58 : decode cX9_takeFrom 58 = .ok (.invokestatic 105, 3) := by decide +kernel
theorem dX9_takeFrom_61 : decode cX9_takeFrom 61 = .ok (.aload_n 1, 1) := by decide +kernel
theorem dX9_takeFrom_62 : decode cX9_takeFrom 62 = .ok (.getfield 21, 3) := by decide +kernel
theorem dX9_takeFrom_65 : decode cX9_takeFrom 65 = .ok (.iconst 0, 1) := by decide +kernel
theorem dX9_takeFrom_66 : decode cX9_takeFrom 66 = .ok (.aload_n 0, 1) := by decide +kernel
theorem dX9_takeFrom_67 : decode cX9_takeFrom 67 = .ok (.getfield 21, 3) := by decide +kernel
theorem dX9_takeFrom_70 : decode cX9_takeFrom 70 = .ok (.iconst 0, 1) := by decide +kernel
theorem dX9_takeFrom_71 : decode cX9_takeFrom 71 = .ok (.aload_n 0, 1) := by decide +kernel
theorem dX9_takeFrom_72 : decode cX9_takeFrom 72 = .ok (.getfield 45, 3) := by decide +kernel
theorem dX9_takeFrom_75 : decode cX9_takeFrom 75 = .ok (.invokestatic 105, 3) := by decide +kernel
theorem dX9_takeFrom_78 : decode cX9_takeFrom 78 = .ok (.aload_n 1, 1) := by decide +kernel
theorem dX9_takeFrom_79 : decode cX9_takeFrom 79 = .ok (.getfield 24, 3) := by decide +kernel
theorem dX9_takeFrom_82 : decode cX9_takeFrom 82 = .ok (.iconst 0, 1) := by decide +kernel
theorem dX9_takeFrom_83 : decode cX9_takeFrom 83 = .ok (.aload_n 0, 1) := by decide +kernel
theorem dX9_takeFrom_84 : decode cX9_takeFrom 84 = .ok (.getfield 24, 3) := by decide +kernel
theorem dX9_takeFrom_87 : decode cX9_takeFrom 87 = .ok (.iconst 0, 1) := by decide +kernel
theorem dX9_takeFrom_88 : decode cX9_takeFrom 88 = .ok (.aload_n 0, 1) := by decide +kernel
theorem dX9_takeFrom_89 : decode cX9_takeFrom 89 = .ok (.getfield 45, 3) := by decide +kernel
theorem dX9_takeFrom_92 : decode cX9_takeFrom 92 = .ok (.invokestatic 105, 3) := by decide +kernel
theorem dX9_takeFrom_95 : decode cX9_takeFrom 95 = .ok (.aload_n 1, 1) := by decide +kernel
theorem dX9_takeFrom_96 : decode cX9_takeFrom 96 = .ok (.getfield 27, 3) := by decide +kernel
theorem dX9_takeFrom_99 : decode cX9_takeFrom 99 = .ok (.iconst 0, 1) := by decide +kernel
theorem dX9_takeFrom_100 : decode cX9_takeFrom 100 = .ok (.aload_n 0, 1) := by decide +kernel
theorem dX9_takeFrom_101 : decode cX9_takeFrom 101 = .ok (.getfield 27, 3) := by decide +kernel
theorem dX9_takeFrom_104 : decode cX9_takeFrom 104 = .ok (.iconst 0, 1) := by decide +kernel
theorem dX9_takeFrom_105 : decode cX9_takeFrom 105 = .ok (.aload_n 0, 1) := by decide +kernel
theorem dX9_takeFrom_106 : decode cX9_takeFrom 106 = .ok (.getfield 45, 3) := by decide +kernel
theorem dX9_takeFrom_109 : decode cX9_takeFrom 109 = .ok (.invokestatic 105, 3) := by decide +kernel
theorem dX9_takeFrom_112 : decode cX9_takeFrom 112 = .ok (.aload_n 1, 1) := by decide +kernel
theorem dX9_takeFrom_113 : decode cX9_takeFrom 113 = .ok (.getfield 30, 3) := by decide +kernel
theorem dX9_takeFrom_116 : decode cX9_takeFrom 116 = .ok (.iconst 0, 1) := by decide +kernel
theorem dX9_takeFrom_117 : decode cX9_takeFrom 117 = .ok (.aload_n 0, 1) := by decide +kernel
theorem dX9_takeFrom_118 : decode cX9_takeFrom 118 = .ok (.getfield 30, 3) := by decide +kernel
theorem dX9_takeFrom_121 : decode cX9_takeFrom 121 = .ok (.iconst 0, 1) := by decide +kernel
theorem dX9_takeFrom_122 : decode cX9_takeFrom 122 = .ok (.aload_n 0, 1) := by decide +kernel
theorem dX9_takeFrom_123 : decode cX9_takeFrom 123 = .ok (.getfield 45, 3) := by decide +kernel
theorem dX9_takeFrom_126 : decode cX9_takeFrom 126 = .ok (.invokestatic 105, 3) := by decide +kernel
theorem dX9_takeFrom_129 : decode cX9_takeFrom 129 = .ok (.aload_n 1, 1) := by decide +kernel
theorem dX9_takeFrom_130 : decode cX9_takeFrom 130 = .ok (.getfield 33, 3) := by decide +kernel
theorem dX9_takeFrom_133 : decode cX9_takeFrom 133 = .ok (.iconst 0, 1) := by decide +kernel
theorem dX9_takeFrom_134 : decode cX9_takeFrom 134 = .ok (.aload_n 0, 1) := by decide +kernel
theorem dX9_takeFrom_135 : decode cX9_takeFrom 135 = .ok (.getfield 33, 3) := by decide +kernel
theorem dX9_takeFrom_138 : decode cX9_takeFrom 138 = .ok (.iconst 0, 1) := by decide +kernel
theorem dX9_takeFrom_139 : decode cX9_takeFrom 139 = .ok (.aload_n 0, 1) := by decide +kernel
theorem dX9_takeFrom_140 : decode cX9_takeFrom 140 = .ok (.getfield 45, 3) := by decide +kernel
theorem dX9_takeFrom_143 : decode cX9_takeFrom 143 = .ok (.invokestatic 105, 3) := by decide +kernel
theorem dX9_takeFrom_146 : decode cX9_takeFrom 146 = .ok (.aload_n 1, 1) := by decide +kernel
theorem dX9_takeFrom_147 : decode cX9_takeFrom 147 = .ok (.getfield 36, 3) := by decide +kernel
theorem dX9_takeFrom_150 : decode cX9_takeFrom 150 = .ok (.iconst 0, 1) := by decide +kernel
theorem dX9_takeFrom_151 : decode cX9_takeFrom 151 = .ok (.aload_n 0, 1) := by decide +kernel
theorem dX9_takeFrom_152 : decode cX9_takeFrom 152 = .ok (.getfield 36, 3) := by decide +kernel
theorem dX9_takeFrom_155 : decode cX9_takeFrom 155 = .ok (.iconst 0, 1) := by decide +kernel
theorem dX9_takeFrom_156 : decode cX9_takeFrom 156 = .ok (.aload_n 0, 1) := by decide +kernel
theorem dX9_takeFrom_157 : decode cX9_takeFrom 157 = .ok (.getfield 45, 3) := by decide +kernel
theorem dX9_takeFrom_160 : decode cX9_takeFrom 160 = .ok (.invokestatic 105, 3) := by decide +kernel
theorem dX9_takeFrom_163 : decode cX9_takeFrom 163 = .ok (.aload_n 1, 1) := by decide +kernel
theorem dX9_takeFrom_164 : decode cX9_takeFrom 164 = .ok (.getfield 39, 3) := by decide +kernel
theorem dX9_takeFrom_167 : decode cX9_takeFrom 167 = .ok (.iconst 0, 1) := by decide +kernel
theorem dX9_takeFrom_168 : decode cX9_takeFrom 168 = .ok (.aload_n 0, 1) := by decide +kernel
theorem dX9_takeFrom_169 : decode cX9_takeFrom 169 = .ok (.getfield 39, 3) := by decide +kernel
theorem dX9_takeFrom_172 : decode cX9_takeFrom 172 = .ok (.iconst 0, 1) := by decide +kernel
theorem dX9_takeFrom_173 : decode cX9_takeFrom 173 = .ok (.sipush 256, 3) := by decide +kernel
theorem dX9_takeFrom_176 : decode cX9_takeFrom 176 = .ok (.invokestatic 105, 3) := by decide +kernel
theorem dX9_takeFrom_179 : decode cX9_takeFrom 179 = .ok (.return_, 1) := by decide +kernel
