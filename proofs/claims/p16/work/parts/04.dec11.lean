theorem dX12_term1_217 : decode cX12_term1 217 = .ok (.iload_n 1, 1) := by decide +kernel
theorem dX12_term1_218 : decode cX12_term1 218 = .ok (.iconst 1, 1) := by decide +kernel
theorem dX12_term1_219 : decode cX12_term1 219 = .ok (.iadd, 1) := by decide +kernel
theorem dX12_term1_220 : decode cX12_term1 220 = .ok (.invokevirtual 298, 3) := by decide +kernel
theorem dX12_term1_223 : decode cX12_term1 223 = .ok (.goto 4, 3) := by decide +kernel
theorem dX12_term1_226 : decode cX12_term1 226 = .ok (.iconst 0, 1) := by decide +kernel
theorem dX12_term1_227 : decode cX12_term1 227 = .ok (.istore 5, 2) := by decide +kernel
theorem dX12_term1_229 : decode cX12_term1 229 = .ok (.iload_n 3, 1) := by decide +kernel
theorem dX12_term1_230 : decode cX12_term1 230 = .ok (.iconst 2, 1) := by decide +kernel
theorem dX12_term1_231 : decode cX12_term1 231 = .ok (.if_icmp .le 9, 3) := by decide +kernel
theorem dX12_term1_234 : decode cX12_term1 234 = .ok (.aload_n 0, 1) := by decide +kernel
theorem dX12_term1_235 : decode cX12_term1 235 = .ok (.bipush 44, 2) := by decide +kernel
theorem dX12_term1_237 : decode cX12_term1 237 = .ok (.invokevirtual 296, 3) := by decide +kernel
theorem dX12_term1_240 : decode cX12_term1 240 = .ok (.iload_n 3, 1) := by decide +kernel
theorem dX12_term1_241 : decode cX12_term1 241 = .ok (.iconst 2, 1) := by decide +kernel
theorem dX12_term1_242 : decode cX12_term1 242 = .ok (.if_icmp .le 13, 3) := by decide +kernel
theorem dX12_term1_245 : decode cX12_term1 245 = .ok (.aload_n 0, 1) := by decide +kernel
theorem dX12_term1_246 : decode cX12_term1 246 = .ok (.iload_n 1, 1) := by decide +kernel
theorem dX12_term1_247 : decode cX12_term1 247 = .ok (.iconst 1, 1) := by decide +kernel
theorem dX12_term1_248 : decode cX12_term1 248 = .ok (.iadd, 1) := by decide +kernel
theorem dX12_term1_249 : decode cX12_term1 249 = .ok (.invokevirtual 298, 3) := by decide +kernel
theorem dX12_term1_252 : decode cX12_term1 252 = .ok (.goto 4, 3) := by decide +kernel
theorem dX12_term1_255 : decode cX12_term1 255 = .ok (.iconst 0, 1) := by decide +kernel
theorem dX12_term1_256 : decode cX12_term1 256 = .ok (.istore 6, 2) := by decide +kernel
theorem dX12_term1_258 : decode cX12_term1 258 = .ok (.aload_n 0, 1) := by decide +kernel
theorem dX12_term1_259 : decode cX12_term1 259 = .ok (.bipush 41, 2) := by decide +kernel
theorem dX12_term1_261 : decode cX12_term1 261 = .ok (.invokevirtual 296, 3) := by decide +kernel
theorem dX12_term1_264 : decode cX12_term1 264 = .ok (.aload_n 0, 1) := by decide +kernel
theorem dX12_term1_265 : decode cX12_term1 265 = .ok (.getfield 273, 3) := by decide +kernel
theorem dX12_term1_268 : decode cX12_term1 268 = .ok (.ifCond .ne 17, 3) := by decide +kernel
theorem dX12_term1_271 : decode cX12_term1 271 = .ok (.aload_n 0, 1) := by decide +kernel
theorem dX12_term1_272 : decode cX12_term1 272 = .ok (.iload_n 2, 1) := by decide +kernel
theorem dX12_term1_273 : decode cX12_term1 273 = .ok (.iload 4, 2) := by decide +kernel
theorem dX12_term1_275 : decode cX12_term1 275 = .ok (.iload 5, 2) := by decide +kernel
theorem dX12_term1_277 : decode cX12_term1 277 = .ok (.iload 6, 2) := by decide +kernel
theorem dX12_term1_279 : decode cX12_term1 279 = .ok (.invokevirtual 107, 3) := by decide +kernel
theorem dX12_term1_282 : decode cX12_term1 282 = .ok (.goto 4, 3) := by decide +kernel
theorem dX12_term1_285 : decode cX12_term1 285 = .ok (.iconst 0, 1) := by decide +kernel
theorem dX12_term1_286 : decode cX12_term1 286 = .ok (.ireturn, 1) := by decide +kernel
theorem dX12_symbol1_0 : decode cX12_symbol1 0 = .ok (.aload_n 0, 1) := by decide +kernel
theorem dX12_symbol1_1 : decode cX12_symbol1 1 = .ok (.aload_n 0, 1) := by decide +kernel
theorem dX12_symbol1_2 : decode cX12_symbol1 2 = .ok (.getfield 287, 3) := by decide +kernel
theorem dX12_symbol1_5 : decode cX12_symbol1 5 = .ok (.bipush 10, 2) := by decide +kernel
theorem dX12_symbol1_7 : decode cX12_symbol1 7 = .ok (.if_icmp .ge 7, 3) := by decide +kernel
theorem dX12_symbol1_10 : decode cX12_symbol1 10 = .ok (.iconst 1, 1) := by decide +kernel
theorem dX12_symbol1_11 : decode cX12_symbol1 11 = .ok (.goto 4, 3) := by decide +kernel
theorem dX12_symbol1_14 : decode cX12_symbol1 14 = .ok (.iconst 0, 1) := by decide +kernel
theorem dX12_symbol1_15 : decode cX12_symbol1 15 = .ok (.iconst 2, 1) := by decide +kernel
theorem dX12_symbol1_16 : decode cX12_symbol1 16 = .ok (.invokevirtual 276, 3) := by decide +kernel
theorem dX12_symbol1_19 : decode cX12_symbol1 19 = .ok (.ifCond .ne 4, 3) := by decide +kernel
theorem dX12_symbol1_22 : decode cX12_symbol1 22 = .ok (.return_, 1) := by decide +kernel
theorem dX12_symbol1_23 : decode cX12_symbol1 23 = .ok (.aload_n 0, 1) := by decide +kernel
theorem dX12_symbol1_24 : decode cX12_symbol1 24 = .ok (.invokevirtual 280, 3) := by decide +kernel
theorem dX12_symbol1_27 : decode cX12_symbol1 27 = .ok (.aload_n 0, 1) := by decide +kernel
theorem dX12_symbol1_28 : decode cX12_symbol1 28 = .ok (.aload_n 0, 1) := by decide +kernel
theorem dX12_symbol1_29 : decode cX12_symbol1 29 = .ok (.getfield 261, 3) := by decide +kernel
theorem dX12_symbol1_32 : decode cX12_symbol1 32 = .ok (.iconst 1, 1) := by decide +kernel
theorem dX12_symbol1_33 : decode cX12_symbol1 33 = .ok (.if_icmp .ne 7, 3) := by decide +kernel
theorem dX12_symbol1_36 : decode cX12_symbol1 36 = .ok (.iconst 1, 1) := by decide +kernel
theorem dX12_symbol1_37 : decode cX12_symbol1 37 = .ok (.goto 4, 3) := by decide +kernel
theorem dX12_symbol1_40 : decode cX12_symbol1 40 = .ok (.iconst 0, 1) := by decide +kernel
theorem dX12_symbol1_41 : decode cX12_symbol1 41 = .ok (.iconst 1, 1) := by decide +kernel
theorem dX12_symbol1_42 : decode cX12_symbol1 42 = .ok (.invokevirtual 276, 3) := by decide +kernel
theorem dX12_symbol1_45 : decode cX12_symbol1 45 = .ok (.ifCond .eq 53, 3) := by decide +kernel
theorem dX12_symbol1_48 : decode cX12_symbol1 48 = .ok (.aload_n 0, 1) := by decide +kernel
theorem dX12_symbol1_49 : decode cX12_symbol1 49 = .ok (.aload_n 0, 1) := by decide +kernel
theorem dX12_symbol1_50 : decode cX12_symbol1 50 = .ok (.getfield 252, 3) := by decide +kernel
theorem dX12_symbol1_53 : decode cX12_symbol1 53 = .ok (.iconst 1, 1) := by decide +kernel
theorem dX12_symbol1_54 : decode cX12_symbol1 54 = .ok (.if_icmp .ne 7, 3) := by decide +kernel
theorem dX12_symbol1_57 : decode cX12_symbol1 57 = .ok (.iconst 1, 1) := by decide +kernel
theorem dX12_symbol1_58 : decode cX12_symbol1 58 = .ok (.goto 4, 3) := by decide +kernel
theorem dX12_symbol1_61 : decode cX12_symbol1 61 = .ok (.iconst 0, 1) := by decide +kernel
theorem dX12_symbol1_62 : decode cX12_symbol1 62 = .ok (.iconst 2, 1) := by decide +kernel
theorem dX12_symbol1_63 : decode cX12_symbol1 63 = .ok (.invokevirtual 276, 3) := by decide +kernel
theorem dX12_symbol1_66 : decode cX12_symbol1 66 = .ok (.ifCond .eq 32, 3) := by decide +kernel
theorem dX12_symbol1_69 : decode cX12_symbol1 69 = .ok (.aload_n 0, 1) := by decide +kernel
theorem dX12_symbol1_70 : decode cX12_symbol1 70 = .ok (.aload_n 0, 1) := by decide +kernel
theorem dX12_symbol1_71 : decode cX12_symbol1 71 = .ok (.aload_n 0, 1) := by decide +kernel
theorem dX12_symbol1_72 : decode cX12_symbol1 72 = .ok (.aload_n 0, 1) := by decide +kernel
theorem dX12_symbol1_73 : decode cX12_symbol1 73 = .ok (.getfield 246, 3) := by decide +kernel
theorem dX12_symbol1_76 : decode cX12_symbol1 76 = .ok (.invokevirtual 240, 3) := by decide +kernel
theorem dX12_symbol1_79 : decode cX12_symbol1 79 = .ok (.invokevirtual 293, 3) := by decide +kernel
theorem dX12_symbol1_82 : decode cX12_symbol1 82 = .ok (.iconst (-1), 1) := by decide +kernel
theorem dX12_symbol1_83 : decode cX12_symbol1 83 = .ok (.if_icmp .ne 7, 3) := by decide +kernel
theorem dX12_symbol1_86 : decode cX12_symbol1 86 = .ok (.iconst 1, 1) := by decide +kernel
theorem dX12_symbol1_87 : decode cX12_symbol1 87 = .ok (.goto 4, 3) := by decide +kernel
theorem dX12_symbol1_90 : decode cX12_symbol1 90 = .ok (.iconst 0, 1) := by decide +kernel
theorem dX12_symbol1_91 : decode cX12_symbol1 91 = .ok (.iconst 4, 1) := by decide +kernel
theorem dX12_symbol1_92 : decode cX12_symbol1 92 = .ok (.invokevirtual 276, 3) := by decide +kernel
theorem dX12_symbol1_95 : decode cX12_symbol1 95 = .ok (.ifCond .ne 4, 3) := by decide +kernel
theorem dX12_symbol1_98 : decode cX12_symbol1 98 = .ok (.return_, 1) := by decide +kernel
theorem dX12_symbol1_99 : decode cX12_symbol1 99 = .ok (.aload_n 0, 1) := by decide +kernel
theorem dX12_symbol1_100 : decode cX12_symbol1 100 = .ok (.aload_n 0, 1) := by decide +kernel
theorem dX12_symbol1_101 : decode cX12_symbol1 101 = .ok (.getfield 246, 3) := by decide +kernel
theorem dX12_symbol1_104 : decode cX12_symbol1 104 = .ok (.invokevirtual 240, 3) := by decide +kernel
theorem dX12_symbol1_107 : decode cX12_symbol1 107 = .ok (.istore_n 1, 1) := by decide +kernel
theorem dX12_symbol1_108 : decode cX12_symbol1 108 = .ok (.aload_n 0, 1) := by decide +kernel
theorem dX12_symbol1_109 : decode cX12_symbol1 109 = .ok (.invokevirtual 280, 3) := by decide +kernel
theorem dX12_symbol1_112 : decode cX12_symbol1 112 = .ok (.aload_n 0, 1) := by decide +kernel
theorem dX12_symbol1_113 : decode cX12_symbol1 113 = .ok (.iconst 0, 1) := by decide +kernel
theorem dX12_symbol1_114 : decode cX12_symbol1 114 = .ok (.iconst 3, 1) := by decide +kernel
theorem dX12_symbol1_115 : decode cX12_symbol1 115 = .ok (.invokevirtual 290, 3) := by decide +kernel
theorem dX12_symbol1_118 : decode cX12_symbol1 118 = .ok (.istore_n 2, 1) := by decide +kernel
theorem dX12_symbol1_119 : decode cX12_symbol1 119 = .ok (.aload_n 0, 1) := by decide +kernel
theorem dX12_symbol1_120 : decode cX12_symbol1 120 = .ok (.iconst 1, 1) := by decide +kernel
theorem dX12_symbol1_121 : decode cX12_symbol1 121 = .ok (.bipush 9, 2) := by decide +kernel
theorem dX12_symbol1_123 : decode cX12_symbol1 123 = .ok (.invokevirtual 290, 3) := by decide +kernel
theorem dX12_symbol1_126 : decode cX12_symbol1 126 = .ok (.istore_n 3, 1) := by decide +kernel
theorem dX12_symbol1_127 : decode cX12_symbol1 127 = .ok (.aload_n 0, 1) := by decide +kernel
theorem dX12_symbol1_128 : decode cX12_symbol1 128 = .ok (.getfield 22, 3) := by decide +kernel
theorem dX12_symbol1_131 : decode cX12_symbol1 131 = .ok (.bipush 10, 2) := by decide +kernel
theorem dX12_symbol1_133 : decode cX12_symbol1 133 = .ok (.aload_n 0, 1) := by decide +kernel
theorem dX12_symbol1_134 : decode cX12_symbol1 134 = .ok (.getfield 287, 3) := by decide +kernel
theorem dX12_symbol1_137 : decode cX12_symbol1 137 = .ok (.iadd, 1) := by decide +kernel
theorem dX12_symbol1_138 : decode cX12_symbol1 138 = .ok (.iload_n 1, 1) := by decide +kernel
theorem dX12_symbol1_139 : decode cX12_symbol1 139 = .ok (.iastore, 1) := by decide +kernel
theorem dX12_symbol1_140 : decode cX12_symbol1 140 = .ok (.aload_n 0, 1) := by decide +kernel
theorem dX12_symbol1_141 : decode cX12_symbol1 141 = .ok (.getfield 25, 3) := by decide +kernel
theorem dX12_symbol1_144 : decode cX12_symbol1 144 = .ok (.bipush 10, 2) := by decide +kernel
theorem dX12_symbol1_146 : decode cX12_symbol1 146 = .ok (.aload_n 0, 1) := by decide +kernel
theorem dX12_symbol1_147 : decode cX12_symbol1 147 = .ok (.getfield 287, 3) := by decide +kernel
theorem dX12_symbol1_150 : decode cX12_symbol1 150 = .ok (.iadd, 1) := by decide +kernel
theorem dX12_symbol1_151 : decode cX12_symbol1 151 = .ok (.iload_n 2, 1) := by decide +kernel
theorem dX12_symbol1_152 : decode cX12_symbol1 152 = .ok (.iastore, 1) := by decide +kernel
theorem dX12_symbol1_153 : decode cX12_symbol1 153 = .ok (.aload_n 0, 1) := by decide +kernel
theorem dX12_symbol1_154 : decode cX12_symbol1 154 = .ok (.getfield 28, 3) := by decide +kernel
theorem dX12_symbol1_157 : decode cX12_symbol1 157 = .ok (.bipush 10, 2) := by decide +kernel
theorem dX12_symbol1_159 : decode cX12_symbol1 159 = .ok (.aload_n 0, 1) := by decide +kernel
theorem dX12_symbol1_160 : decode cX12_symbol1 160 = .ok (.getfield 287, 3) := by decide +kernel
theorem dX12_symbol1_163 : decode cX12_symbol1 163 = .ok (.iadd, 1) := by decide +kernel
theorem dX12_symbol1_164 : decode cX12_symbol1 164 = .ok (.iload_n 3, 1) := by decide +kernel
theorem dX12_symbol1_165 : decode cX12_symbol1 165 = .ok (.iastore, 1) := by decide +kernel
theorem dX12_symbol1_166 : decode cX12_symbol1 166 = .ok (.aload_n 0, 1) := by decide +kernel
theorem dX12_symbol1_167 : decode cX12_symbol1 167 = .ok (.dup, 1) := by decide +kernel
theorem dX12_symbol1_168 : decode cX12_symbol1 168 = .ok (.getfield 287, 3) := by decide +kernel
theorem dX12_symbol1_171 : decode cX12_symbol1 171 = .ok (.iconst 1, 1) := by decide +kernel
theorem dX12_symbol1_172 : decode cX12_symbol1 172 = .ok (.iadd, 1) := by decide +kernel
theorem dX12_symbol1_173 : decode cX12_symbol1 173 = .ok (.putfield 287, 3) := by decide +kernel
theorem dX12_symbol1_176 : decode cX12_symbol1 176 = .ok (.return_, 1) := by decide +kernel
theorem dX12_rule1_0 : decode cX12_rule1 0 = .ok (.aload_n 0, 1) := by decide +kernel
theorem dX12_rule1_1 : decode cX12_rule1 1 = .ok (.aload_n 0, 1) := by decide +kernel
theorem dX12_rule1_2 : decode cX12_rule1 2 = .ok (.getfield 9, 3) := by decide +kernel
theorem dX12_rule1_5 : decode cX12_rule1 5 = .ok (.sipush 135, 3) := by decide +kernel
theorem dX12_rule1_8 : decode cX12_rule1 8 = .ok (.iaload, 1) := by decide +kernel
theorem dX12_rule1_9 : decode cX12_rule1 9 = .ok (.bipush 8, 2) := by decide +kernel
theorem dX12_rule1_11 : decode cX12_rule1 11 = .ok (.if_icmp .ge 7, 3) := by decide +kernel
theorem dX12_rule1_14 : decode cX12_rule1 14 = .ok (.iconst 1, 1) := by decide +kernel
theorem dX12_rule1_15 : decode cX12_rule1 15 = .ok (.goto 4, 3) := by decide +kernel
theorem dX12_rule1_18 : decode cX12_rule1 18 = .ok (.iconst 0, 1) := by decide +kernel
theorem dX12_rule1_19 : decode cX12_rule1 19 = .ok (.iconst 2, 1) := by decide +kernel
theorem dX12_rule1_20 : decode cX12_rule1 20 = .ok (.invokevirtual 276, 3) := by decide +kernel
theorem dX12_rule1_23 : decode cX12_rule1 23 = .ok (.ifCond .ne 4, 3) := by decide +kernel
theorem dX12_rule1_26 : decode cX12_rule1 26 = .ok (.return_, 1) := by decide +kernel
theorem dX12_rule1_27 : decode cX12_rule1 27 = .ok (.aload_n 0, 1) := by decide +kernel
theorem dX12_rule1_28 : decode cX12_rule1 28 = .ok (.invokevirtual 280, 3) := by decide +kernel
theorem dX12_rule1_31 : decode cX12_rule1 31 = .ok (.aload_n 0, 1) := by decide +kernel
theorem dX12_rule1_32 : decode cX12_rule1 32 = .ok (.iconst 1, 1) := by decide +kernel
theorem dX12_rule1_33 : decode cX12_rule1 33 = .ok (.invokevirtual 298, 3) := by decide +kernel
theorem dX12_rule1_36 : decode cX12_rule1 36 = .ok (.istore_n 1, 1) := by decide +kernel
theorem dX12_rule1_37 : decode cX12_rule1 37 = .ok (.aload_n 0, 1) := by decide +kernel
theorem dX12_rule1_38 : decode cX12_rule1 38 = .ok (.getfield 273, 3) := by decide +kernel
theorem dX12_rule1_41 : decode cX12_rule1 41 = .ok (.ifCond .ne 28, 3) := by decide +kernel
theorem dX12_rule1_44 : decode cX12_rule1 44 = .ok (.aload_n 0, 1) := by decide +kernel
theorem dX12_rule1_45 : decode cX12_rule1 45 = .ok (.aload_n 0, 1) := by decide +kernel
theorem dX12_rule1_46 : decode cX12_rule1 46 = .ok (.getfield 249, 3) := by decide +kernel
theorem dX12_rule1_49 : decode cX12_rule1 49 = .ok (.iconst 5, 1) := by decide +kernel
theorem dX12_rule1_50 : decode cX12_rule1 50 = .ok (.if_icmp .ne 7, 3) := by decide +kernel
theorem dX12_rule1_53 : decode cX12_rule1 53 = .ok (.iconst 1, 1) := by decide +kernel
theorem dX12_rule1_54 : decode cX12_rule1 54 = .ok (.goto 4, 3) := by decide +kernel
theorem dX12_rule1_57 : decode cX12_rule1 57 = .ok (.iconst 0, 1) := by decide +kernel
theorem dX12_rule1_58 : decode cX12_rule1 58 = .ok (.iconst 1, 1) := by decide +kernel
theorem dX12_rule1_59 : decode cX12_rule1 59 = .ok (.invokevirtual 276, 3) := by decide +kernel
theorem dX12_rule1_62 : decode cX12_rule1 62 = .ok (.ifCond .eq 7, 3) := by decide +kernel
theorem dX12_rule1_65 : decode cX12_rule1 65 = .ok (.aload_n 0, 1) := by decide +kernel
theorem dX12_rule1_66 : decode cX12_rule1 66 = .ok (.invokevirtual 280, 3) := by decide +kernel
theorem dX12_rule1_69 : decode cX12_rule1 69 = .ok (.aload_n 0, 1) := by decide +kernel
theorem dX12_rule1_70 : decode cX12_rule1 70 = .ok (.iconst 1, 1) := by decide +kernel
theorem dX12_rule1_71 : decode cX12_rule1 71 = .ok (.invokevirtual 298, 3) := by decide +kernel
theorem dX12_rule1_74 : decode cX12_rule1 74 = .ok (.istore_n 2, 1) := by decide +kernel
theorem dX12_rule1_75 : decode cX12_rule1 75 = .ok (.aload_n 0, 1) := by decide +kernel
theorem dX12_rule1_76 : decode cX12_rule1 76 = .ok (.getfield 273, 3) := by decide +kernel
theorem dX12_rule1_79 : decode cX12_rule1 79 = .ok (.ifCond .ne 39, 3) := by decide +kernel
theorem dX12_rule1_82 : decode cX12_rule1 82 = .ok (.aload_n 0, 1) := by decide +kernel
theorem dX12_rule1_83 : decode cX12_rule1 83 = .ok (.aload_n 0, 1) := by decide +kernel
theorem dX12_rule1_84 : decode cX12_rule1 84 = .ok (.getfield 258, 3) := by decide +kernel
theorem dX12_rule1_87 : decode cX12_rule1 87 = .ok (.bipush 59, 2) := by decide +kernel
theorem dX12_rule1_89 : decode cX12_rule1 89 = .ok (.if_icmp .ne 7, 3) := by decide +kernel
theorem dX12_rule1_92 : decode cX12_rule1 92 = .ok (.iconst 1, 1) := by decide +kernel
theorem dX12_rule1_93 : decode cX12_rule1 93 = .ok (.goto 4, 3) := by decide +kernel
theorem dX12_rule1_96 : decode cX12_rule1 96 = .ok (.iconst 0, 1) := by decide +kernel
theorem dX12_rule1_97 : decode cX12_rule1 97 = .ok (.iconst 1, 1) := by decide +kernel
theorem dX12_rule1_98 : decode cX12_rule1 98 = .ok (.invokevirtual 276, 3) := by decide +kernel
theorem dX12_rule1_101 : decode cX12_rule1 101 = .ok (.ifCond .eq 17, 3) := by decide +kernel
theorem dX12_rule1_104 : decode cX12_rule1 104 = .ok (.aload_n 0, 1) := by decide +kernel
theorem dX12_rule1_105 : decode cX12_rule1 105 = .ok (.aload_n 0, 1) := by decide +kernel
theorem dX12_rule1_106 : decode cX12_rule1 106 = .ok (.iload_n 1, 1) := by decide +kernel
theorem dX12_rule1_107 : decode cX12_rule1 107 = .ok (.iload_n 2, 1) := by decide +kernel
theorem dX12_rule1_108 : decode cX12_rule1 108 = .ok (.invokevirtual 301, 3) := by decide +kernel
theorem dX12_rule1_111 : decode cX12_rule1 111 = .ok (.iconst 5, 1) := by decide +kernel
theorem dX12_rule1_112 : decode cX12_rule1 112 = .ok (.invokevirtual 276, 3) := by decide +kernel
theorem dX12_rule1_115 : decode cX12_rule1 115 = .ok (.ifCond .ne 4, 3) := by decide +kernel
theorem dX12_rule1_118 : decode cX12_rule1 118 = .ok (.return_, 1) := by decide +kernel
theorem dX12_rule1_119 : decode cX12_rule1 119 = .ok (.aload_n 0, 1) := by decide +kernel
theorem dX12_rule1_120 : decode cX12_rule1 120 = .ok (.iload_n 1, 1) := by decide +kernel
theorem dX12_rule1_121 : decode cX12_rule1 121 = .ok (.iload_n 2, 1) := by decide +kernel
theorem dX12_rule1_122 : decode cX12_rule1 122 = .ok (.invokevirtual 304, 3) := by decide +kernel
theorem dX12_rule1_125 : decode cX12_rule1 125 = .ok (.return_, 1) := by decide +kernel
theorem dX12_rules1_0 : decode cX12_rules1 0 = .ok (.aload_n 0, 1) := by decide +kernel
theorem dX12_rules1_1 : decode cX12_rules1 1 = .ok (.getfield 9, 3) := by decide +kernel
theorem dX12_rules1_4 : decode cX12_rules1 4 = .ok (.aload_n 0, 1) := by decide +kernel
theorem dX12_rules1_5 : decode cX12_rules1 5 = .ok (.getfield 85, 3) := by decide +kernel
theorem dX12_rules1_8 : decode cX12_rules1 8 = .ok (.bipush 9, 2) := by decide +kernel
theorem dX12_rules1_10 : decode cX12_rules1 10 = .ok (.iadd, 1) := by decide +kernel
theorem dX12_rules1_11 : decode cX12_rules1 11 = .ok (.iaload, 1) := by decide +kernel
theorem dX12_rules1_12 : decode cX12_rules1 12 = .ok (.istore_n 3, 1) := by decide +kernel
theorem dX12_rules1_13 : decode cX12_rules1 13 = .ok (.aload_n 0, 1) := by decide +kernel
theorem dX12_rules1_14 : decode cX12_rules1 14 = .ok (.getfield 9, 3) := by decide +kernel
theorem dX12_rules1_17 : decode cX12_rules1 17 = .ok (.aload_n 0, 1) := by decide +kernel
theorem dX12_rules1_18 : decode cX12_rules1 18 = .ok (.getfield 85, 3) := by decide +kernel
theorem dX12_rules1_21 : decode cX12_rules1 21 = .ok (.bipush 10, 2) := by decide +kernel
theorem dX12_rules1_23 : decode cX12_rules1 23 = .ok (.iadd, 1) := by decide +kernel
theorem dX12_rules1_24 : decode cX12_rules1 24 = .ok (.iconst 2, 1) := by decide +kernel
theorem dX12_rules1_25 : decode cX12_rules1 25 = .ok (.iload_n 3, 1) := by decide +kernel
theorem dX12_rules1_26 : decode cX12_rules1 26 = .ok (.imul, 1) := by decide +kernel
theorem dX12_rules1_27 : decode cX12_rules1 27 = .ok (.iadd, 1) := by decide +kernel
theorem dX12_rules1_28 : decode cX12_rules1 28 = .ok (.iload_n 1, 1) := by decide +kernel
theorem dX12_rules1_29 : decode cX12_rules1 29 = .ok (.iastore, 1) := by decide +kernel
theorem dX12_rules1_30 : decode cX12_rules1 30 = .ok (.aload_n 0, 1) := by decide +kernel
theorem dX12_rules1_31 : decode cX12_rules1 31 = .ok (.getfield 9, 3) := by decide +kernel
theorem dX12_rules1_34 : decode cX12_rules1 34 = .ok (.aload_n 0, 1) := by decide +kernel
theorem dX12_rules1_35 : decode cX12_rules1 35 = .ok (.getfield 85, 3) := by decide +kernel
theorem dX12_rules1_38 : decode cX12_rules1 38 = .ok (.bipush 10, 2) := by decide +kernel
theorem dX12_rules1_40 : decode cX12_rules1 40 = .ok (.iadd, 1) := by decide +kernel
theorem dX12_rules1_41 : decode cX12_rules1 41 = .ok (.iconst 2, 1) := by decide +kernel
theorem dX12_rules1_42 : decode cX12_rules1 42 = .ok (.iload_n 3, 1) := by decide +kernel
theorem dX12_rules1_43 : decode cX12_rules1 43 = .ok (.imul, 1) := by decide +kernel
theorem dX12_rules1_44 : decode cX12_rules1 44 = .ok (.iadd, 1) := by decide +kernel
theorem dX12_rules1_45 : decode cX12_rules1 45 = .ok (.iconst 1, 1) := by decide +kernel
theorem dX12_rules1_46 : decode cX12_rules1 46 = .ok (.iadd, 1) := by decide +kernel
theorem dX12_rules1_47 : decode cX12_rules1 47 = .ok (.iload_n 2, 1) := by decide +kernel
theorem dX12_rules1_48 : decode cX12_rules1 48 = .ok (.iastore, 1) := by decide +kernel
theorem dX12_rules1_49 : decode cX12_rules1 49 = .ok (.aload_n 0, 1) := by decide +kernel
theorem dX12_rules1_50 : decode cX12_rules1 50 = .ok (.getfield 9, 3) := by decide +kernel
theorem dX12_rules1_53 : decode cX12_rules1 53 = .ok (.aload_n 0, 1) := by decide +kernel
theorem dX12_rules1_54 : decode cX12_rules1 54 = .ok (.getfield 85, 3) := by decide +kernel
theorem dX12_rules1_57 : decode cX12_rules1 57 = .ok (.bipush 9, 2) := by decide +kernel
theorem dX12_rules1_59 : decode cX12_rules1 59 = .ok (.iadd, 1) := by decide +kernel
theorem dX12_rules1_60 : decode cX12_rules1 60 = .ok (.dup2, 1) := by decide +kernel
theorem dX12_rules1_61 : decode cX12_rules1 61 = .ok (.iaload, 1) := by decide +kernel
theorem dX12_rules1_62 : decode cX12_rules1 62 = .ok (.iconst 1, 1) := by decide +kernel
theorem dX12_rules1_63 : decode cX12_rules1 63 = .ok (.iadd, 1) := by decide +kernel
theorem dX12_rules1_64 : decode cX12_rules1 64 = .ok (.iastore, 1) := by decide +kernel
theorem dX12_rules1_65 : decode cX12_rules1 65 = .ok (.return_, 1) := by decide +kernel
theorem dX12_entryOf_0 : decode cX12_entryOf 0 = .ok (.iconst 0, 1) := by decide +kernel
theorem dX12_entryOf_1 : decode cX12_entryOf 1 = .ok (.istore_n 2, 1) := by decide +kernel
theorem dX12_entryOf_2 : decode cX12_entryOf 2 = .ok (.iload_n 2, 1) := by decide +kernel
theorem dX12_entryOf_3 : decode cX12_entryOf 3 = .ok (.aload_n 0, 1) := by decide +kernel
theorem dX12_entryOf_4 : decode cX12_entryOf 4 = .ok (.getfield 9, 3) := by decide +kernel
theorem dX12_entryOf_7 : decode cX12_entryOf 7 = .ok (.aload_n 0, 1) := by decide +kernel
theorem dX12_entryOf_8 : decode cX12_entryOf 8 = .ok (.getfield 85, 3) := by decide +kernel
theorem dX12_entryOf_11 : decode cX12_entryOf 11 = .ok (.bipush 26, 2) := by decide +kernel
theorem dX12_entryOf_13 : decode cX12_entryOf 13 = .ok (.iadd, 1) := by decide +kernel
theorem dX12_entryOf_14 : decode cX12_entryOf 14 = .ok (.iaload, 1) := by decide +kernel
theorem dX12_entryOf_15 : decode cX12_entryOf 15 = .ok (.if_icmp .ge 29, 3) := by decide +kernel
theorem dX12_entryOf_18 : decode cX12_entryOf 18 = .ok (.aload_n 0, 1) := by decide +kernel
theorem dX12_entryOf_19 : decode cX12_entryOf 19 = .ok (.getfield 9, 3) := by decide +kernel
theorem dX12_entryOf_22 : decode cX12_entryOf 22 = .ok (.aload_n 0, 1) := by decide +kernel
theorem dX12_entryOf_23 : decode cX12_entryOf 23 = .ok (.getfield 85, 3) := by decide +kernel
theorem dX12_entryOf_26 : decode cX12_entryOf 26 = .ok (.bipush 27, 2) := by decide +kernel
theorem dX12_entryOf_28 : decode cX12_entryOf 28 = .ok (.iadd, 1) := by decide +kernel
theorem dX12_entryOf_29 : decode cX12_entryOf 29 = .ok (.iload_n 2, 1) := by decide +kernel
theorem dX12_entryOf_30 : decode cX12_entryOf 30 = .ok (.iadd, 1) := by decide +kernel
theorem dX12_entryOf_31 : decode cX12_entryOf 31 = .ok (.iaload, 1) := by decide +kernel
theorem dX12_entryOf_32 : decode cX12_entryOf 32 = .ok (.iload_n 1, 1) := by decide +kernel
theorem dX12_entryOf_33 : decode cX12_entryOf 33 = .ok (.if_icmp .ne 5, 3) := by decide +kernel
theorem dX12_entryOf_36 : decode cX12_entryOf 36 = .ok (.iload_n 2, 1) := by decide +kernel
theorem dX12_entryOf_37 : decode cX12_entryOf 37 = .ok (.ireturn, 1) := by decide +kernel
theorem dX12_entryOf_38 : decode cX12_entryOf 38 = .ok (.iinc 2 1, 3) := by decide +kernel
theorem dX12_entryOf_41 : decode cX12_entryOf 41 = .ok (.goto (-39), 3) := by decide +kernel
theorem dX12_entryOf_44 : decode cX12_entryOf 44 = .ok (.iconst (-1), 1) := by decide +kernel
theorem dX12_entryOf_45 : decode cX12_entryOf 45 = .ok (.ireturn, 1) := by decide +kernel
theorem dX12_enters1_0 : decode cX12_enters1 0 = .ok (.aload_n 0, 1) := by decide +kernel
theorem dX12_enters1_1 : decode cX12_enters1 1 = .ok (.getfield 9, 3) := by decide +kernel
theorem dX12_enters1_4 : decode cX12_enters1 4 = .ok (.aload_n 0, 1) := by decide +kernel
theorem dX12_enters1_5 : decode cX12_enters1 5 = .ok (.getfield 85, 3) := by decide +kernel
theorem dX12_enters1_8 : decode cX12_enters1 8 = .ok (.bipush 27, 2) := by decide +kernel
theorem dX12_enters1_10 : decode cX12_enters1 10 = .ok (.iadd, 1) := by decide +kernel
theorem dX12_enters1_11 : decode cX12_enters1 11 = .ok (.aload_n 0, 1) := by decide +kernel
theorem dX12_enters1_12 : decode cX12_enters1 12 = .ok (.getfield 9, 3) := by decide +kernel
theorem dX12_enters1_15 : decode cX12_enters1 15 = .ok (.aload_n 0, 1) := by decide +kernel
theorem dX12_enters1_16 : decode cX12_enters1 16 = .ok (.getfield 85, 3) := by decide +kernel
theorem dX12_enters1_19 : decode cX12_enters1 19 = .ok (.bipush 26, 2) := by decide +kernel
theorem dX12_enters1_21 : decode cX12_enters1 21 = .ok (.iadd, 1) := by decide +kernel
theorem dX12_enters1_22 : decode cX12_enters1 22 = .ok (.iaload, 1) := by decide +kernel
theorem dX12_enters1_23 : decode cX12_enters1 23 = .ok (.iadd, 1) := by decide +kernel
theorem dX12_enters1_24 : decode cX12_enters1 24 = .ok (.iload_n 1, 1) := by decide +kernel
theorem dX12_enters1_25 : decode cX12_enters1 25 = .ok (.iastore, 1) := by decide +kernel
theorem dX12_enters1_26 : decode cX12_enters1 26 = .ok (.aload_n 0, 1) := by decide +kernel
theorem dX12_enters1_27 : decode cX12_enters1 27 = .ok (.getfield 9, 3) := by decide +kernel
theorem dX12_enters1_30 : decode cX12_enters1 30 = .ok (.aload_n 0, 1) := by decide +kernel
theorem dX12_enters1_31 : decode cX12_enters1 31 = .ok (.getfield 85, 3) := by decide +kernel
theorem dX12_enters1_34 : decode cX12_enters1 34 = .ok (.bipush 26, 2) := by decide +kernel
theorem dX12_enters1_36 : decode cX12_enters1 36 = .ok (.iadd, 1) := by decide +kernel
theorem dX12_enters1_37 : decode cX12_enters1 37 = .ok (.dup2, 1) := by decide +kernel
theorem dX12_enters1_38 : decode cX12_enters1 38 = .ok (.iaload, 1) := by decide +kernel
theorem dX12_enters1_39 : decode cX12_enters1 39 = .ok (.iconst 1, 1) := by decide +kernel
theorem dX12_enters1_40 : decode cX12_enters1 40 = .ok (.iadd, 1) := by decide +kernel
theorem dX12_enters1_41 : decode cX12_enters1 41 = .ok (.iastore, 1) := by decide +kernel
theorem dX12_enters1_42 : decode cX12_enters1 42 = .ok (.return_, 1) := by decide +kernel
theorem dX12_entry1_0 : decode cX12_entry1 0 = .ok (.aload_n 0, 1) := by decide +kernel
theorem dX12_entry1_1 : decode cX12_entry1 1 = .ok (.aload_n 0, 1) := by decide +kernel
theorem dX12_entry1_2 : decode cX12_entry1 2 = .ok (.getfield 9, 3) := by decide +kernel
theorem dX12_entry1_5 : decode cX12_entry1 5 = .ok (.sipush 152, 3) := by decide +kernel
theorem dX12_entry1_8 : decode cX12_entry1 8 = .ok (.iaload, 1) := by decide +kernel
theorem dX12_entry1_9 : decode cX12_entry1 9 = .ok (.bipush 12, 2) := by decide +kernel
theorem dX12_entry1_11 : decode cX12_entry1 11 = .ok (.if_icmp .ge 7, 3) := by decide +kernel
theorem dX12_entry1_14 : decode cX12_entry1 14 = .ok (.iconst 1, 1) := by decide +kernel
theorem dX12_entry1_15 : decode cX12_entry1 15 = .ok (.goto 4, 3) := by decide +kernel
theorem dX12_entry1_18 : decode cX12_entry1 18 = .ok (.iconst 0, 1) := by decide +kernel
theorem dX12_entry1_19 : decode cX12_entry1 19 = .ok (.iconst 2, 1) := by decide +kernel
theorem dX12_entry1_20 : decode cX12_entry1 20 = .ok (.invokevirtual 276, 3) := by decide +kernel
theorem dX12_entry1_23 : decode cX12_entry1 23 = .ok (.ifCond .ne 4, 3) := by decide +kernel
theorem dX12_entry1_26 : decode cX12_entry1 26 = .ok (.return_, 1) := by decide +kernel
theorem dX12_entry1_27 : decode cX12_entry1 27 = .ok (.aload_n 0, 1) := by decide +kernel
theorem dX12_entry1_28 : decode cX12_entry1 28 = .ok (.invokevirtual 280, 3) := by decide +kernel
theorem dX12_entry1_31 : decode cX12_entry1 31 = .ok (.aload_n 0, 1) := by decide +kernel
theorem dX12_entry1_32 : decode cX12_entry1 32 = .ok (.iconst 1, 1) := by decide +kernel
theorem dX12_entry1_33 : decode cX12_entry1 33 = .ok (.invokevirtual 298, 3) := by decide +kernel
theorem dX12_entry1_36 : decode cX12_entry1 36 = .ok (.istore_n 1, 1) := by decide +kernel
theorem dX12_entry1_37 : decode cX12_entry1 37 = .ok (.aload_n 0, 1) := by decide +kernel
theorem dX12_entry1_38 : decode cX12_entry1 38 = .ok (.getfield 273, 3) := by decide +kernel
theorem dX12_entry1_41 : decode cX12_entry1 41 = .ok (.ifCond .ne 52, 3) := by decide +kernel
theorem dX12_entry1_44 : decode cX12_entry1 44 = .ok (.aload_n 0, 1) := by decide +kernel
theorem dX12_entry1_45 : decode cX12_entry1 45 = .ok (.aload_n 0, 1) := by decide +kernel
theorem dX12_entry1_46 : decode cX12_entry1 46 = .ok (.getfield 258, 3) := by decide +kernel
theorem dX12_entry1_49 : decode cX12_entry1 49 = .ok (.bipush 59, 2) := by decide +kernel
theorem dX12_entry1_51 : decode cX12_entry1 51 = .ok (.if_icmp .ne 7, 3) := by decide +kernel
theorem dX12_entry1_54 : decode cX12_entry1 54 = .ok (.iconst 1, 1) := by decide +kernel
theorem dX12_entry1_55 : decode cX12_entry1 55 = .ok (.goto 4, 3) := by decide +kernel
theorem dX12_entry1_58 : decode cX12_entry1 58 = .ok (.iconst 0, 1) := by decide +kernel
theorem dX12_entry1_59 : decode cX12_entry1 59 = .ok (.iconst 1, 1) := by decide +kernel
theorem dX12_entry1_60 : decode cX12_entry1 60 = .ok (.invokevirtual 276, 3) := by decide +kernel
theorem dX12_entry1_63 : decode cX12_entry1 63 = .ok (.ifCond .eq 30, 3) := by decide +kernel
theorem dX12_entry1_66 : decode cX12_entry1 66 = .ok (.aload_n 0, 1) := by decide +kernel
theorem dX12_entry1_67 : decode cX12_entry1 67 = .ok (.aload_n 0, 1) := by decide +kernel
theorem dX12_entry1_68 : decode cX12_entry1 68 = .ok (.iload_n 1, 1) := by decide +kernel
theorem dX12_entry1_69 : decode cX12_entry1 69 = .ok (.invokevirtual 307, 3) := by decide +kernel
theorem dX12_entry1_72 : decode cX12_entry1 72 = .ok (.iconst (-1), 1) := by decide +kernel
theorem dX12_entry1_73 : decode cX12_entry1 73 = .ok (.if_icmp .ne 7, 3) := by decide +kernel
theorem dX12_entry1_76 : decode cX12_entry1 76 = .ok (.iconst 1, 1) := by decide +kernel
theorem dX12_entry1_77 : decode cX12_entry1 77 = .ok (.goto 4, 3) := by decide +kernel
theorem dX12_entry1_80 : decode cX12_entry1 80 = .ok (.iconst 0, 1) := by decide +kernel
theorem dX12_entry1_81 : decode cX12_entry1 81 = .ok (.iconst 5, 1) := by decide +kernel
theorem dX12_entry1_82 : decode cX12_entry1 82 = .ok (.invokevirtual 276, 3) := by decide +kernel
theorem dX12_entry1_85 : decode cX12_entry1 85 = .ok (.ifCond .eq 8, 3) := by decide +kernel
theorem dX12_entry1_88 : decode cX12_entry1 88 = .ok (.aload_n 0, 1) := by decide +kernel
theorem dX12_entry1_89 : decode cX12_entry1 89 = .ok (.iload_n 1, 1) := by decide +kernel
theorem dX12_entry1_90 : decode cX12_entry1 90 = .ok (.invokevirtual 310, 3) := by decide +kernel
theorem dX12_entry1_93 : decode cX12_entry1 93 = .ok (.return_, 1) := by decide +kernel
theorem dX12_room1_0 : decode cX12_room1 0 = .ok (.aload_n 0, 1) := by decide +kernel
theorem dX12_room1_1 : decode cX12_room1 1 = .ok (.aload_n 0, 1) := by decide +kernel
theorem dX12_room1_2 : decode cX12_room1 2 = .ok (.getfield 313, 3) := by decide +kernel
theorem dX12_room1_5 : decode cX12_room1 5 = .ok (.ifCond .ne 7, 3) := by decide +kernel
theorem dX12_room1_8 : decode cX12_room1 8 = .ok (.iconst 1, 1) := by decide +kernel
theorem dX12_room1_9 : decode cX12_room1 9 = .ok (.goto 4, 3) := by decide +kernel
theorem dX12_room1_12 : decode cX12_room1 12 = .ok (.iconst 0, 1) := by decide +kernel
theorem dX12_room1_13 : decode cX12_room1 13 = .ok (.iconst 4, 1) := by decide +kernel
theorem dX12_room1_14 : decode cX12_room1 14 = .ok (.invokevirtual 276, 3) := by decide +kernel
theorem dX12_room1_17 : decode cX12_room1 17 = .ok (.ifCond .ne 4, 3) := by decide +kernel
theorem dX12_room1_20 : decode cX12_room1 20 = .ok (.return_, 1) := by decide +kernel
theorem dX12_room1_21 : decode cX12_room1 21 = .ok (.aload_n 0, 1) := by decide +kernel
theorem dX12_room1_22 : decode cX12_room1 22 = .ok (.invokevirtual 280, 3) := by decide +kernel
theorem dX12_room1_25 : decode cX12_room1 25 = .ok (.aload_n 0, 1) := by decide +kernel
theorem dX12_room1_26 : decode cX12_room1 26 = .ok (.getfield 9, 3) := by decide +kernel
theorem dX12_room1_29 : decode cX12_room1 29 = .ok (.sipush 165, 3) := by decide +kernel
theorem dX12_room1_32 : decode cX12_room1 32 = .ok (.aload_n 0, 1) := by decide +kernel
theorem dX12_room1_33 : decode cX12_room1 33 = .ok (.iconst 0, 1) := by decide +kernel
theorem dX12_room1_34 : decode cX12_room1 34 = .ok (.bipush 9, 2) := by decide +kernel
theorem dX12_room1_36 : decode cX12_room1 36 = .ok (.invokevirtual 290, 3) := by decide +kernel
theorem dX12_room1_39 : decode cX12_room1 39 = .ok (.iastore, 1) := by decide +kernel
theorem dX12_room1_40 : decode cX12_room1 40 = .ok (.aload_n 0, 1) := by decide +kernel
theorem dX12_room1_41 : decode cX12_room1 41 = .ok (.iconst 1, 1) := by decide +kernel
theorem dX12_room1_42 : decode cX12_room1 42 = .ok (.putfield 313, 3) := by decide +kernel
theorem dX12_room1_45 : decode cX12_room1 45 = .ok (.return_, 1) := by decide +kernel
theorem dX12_clause1_0 : decode cX12_clause1 0 = .ok (.aload_n 0, 1) := by decide +kernel
theorem dX12_clause1_1 : decode cX12_clause1 1 = .ok (.getfield 261, 3) := by decide +kernel
theorem dX12_clause1_4 : decode cX12_clause1 4 = .ok (.iconst 1, 1) := by decide +kernel
theorem dX12_clause1_5 : decode cX12_clause1 5 = .ok (.if_icmp .ne 10, 3) := by decide +kernel
theorem dX12_clause1_8 : decode cX12_clause1 8 = .ok (.aload_n 0, 1) := by decide +kernel
theorem dX12_clause1_9 : decode cX12_clause1 9 = .ok (.getfield 249, 3) := by decide +kernel
theorem dX12_clause1_12 : decode cX12_clause1 12 = .ok (.goto 4, 3) := by decide +kernel
theorem dX12_clause1_15 : decode cX12_clause1 15 = .ok (.iconst (-1), 1) := by decide +kernel
theorem dX12_clause1_16 : decode cX12_clause1 16 = .ok (.istore_n 1, 1) := by decide +kernel
theorem dX12_clause1_17 : decode cX12_clause1 17 = .ok (.iload_n 1, 1) := by decide +kernel
theorem dX12_clause1_18 : decode cX12_clause1 18 = .ok (.ifCond .ne 10, 3) := by decide +kernel
theorem dX12_clause1_21 : decode cX12_clause1 21 = .ok (.aload_n 0, 1) := by decide +kernel
theorem dX12_clause1_22 : decode cX12_clause1 22 = .ok (.invokevirtual 316, 3) := by decide +kernel
theorem dX12_clause1_25 : decode cX12_clause1 25 = .ok (.goto 67, 3) := by decide +kernel
theorem dX12_clause1_28 : decode cX12_clause1 28 = .ok (.iload_n 1, 1) := by decide +kernel
theorem dX12_clause1_29 : decode cX12_clause1 29 = .ok (.iconst 1, 1) := by decide +kernel
theorem dX12_clause1_30 : decode cX12_clause1 30 = .ok (.if_icmp .ne 16, 3) := by decide +kernel
theorem dX12_clause1_33 : decode cX12_clause1 33 = .ok (.aload_n 0, 1) := by decide +kernel
theorem dX12_clause1_34 : decode cX12_clause1 34 = .ok (.invokevirtual 280, 3) := by decide +kernel
theorem dX12_clause1_37 : decode cX12_clause1 37 = .ok (.aload_n 0, 1) := by decide +kernel
theorem dX12_clause1_38 : decode cX12_clause1 38 = .ok (.iconst 1, 1) := by decide +kernel
theorem dX12_clause1_39 : decode cX12_clause1 39 = .ok (.invokevirtual 298, 3) := by decide +kernel
theorem dX12_clause1_42 : decode cX12_clause1 42 = .ok (.pop, 1) := by decide +kernel
theorem dX12_clause1_43 : decode cX12_clause1 43 = .ok (.goto 49, 3) := by decide +kernel
theorem dX12_clause1_46 : decode cX12_clause1 46 = .ok (.iload_n 1, 1) := by decide +kernel
theorem dX12_clause1_47 : decode cX12_clause1 47 = .ok (.iconst 2, 1) := by decide +kernel
theorem dX12_clause1_48 : decode cX12_clause1 48 = .ok (.if_icmp .ne 10, 3) := by decide +kernel
theorem dX12_clause1_51 : decode cX12_clause1 51 = .ok (.aload_n 0, 1) := by decide +kernel
theorem dX12_clause1_52 : decode cX12_clause1 52 = .ok (.invokevirtual 319, 3) := by decide +kernel
theorem dX12_clause1_55 : decode cX12_clause1 55 = .ok (.goto 37, 3) := by decide +kernel
theorem dX12_clause1_58 : decode cX12_clause1 58 = .ok (.iload_n 1, 1) := by decide +kernel
theorem dX12_clause1_59 : decode cX12_clause1 59 = .ok (.iconst 3, 1) := by decide +kernel
theorem dX12_clause1_60 : decode cX12_clause1 60 = .ok (.if_icmp .ne 10, 3) := by decide +kernel
theorem dX12_clause1_63 : decode cX12_clause1 63 = .ok (.aload_n 0, 1) := by decide +kernel
theorem dX12_clause1_64 : decode cX12_clause1 64 = .ok (.invokevirtual 322, 3) := by decide +kernel
theorem dX12_clause1_67 : decode cX12_clause1 67 = .ok (.goto 25, 3) := by decide +kernel
theorem dX12_clause1_70 : decode cX12_clause1 70 = .ok (.aload_n 0, 1) := by decide +kernel
theorem dX12_clause1_71 : decode cX12_clause1 71 = .ok (.iload_n 1, 1) := by decide +kernel
theorem dX12_clause1_72 : decode cX12_clause1 72 = .ok (.iconst 4, 1) := by decide +kernel
theorem dX12_clause1_73 : decode cX12_clause1 73 = .ok (.if_icmp .ne 7, 3) := by decide +kernel
theorem dX12_clause1_76 : decode cX12_clause1 76 = .ok (.iconst 1, 1) := by decide +kernel
theorem dX12_clause1_77 : decode cX12_clause1 77 = .ok (.goto 4, 3) := by decide +kernel
theorem dX12_clause1_80 : decode cX12_clause1 80 = .ok (.iconst 0, 1) := by decide +kernel
theorem dX12_clause1_81 : decode cX12_clause1 81 = .ok (.iconst 1, 1) := by decide +kernel
theorem dX12_clause1_82 : decode cX12_clause1 82 = .ok (.invokevirtual 276, 3) := by decide +kernel
theorem dX12_clause1_85 : decode cX12_clause1 85 = .ok (.ifCond .eq 7, 3) := by decide +kernel
theorem dX12_clause1_88 : decode cX12_clause1 88 = .ok (.aload_n 0, 1) := by decide +kernel
theorem dX12_clause1_89 : decode cX12_clause1 89 = .ok (.invokevirtual 325, 3) := by decide +kernel
theorem dX12_clause1_92 : decode cX12_clause1 92 = .ok (.return_, 1) := by decide +kernel
theorem dX12_feed_0 : decode cX12_feed 0 = .ok (.aload_n 0, 1) := by decide +kernel
theorem dX12_feed_1 : decode cX12_feed 1 = .ok (.iconst 0, 1) := by decide +kernel
theorem dX12_feed_2 : decode cX12_feed 2 = .ok (.putfield 68, 3) := by decide +kernel
theorem dX12_feed_5 : decode cX12_feed 5 = .ok (.aload_n 0, 1) := by decide +kernel
theorem dX12_feed_6 : decode cX12_feed 6 = .ok (.getfield 328, 3) := by decide +kernel
theorem dX12_feed_9 : decode cX12_feed 9 = .ok (.bipush 20, 2) := by decide +kernel
theorem dX12_feed_11 : decode cX12_feed 11 = .ok (.iadd, 1) := by decide +kernel
theorem dX12_feed_12 : decode cX12_feed 12 = .ok (.sipush 700, 3) := by decide +kernel
theorem dX12_feed_15 : decode cX12_feed 15 = .ok (.if_icmp .le 5, 3) := by decide +kernel
theorem dX12_feed_18 : decode cX12_feed 18 = .ok (.iconst (-1), 1) := by decide +kernel
theorem dX12_feed_19 : decode cX12_feed 19 = .ok (.ireturn, 1) := by decide +kernel
theorem dX12_feed_20 : decode cX12_feed 20 = .ok (.iconst 0, 1) := by decide +kernel
theorem dX12_feed_21 : decode cX12_feed 21 = .ok (.istore 6, 2) := by decide +kernel
theorem dX12_feed_23 : decode cX12_feed 23 = .ok (.iload 6, 2) := by decide +kernel
theorem dX12_feed_25 : decode cX12_feed 25 = .ok (.bipush 20, 2) := by decide +kernel
theorem dX12_feed_27 : decode cX12_feed 27 = .ok (.if_icmp .ge 86, 3) := by decide +kernel
theorem dX12_feed_30 : decode cX12_feed 30 = .ok (.iload 6, 2) := by decide +kernel
theorem dX12_feed_32 : decode cX12_feed 32 = .ok (.iconst 4, 1) := by decide +kernel
theorem dX12_feed_33 : decode cX12_feed 33 = .ok (.if_icmp .ge 7, 3) := by decide +kernel
theorem dX12_feed_36 : decode cX12_feed 36 = .ok (.iload_n 1, 1) := by decide +kernel
theorem dX12_feed_37 : decode cX12_feed 37 = .ok (.goto 39, 3) := by decide +kernel
theorem dX12_feed_40 : decode cX12_feed 40 = .ok (.iload 6, 2) := by decide +kernel
theorem dX12_feed_42 : decode cX12_feed 42 = .ok (.bipush 8, 2) := by decide +kernel
theorem dX12_feed_44 : decode cX12_feed 44 = .ok (.if_icmp .ge 7, 3) := by decide +kernel
theorem dX12_feed_47 : decode cX12_feed 47 = .ok (.iload_n 2, 1) := by decide +kernel
theorem dX12_feed_48 : decode cX12_feed 48 = .ok (.goto 28, 3) := by decide +kernel
theorem dX12_feed_51 : decode cX12_feed 51 = .ok (.iload 6, 2) := by decide +kernel
theorem dX12_feed_53 : decode cX12_feed 53 = .ok (.bipush 12, 2) := by decide +kernel
theorem dX12_feed_55 : decode cX12_feed 55 = .ok (.if_icmp .ge 7, 3) := by decide +kernel
theorem dX12_feed_58 : decode cX12_feed 58 = .ok (.iload_n 3, 1) := by decide +kernel
theorem dX12_feed_59 : decode cX12_feed 59 = .ok (.goto 17, 3) := by decide +kernel
theorem dX12_feed_62 : decode cX12_feed 62 = .ok (.iload 6, 2) := by decide +kernel
theorem dX12_feed_64 : decode cX12_feed 64 = .ok (.bipush 16, 2) := by decide +kernel
theorem dX12_feed_66 : decode cX12_feed 66 = .ok (.if_icmp .ge 8, 3) := by decide +kernel
theorem dX12_feed_69 : decode cX12_feed 69 = .ok (.iload 4, 2) := by decide +kernel
theorem dX12_feed_71 : decode cX12_feed 71 = .ok (.goto 5, 3) := by decide +kernel
theorem dX12_feed_74 : decode cX12_feed 74 = .ok (.iload 5, 2) := by decide +kernel
theorem dX12_feed_76 : decode cX12_feed 76 = .ok (.istore 7, 2) := by decide +kernel
theorem dX12_feed_78 : decode cX12_feed 78 = .ok (.aload_n 0, 1) := by decide +kernel
theorem dX12_feed_79 : decode cX12_feed 79 = .ok (.getfield 34, 3) := by decide +kernel
theorem dX12_feed_82 : decode cX12_feed 82 = .ok (.aload_n 0, 1) := by decide +kernel
theorem dX12_feed_83 : decode cX12_feed 83 = .ok (.getfield 328, 3) := by decide +kernel
theorem dX12_feed_86 : decode cX12_feed 86 = .ok (.iload 6, 2) := by decide +kernel
theorem dX12_feed_88 : decode cX12_feed 88 = .ok (.iadd, 1) := by decide +kernel
theorem dX12_feed_89 : decode cX12_feed 89 = .ok (.iload 7, 2) := by decide +kernel
theorem dX12_feed_91 : decode cX12_feed 91 = .ok (.bipush 24, 2) := by decide +kernel
theorem dX12_feed_93 : decode cX12_feed 93 = .ok (.bipush 8, 2) := by decide +kernel
theorem dX12_feed_95 : decode cX12_feed 95 = .ok (.iload 6, 2) := by decide +kernel
theorem dX12_feed_97 : decode cX12_feed 97 = .ok (.iconst 4, 1) := by decide +kernel
theorem dX12_feed_98 : decode cX12_feed 98 = .ok (.irem, 1) := by decide +kernel
theorem dX12_feed_99 : decode cX12_feed 99 = .ok (.imul, 1) := by decide +kernel
theorem dX12_feed_100 : decode cX12_feed 100 = .ok (.isub, 1) := by decide +kernel
theorem dX12_feed_101 : decode cX12_feed 101 = .ok (.ishr, 1) := by decide +kernel
theorem dX12_feed_102 : decode cX12_feed 102 = .ok (.sipush 255, 3) := by decide +kernel
theorem dX12_feed_105 : decode cX12_feed 105 = .ok (.iand, 1) := by decide +kernel
theorem dX12_feed_106 : decode cX12_feed 106 = .ok (.iastore, 1) := by decide +kernel
theorem dX12_feed_107 : decode cX12_feed 107 = .ok (.iinc 6 1, 3) := by decide +kernel
theorem dX12_feed_110 : decode cX12_feed 110 = .ok (.goto (-87), 3) := by decide +kernel
theorem dX12_feed_113 : decode cX12_feed 113 = .ok (.aload_n 0, 1) := by decide +kernel
theorem dX12_feed_114 : decode cX12_feed 114 = .ok (.dup, 1) := by decide +kernel
theorem dX12_feed_115 : decode cX12_feed 115 = .ok (.getfield 328, 3) := by decide +kernel
theorem dX12_feed_118 : decode cX12_feed 118 = .ok (.bipush 20, 2) := by decide +kernel
theorem dX12_feed_120 : decode cX12_feed 120 = .ok (.iadd, 1) := by decide +kernel
theorem dX12_feed_121 : decode cX12_feed 121 = .ok (.putfield 328, 3) := by decide +kernel
theorem dX12_feed_124 : decode cX12_feed 124 = .ok (.aload_n 0, 1) := by decide +kernel
theorem dX12_feed_125 : decode cX12_feed 125 = .ok (.getfield 328, 3) := by decide +kernel
theorem dX12_feed_128 : decode cX12_feed 128 = .ok (.ireturn, 1) := by decide +kernel
theorem dX12_movesTerms_0 : decode cX12_movesTerms 0 = .ok (.iconst 0, 1) := by decide +kernel
theorem dX12_movesTerms_1 : decode cX12_movesTerms 1 = .ok (.istore_n 3, 1) := by decide +kernel
theorem dX12_movesTerms_2 : decode cX12_movesTerms 2 = .ok (.iload_n 3, 1) := by decide +kernel
theorem dX12_movesTerms_3 : decode cX12_movesTerms 3 = .ok (.sipush 400, 3) := by decide +kernel
theorem dX12_movesTerms_6 : decode cX12_movesTerms 6 = .ok (.if_icmp .ge 82, 3) := by decide +kernel
theorem dX12_movesTerms_9 : decode cX12_movesTerms 9 = .ok (.aload_n 0, 1) := by decide +kernel
theorem dX12_movesTerms_10 : decode cX12_movesTerms 10 = .ok (.getfield 13, 3) := by decide +kernel
theorem dX12_movesTerms_13 : decode cX12_movesTerms 13 = .ok (.iload_n 2, 1) := by decide +kernel
theorem dX12_movesTerms_14 : decode cX12_movesTerms 14 = .ok (.iload_n 3, 1) := by decide +kernel
theorem dX12_movesTerms_15 : decode cX12_movesTerms 15 = .ok (.iadd, 1) := by decide +kernel
theorem dX12_movesTerms_16 : decode cX12_movesTerms 16 = .ok (.aload_n 0, 1) := by decide +kernel
theorem dX12_movesTerms_17 : decode cX12_movesTerms 17 = .ok (.getfield 13, 3) := by decide +kernel
theorem dX12_movesTerms_20 : decode cX12_movesTerms 20 = .ok (.iload_n 1, 1) := by decide +kernel
theorem dX12_movesTerms_21 : decode cX12_movesTerms 21 = .ok (.iload_n 3, 1) := by decide +kernel
theorem dX12_movesTerms_22 : decode cX12_movesTerms 22 = .ok (.iadd, 1) := by decide +kernel
theorem dX12_movesTerms_23 : decode cX12_movesTerms 23 = .ok (.iaload, 1) := by decide +kernel
theorem dX12_movesTerms_24 : decode cX12_movesTerms 24 = .ok (.iastore, 1) := by decide +kernel
theorem dX12_movesTerms_25 : decode cX12_movesTerms 25 = .ok (.aload_n 0, 1) := by decide +kernel
theorem dX12_movesTerms_26 : decode cX12_movesTerms 26 = .ok (.getfield 19, 3) := by decide +kernel
theorem dX12_movesTerms_29 : decode cX12_movesTerms 29 = .ok (.iload_n 2, 1) := by decide +kernel
theorem dX12_movesTerms_30 : decode cX12_movesTerms 30 = .ok (.iload_n 3, 1) := by decide +kernel
theorem dX12_movesTerms_31 : decode cX12_movesTerms 31 = .ok (.iadd, 1) := by decide +kernel
theorem dX12_movesTerms_32 : decode cX12_movesTerms 32 = .ok (.aload_n 0, 1) := by decide +kernel
theorem dX12_movesTerms_33 : decode cX12_movesTerms 33 = .ok (.getfield 19, 3) := by decide +kernel
theorem dX12_movesTerms_36 : decode cX12_movesTerms 36 = .ok (.iload_n 1, 1) := by decide +kernel
theorem dX12_movesTerms_37 : decode cX12_movesTerms 37 = .ok (.iload_n 3, 1) := by decide +kernel
theorem dX12_movesTerms_38 : decode cX12_movesTerms 38 = .ok (.iadd, 1) := by decide +kernel
theorem dX12_movesTerms_39 : decode cX12_movesTerms 39 = .ok (.iaload, 1) := by decide +kernel
theorem dX12_movesTerms_40 : decode cX12_movesTerms 40 = .ok (.iastore, 1) := by decide +kernel
theorem dX12_movesTerms_41 : decode cX12_movesTerms 41 = .ok (.iconst 0, 1) := by decide +kernel
theorem dX12_movesTerms_42 : decode cX12_movesTerms 42 = .ok (.istore 4, 2) := by decide +kernel
theorem dX12_movesTerms_44 : decode cX12_movesTerms 44 = .ok (.iload 4, 2) := by decide +kernel
theorem dX12_movesTerms_46 : decode cX12_movesTerms 46 = .ok (.iconst 3, 1) := by decide +kernel
theorem dX12_movesTerms_47 : decode cX12_movesTerms 47 = .ok (.if_icmp .ge 35, 3) := by decide +kernel
theorem dX12_movesTerms_50 : decode cX12_movesTerms 50 = .ok (.aload_n 0, 1) := by decide +kernel
theorem dX12_movesTerms_51 : decode cX12_movesTerms 51 = .ok (.getfield 16, 3) := by decide +kernel
theorem dX12_movesTerms_54 : decode cX12_movesTerms 54 = .ok (.iconst 3, 1) := by decide +kernel
theorem dX12_movesTerms_55 : decode cX12_movesTerms 55 = .ok (.iload_n 2, 1) := by decide +kernel
theorem dX12_movesTerms_56 : decode cX12_movesTerms 56 = .ok (.iload_n 3, 1) := by decide +kernel
theorem dX12_movesTerms_57 : decode cX12_movesTerms 57 = .ok (.iadd, 1) := by decide +kernel
theorem dX12_movesTerms_58 : decode cX12_movesTerms 58 = .ok (.imul, 1) := by decide +kernel
theorem dX12_movesTerms_59 : decode cX12_movesTerms 59 = .ok (.iload 4, 2) := by decide +kernel
theorem dX12_movesTerms_61 : decode cX12_movesTerms 61 = .ok (.iadd, 1) := by decide +kernel
theorem dX12_movesTerms_62 : decode cX12_movesTerms 62 = .ok (.aload_n 0, 1) := by decide +kernel
theorem dX12_movesTerms_63 : decode cX12_movesTerms 63 = .ok (.getfield 16, 3) := by decide +kernel
theorem dX12_movesTerms_66 : decode cX12_movesTerms 66 = .ok (.iconst 3, 1) := by decide +kernel
theorem dX12_movesTerms_67 : decode cX12_movesTerms 67 = .ok (.iload_n 1, 1) := by decide +kernel
theorem dX12_movesTerms_68 : decode cX12_movesTerms 68 = .ok (.iload_n 3, 1) := by decide +kernel
theorem dX12_movesTerms_69 : decode cX12_movesTerms 69 = .ok (.iadd, 1) := by decide +kernel
theorem dX12_movesTerms_70 : decode cX12_movesTerms 70 = .ok (.imul, 1) := by decide +kernel
theorem dX12_movesTerms_71 : decode cX12_movesTerms 71 = .ok (.iload 4, 2) := by decide +kernel
theorem dX12_movesTerms_73 : decode cX12_movesTerms 73 = .ok (.iadd, 1) := by decide +kernel
theorem dX12_movesTerms_74 : decode cX12_movesTerms 74 = .ok (.iaload, 1) := by decide +kernel
theorem dX12_movesTerms_75 : decode cX12_movesTerms 75 = .ok (.iastore, 1) := by decide +kernel
theorem dX12_movesTerms_76 : decode cX12_movesTerms 76 = .ok (.iinc 4 1, 3) := by decide +kernel
theorem dX12_movesTerms_79 : decode cX12_movesTerms 79 = .ok (.goto (-35), 3) := by decide +kernel
theorem dX12_movesTerms_82 : decode cX12_movesTerms 82 = .ok (.iinc 3 1, 3) := by decide +kernel
theorem dX12_movesTerms_85 : decode cX12_movesTerms 85 = .ok (.goto (-83), 3) := by decide +kernel
theorem dX12_movesTerms_88 : decode cX12_movesTerms 88 = .ok (.return_, 1) := by decide +kernel
theorem dX12_readsAll_0 : decode cX12_readsAll 0 = .ok (.aload_n 0, 1) := by decide +kernel
theorem dX12_readsAll_1 : decode cX12_readsAll 1 = .ok (.iload_n 1, 1) := by decide +kernel
theorem dX12_readsAll_2 : decode cX12_readsAll 2 = .ok (.putfield 233, 3) := by decide +kernel
theorem dX12_readsAll_5 : decode cX12_readsAll 5 = .ok (.aload_n 0, 1) := by decide +kernel
theorem dX12_readsAll_6 : decode cX12_readsAll 6 = .ok (.iconst 0, 1) := by decide +kernel
theorem dX12_readsAll_7 : decode cX12_readsAll 7 = .ok (.putfield 243, 3) := by decide +kernel
theorem dX12_readsAll_10 : decode cX12_readsAll 10 = .ok (.aload_n 0, 1) := by decide +kernel
theorem dX12_readsAll_11 : decode cX12_readsAll 11 = .ok (.iconst 0, 1) := by decide +kernel
theorem dX12_readsAll_12 : decode cX12_readsAll 12 = .ok (.putfield 273, 3) := by decide +kernel
theorem dX12_readsAll_15 : decode cX12_readsAll 15 = .ok (.aload_n 0, 1) := by decide +kernel
theorem dX12_readsAll_16 : decode cX12_readsAll 16 = .ok (.iconst (-1), 1) := by decide +kernel
theorem dX12_readsAll_17 : decode cX12_readsAll 17 = .ok (.putfield 37, 3) := by decide +kernel
theorem dX12_readsAll_20 : decode cX12_readsAll 20 = .ok (.aload_n 0, 1) := by decide +kernel
theorem dX12_readsAll_21 : decode cX12_readsAll 21 = .ok (.aload_n 0, 1) := by decide +kernel
theorem dX12_readsAll_22 : decode cX12_readsAll 22 = .ok (.iconst 0, 1) := by decide +kernel
theorem dX12_readsAll_23 : decode cX12_readsAll 23 = .ok (.dup_x1, 1) := by decide +kernel
theorem dX12_readsAll_24 : decode cX12_readsAll 24 = .ok (.putfield 313, 3) := by decide +kernel
theorem dX12_readsAll_27 : decode cX12_readsAll 27 = .ok (.putfield 287, 3) := by decide +kernel
theorem dX12_readsAll_30 : decode cX12_readsAll 30 = .ok (.aload_n 0, 1) := by decide +kernel
theorem dX12_readsAll_31 : decode cX12_readsAll 31 = .ok (.iconst 0, 1) := by decide +kernel
theorem dX12_readsAll_32 : decode cX12_readsAll 32 = .ok (.putfield 92, 3) := by decide +kernel
theorem dX12_readsAll_35 : decode cX12_readsAll 35 = .ok (.iconst 0, 1) := by decide +kernel
theorem dX12_readsAll_36 : decode cX12_readsAll 36 = .ok (.istore_n 2, 1) := by decide +kernel
theorem dX12_readsAll_37 : decode cX12_readsAll 37 = .ok (.iload_n 2, 1) := by decide +kernel
theorem dX12_readsAll_38 : decode cX12_readsAll 38 = .ok (.bipush 63, 2) := by decide +kernel
theorem dX12_readsAll_40 : decode cX12_readsAll 40 = .ok (.if_icmp .ge 19, 3) := by decide +kernel
theorem dX12_readsAll_43 : decode cX12_readsAll 43 = .ok (.aload_n 0, 1) := by decide +kernel
theorem dX12_readsAll_44 : decode cX12_readsAll 44 = .ok (.getfield 9, 3) := by decide +kernel
theorem dX12_readsAll_47 : decode cX12_readsAll 47 = .ok (.bipush 126, 2) := by decide +kernel
theorem dX12_readsAll_49 : decode cX12_readsAll 49 = .ok (.iload_n 2, 1) := by decide +kernel
theorem dX12_readsAll_50 : decode cX12_readsAll 50 = .ok (.iadd, 1) := by decide +kernel
theorem dX12_readsAll_51 : decode cX12_readsAll 51 = .ok (.iconst 0, 1) := by decide +kernel
theorem dX12_readsAll_52 : decode cX12_readsAll 52 = .ok (.iastore, 1) := by decide +kernel
theorem dX12_readsAll_53 : decode cX12_readsAll 53 = .ok (.iinc 2 1, 3) := by decide +kernel
theorem dX12_readsAll_56 : decode cX12_readsAll 56 = .ok (.goto (-19), 3) := by decide +kernel
theorem dX12_readsAll_59 : decode cX12_readsAll 59 = .ok (.aload_n 0, 1) := by decide +kernel
theorem dX12_readsAll_60 : decode cX12_readsAll 60 = .ok (.getfield 9, 3) := by decide +kernel
theorem dX12_readsAll_63 : decode cX12_readsAll 63 = .ok (.sipush 165, 3) := by decide +kernel
theorem dX12_readsAll_66 : decode cX12_readsAll 66 = .ok (.iconst 4, 1) := by decide +kernel
theorem dX12_readsAll_67 : decode cX12_readsAll 67 = .ok (.iastore, 1) := by decide +kernel
theorem dX12_readsAll_68 : decode cX12_readsAll 68 = .ok (.aload_n 0, 1) := by decide +kernel
theorem dX12_readsAll_69 : decode cX12_readsAll 69 = .ok (.sipush 800, 3) := by decide +kernel
theorem dX12_readsAll_72 : decode cX12_readsAll 72 = .ok (.putfield 71, 3) := by decide +kernel
theorem dX12_readsAll_75 : decode cX12_readsAll 75 = .ok (.aload_n 0, 1) := by decide +kernel
theorem dX12_readsAll_76 : decode cX12_readsAll 76 = .ok (.bipush 126, 2) := by decide +kernel
theorem dX12_readsAll_78 : decode cX12_readsAll 78 = .ok (.putfield 85, 3) := by decide +kernel
theorem dX12_readsAll_81 : decode cX12_readsAll 81 = .ok (.aload_n 0, 1) := by decide +kernel
theorem dX12_readsAll_82 : decode cX12_readsAll 82 = .ok (.bipush 10, 2) := by decide +kernel
theorem dX12_readsAll_84 : decode cX12_readsAll 84 = .ok (.putfield 82, 3) := by decide +kernel
theorem dX12_readsAll_87 : decode cX12_readsAll 87 = .ok (.aload_n 0, 1) := by decide +kernel
theorem dX12_readsAll_88 : decode cX12_readsAll 88 = .ok (.invokevirtual 280, 3) := by decide +kernel
theorem dX12_readsAll_91 : decode cX12_readsAll 91 = .ok (.aload_n 0, 1) := by decide +kernel
theorem dX12_readsAll_92 : decode cX12_readsAll 92 = .ok (.getfield 273, 3) := by decide +kernel
theorem dX12_readsAll_95 : decode cX12_readsAll 95 = .ok (.ifCond .ne 23, 3) := by decide +kernel
theorem dX12_readsAll_98 : decode cX12_readsAll 98 = .ok (.aload_n 0, 1) := by decide +kernel
theorem dX12_readsAll_99 : decode cX12_readsAll 99 = .ok (.getfield 261, 3) := by decide +kernel
theorem dX12_readsAll_102 : decode cX12_readsAll 102 = .ok (.ifCond .eq 16, 3) := by decide +kernel
theorem dX12_readsAll_105 : decode cX12_readsAll 105 = .ok (.aload_n 0, 1) := by decide +kernel
theorem dX12_readsAll_106 : decode cX12_readsAll 106 = .ok (.invokevirtual 331, 3) := by decide +kernel
theorem dX12_readsAll_109 : decode cX12_readsAll 109 = .ok (.aload_n 0, 1) := by decide +kernel
theorem dX12_readsAll_110 : decode cX12_readsAll 110 = .ok (.bipush 59, 2) := by decide +kernel
theorem dX12_readsAll_112 : decode cX12_readsAll 112 = .ok (.invokevirtual 296, 3) := by decide +kernel
theorem dX12_readsAll_115 : decode cX12_readsAll 115 = .ok (.goto (-24), 3) := by decide +kernel
theorem dX12_readsAll_118 : decode cX12_readsAll 118 = .ok (.aload_n 0, 1) := by decide +kernel
theorem dX12_readsAll_119 : decode cX12_readsAll 119 = .ok (.aload_n 0, 1) := by decide +kernel
theorem dX12_readsAll_120 : decode cX12_readsAll 120 = .ok (.aload_n 0, 1) := by decide +kernel
theorem dX12_readsAll_121 : decode cX12_readsAll 121 = .ok (.iconst 0, 1) := by decide +kernel
theorem dX12_readsAll_122 : decode cX12_readsAll 122 = .ok (.dup_x1, 1) := by decide +kernel
theorem dX12_readsAll_123 : decode cX12_readsAll 123 = .ok (.putfield 82, 3) := by decide +kernel
theorem dX12_readsAll_126 : decode cX12_readsAll 126 = .ok (.dup_x1, 1) := by decide +kernel
theorem dX12_readsAll_127 : decode cX12_readsAll 127 = .ok (.putfield 85, 3) := by decide +kernel
theorem dX12_readsAll_130 : decode cX12_readsAll 130 = .ok (.putfield 71, 3) := by decide +kernel
theorem dX12_readsAll_133 : decode cX12_readsAll 133 = .ok (.return_, 1) := by decide +kernel
theorem dX12_bank_0 : decode cX12_bank 0 = .ok (.aload_n 0, 1) := by decide +kernel
theorem dX12_bank_1 : decode cX12_bank 1 = .ok (.iconst 0, 1) := by decide +kernel
theorem dX12_bank_2 : decode cX12_bank 2 = .ok (.putfield 68, 3) := by decide +kernel
theorem dX12_bank_5 : decode cX12_bank 5 = .ok (.aload_n 0, 1) := by decide +kernel
theorem dX12_bank_6 : decode cX12_bank 6 = .ok (.iload_n 1, 1) := by decide +kernel
theorem dX12_bank_7 : decode cX12_bank 7 = .ok (.ifCond .lt 15, 3) := by decide +kernel
theorem dX12_bank_10 : decode cX12_bank 10 = .ok (.iload_n 1, 1) := by decide +kernel
theorem dX12_bank_11 : decode cX12_bank 11 = .ok (.aload_n 0, 1) := by decide +kernel
theorem dX12_bank_12 : decode cX12_bank 12 = .ok (.getfield 328, 3) := by decide +kernel
theorem dX12_bank_15 : decode cX12_bank 15 = .ok (.if_icmp .gt 7, 3) := by decide +kernel
theorem dX12_bank_18 : decode cX12_bank 18 = .ok (.iconst 1, 1) := by decide +kernel
theorem dX12_bank_19 : decode cX12_bank 19 = .ok (.goto 4, 3) := by decide +kernel
theorem dX12_bank_22 : decode cX12_bank 22 = .ok (.iconst 0, 1) := by decide +kernel
theorem dX12_bank_23 : decode cX12_bank 23 = .ok (.iconst 1, 1) := by decide +kernel
theorem dX12_bank_24 : decode cX12_bank 24 = .ok (.invokevirtual 334, 3) := by decide +kernel
theorem dX12_bank_27 : decode cX12_bank 27 = .ok (.ifCond .ne 5, 3) := by decide +kernel
theorem dX12_bank_30 : decode cX12_bank 30 = .ok (.iconst 0, 1) := by decide +kernel
theorem dX12_bank_31 : decode cX12_bank 31 = .ok (.ireturn, 1) := by decide +kernel
theorem dX12_bank_32 : decode cX12_bank 32 = .ok (.aload_n 0, 1) := by decide +kernel
theorem dX12_bank_33 : decode cX12_bank 33 = .ok (.iconst 0, 1) := by decide +kernel
theorem dX12_bank_34 : decode cX12_bank 34 = .ok (.putfield 328, 3) := by decide +kernel
theorem dX12_bank_37 : decode cX12_bank 37 = .ok (.aload_n 0, 1) := by decide +kernel
theorem dX12_bank_38 : decode cX12_bank 38 = .ok (.iload_n 1, 1) := by decide +kernel
theorem dX12_bank_39 : decode cX12_bank 39 = .ok (.invokevirtual 337, 3) := by decide +kernel
theorem dX12_bank_42 : decode cX12_bank 42 = .ok (.aload_n 0, 1) := by decide +kernel
theorem dX12_bank_43 : decode cX12_bank 43 = .ok (.getfield 273, 3) := by decide +kernel
theorem dX12_bank_46 : decode cX12_bank 46 = .ok (.ifCond .eq 18, 3) := by decide +kernel
theorem dX12_bank_49 : decode cX12_bank 49 = .ok (.aload_n 0, 1) := by decide +kernel
theorem dX12_bank_50 : decode cX12_bank 50 = .ok (.getfield 31, 3) := by decide +kernel
theorem dX12_bank_53 : decode cX12_bank 53 = .ok (.iconst 0, 1) := by decide +kernel
theorem dX12_bank_54 : decode cX12_bank 54 = .ok (.dup2, 1) := by decide +kernel
theorem dX12_bank_55 : decode cX12_bank 55 = .ok (.iaload, 1) := by decide +kernel
theorem dX12_bank_56 : decode cX12_bank 56 = .ok (.iconst 1, 1) := by decide +kernel
theorem dX12_bank_57 : decode cX12_bank 57 = .ok (.iadd, 1) := by decide +kernel
theorem dX12_bank_58 : decode cX12_bank 58 = .ok (.iastore, 1) := by decide +kernel
theorem dX12_bank_59 : decode cX12_bank 59 = .ok (.aload_n 0, 1) := by decide +kernel
theorem dX12_bank_60 : decode cX12_bank 60 = .ok (.getfield 273, 3) := by decide +kernel
theorem dX12_bank_63 : decode cX12_bank 63 = .ok (.ireturn, 1) := by decide +kernel
theorem dX12_bank_64 : decode cX12_bank 64 = .ok (.aload_n 0, 1) := by decide +kernel
theorem dX12_bank_65 : decode cX12_bank 65 = .ok (.sipush 800, 3) := by decide +kernel
theorem dX12_bank_68 : decode cX12_bank 68 = .ok (.iconst 0, 1) := by decide +kernel
theorem dX12_bank_69 : decode cX12_bank 69 = .ok (.invokevirtual 340, 3) := by decide +kernel
theorem dX12_bank_72 : decode cX12_bank 72 = .ok (.aload_n 0, 1) := by decide +kernel
theorem dX12_bank_73 : decode cX12_bank 73 = .ok (.bipush 126, 2) := by decide +kernel
theorem dX12_bank_75 : decode cX12_bank 75 = .ok (.iconst 0, 1) := by decide +kernel
theorem dX12_bank_76 : decode cX12_bank 76 = .ok (.bipush 63, 2) := by decide +kernel
theorem dX12_bank_78 : decode cX12_bank 78 = .ok (.invokevirtual 343, 3) := by decide +kernel
theorem dX12_bank_81 : decode cX12_bank 81 = .ok (.aload_n 0, 1) := by decide +kernel
theorem dX12_bank_82 : decode cX12_bank 82 = .ok (.aload_n 0, 1) := by decide +kernel
theorem dX12_bank_83 : decode cX12_bank 83 = .ok (.getfield 287, 3) := by decide +kernel
theorem dX12_bank_86 : decode cX12_bank 86 = .ok (.putfield 347, 3) := by decide +kernel
theorem dX12_bank_89 : decode cX12_bank 89 = .ok (.iconst 0, 1) := by decide +kernel
theorem dX12_bank_90 : decode cX12_bank 90 = .ok (.istore_n 2, 1) := by decide +kernel
theorem dX12_bank_91 : decode cX12_bank 91 = .ok (.iload_n 2, 1) := by decide +kernel
theorem dX12_bank_92 : decode cX12_bank 92 = .ok (.bipush 10, 2) := by decide +kernel
theorem dX12_bank_94 : decode cX12_bank 94 = .ok (.if_icmp .ge 54, 3) := by decide +kernel
theorem dX12_bank_97 : decode cX12_bank 97 = .ok (.aload_n 0, 1) := by decide +kernel
theorem dX12_bank_98 : decode cX12_bank 98 = .ok (.getfield 22, 3) := by decide +kernel
theorem dX12_bank_101 : decode cX12_bank 101 = .ok (.iload_n 2, 1) := by decide +kernel
theorem dX12_bank_102 : decode cX12_bank 102 = .ok (.aload_n 0, 1) := by decide +kernel
theorem dX12_bank_103 : decode cX12_bank 103 = .ok (.getfield 22, 3) := by decide +kernel
theorem dX12_bank_106 : decode cX12_bank 106 = .ok (.bipush 10, 2) := by decide +kernel
theorem dX12_bank_108 : decode cX12_bank 108 = .ok (.iload_n 2, 1) := by decide +kernel
theorem dX12_bank_109 : decode cX12_bank 109 = .ok (.iadd, 1) := by decide +kernel
theorem dX12_bank_110 : decode cX12_bank 110 = .ok (.iaload, 1) := by decide +kernel
theorem dX12_bank_111 : decode cX12_bank 111 = .ok (.iastore, 1) := by decide +kernel
theorem dX12_bank_112 : decode cX12_bank 112 = .ok (.aload_n 0, 1) := by decide +kernel
theorem dX12_bank_113 : decode cX12_bank 113 = .ok (.getfield 25, 3) := by decide +kernel
theorem dX12_bank_116 : decode cX12_bank 116 = .ok (.iload_n 2, 1) := by decide +kernel
theorem dX12_bank_117 : decode cX12_bank 117 = .ok (.aload_n 0, 1) := by decide +kernel
theorem dX12_bank_118 : decode cX12_bank 118 = .ok (.getfield 25, 3) := by decide +kernel
theorem dX12_bank_121 : decode cX12_bank 121 = .ok (.bipush 10, 2) := by decide +kernel
theorem dX12_bank_123 : decode cX12_bank 123 = .ok (.iload_n 2, 1) := by decide +kernel
theorem dX12_bank_124 : decode cX12_bank 124 = .ok (.iadd, 1) := by decide +kernel
theorem dX12_bank_125 : decode cX12_bank 125 = .ok (.iaload, 1) := by decide +kernel
theorem dX12_bank_126 : decode cX12_bank 126 = .ok (.iastore, 1) := by decide +kernel
theorem dX12_bank_127 : decode cX12_bank 127 = .ok (.aload_n 0, 1) := by decide +kernel
theorem dX12_bank_128 : decode cX12_bank 128 = .ok (.getfield 28, 3) := by decide +kernel
theorem dX12_bank_131 : decode cX12_bank 131 = .ok (.iload_n 2, 1) := by decide +kernel
theorem dX12_bank_132 : decode cX12_bank 132 = .ok (.aload_n 0, 1) := by decide +kernel
theorem dX12_bank_133 : decode cX12_bank 133 = .ok (.getfield 28, 3) := by decide +kernel
theorem dX12_bank_136 : decode cX12_bank 136 = .ok (.bipush 10, 2) := by decide +kernel
theorem dX12_bank_138 : decode cX12_bank 138 = .ok (.iload_n 2, 1) := by decide +kernel
theorem dX12_bank_139 : decode cX12_bank 139 = .ok (.iadd, 1) := by decide +kernel
theorem dX12_bank_140 : decode cX12_bank 140 = .ok (.iaload, 1) := by decide +kernel
theorem dX12_bank_141 : decode cX12_bank 141 = .ok (.iastore, 1) := by decide +kernel
theorem dX12_bank_142 : decode cX12_bank 142 = .ok (.iinc 2 1, 3) := by decide +kernel
theorem dX12_bank_145 : decode cX12_bank 145 = .ok (.goto (-54), 3) := by decide +kernel
theorem dX12_bank_148 : decode cX12_bank 148 = .ok (.aload_n 0, 1) := by decide +kernel
theorem dX12_bank_149 : decode cX12_bank 149 = .ok (.aload_n 0, 1) := by decide +kernel
theorem dX12_bank_150 : decode cX12_bank 150 = .ok (.aload_n 0, 1) := by decide +kernel
theorem dX12_bank_151 : decode cX12_bank 151 = .ok (.iconst 0, 1) := by decide +kernel
theorem dX12_bank_152 : decode cX12_bank 152 = .ok (.dup_x1, 1) := by decide +kernel
theorem dX12_bank_153 : decode cX12_bank 153 = .ok (.putfield 350, 3) := by decide +kernel
theorem dX12_bank_156 : decode cX12_bank 156 = .ok (.dup_x1, 1) := by decide +kernel
theorem dX12_bank_157 : decode cX12_bank 157 = .ok (.putfield 353, 3) := by decide +kernel
theorem dX12_bank_160 : decode cX12_bank 160 = .ok (.putfield 356, 3) := by decide +kernel
theorem dX12_bank_163 : decode cX12_bank 163 = .ok (.iconst 0, 1) := by decide +kernel
theorem dX12_bank_164 : decode cX12_bank 164 = .ok (.ireturn, 1) := by decide +kernel
theorem dX12_fault_0 : decode cX12_fault 0 = .ok (.aload_n 0, 1) := by decide +kernel
theorem dX12_fault_1 : decode cX12_fault 1 = .ok (.iconst 0, 1) := by decide +kernel
theorem dX12_fault_2 : decode cX12_fault 2 = .ok (.putfield 68, 3) := by decide +kernel
theorem dX12_fault_5 : decode cX12_fault 5 = .ok (.aload_n 0, 1) := by decide +kernel
theorem dX12_fault_6 : decode cX12_fault 6 = .ok (.getfield 37, 3) := by decide +kernel
theorem dX12_fault_9 : decode cX12_fault 9 = .ok (.ireturn, 1) := by decide +kernel
theorem dX12_meetings_0 : decode cX12_meetings 0 = .ok (.iconst 0, 1) := by decide +kernel
theorem dX12_meetings_1 : decode cX12_meetings 1 = .ok (.istore_n 2, 1) := by decide +kernel
theorem dX12_meetings_2 : decode cX12_meetings 2 = .ok (.iconst 0, 1) := by decide +kernel
theorem dX12_meetings_3 : decode cX12_meetings 3 = .ok (.istore_n 3, 1) := by decide +kernel
theorem dX12_meetings_4 : decode cX12_meetings 4 = .ok (.iload_n 3, 1) := by decide +kernel
theorem dX12_meetings_5 : decode cX12_meetings 5 = .ok (.aload_n 0, 1) := by decide +kernel
theorem dX12_meetings_6 : decode cX12_meetings 6 = .ok (.getfield 9, 3) := by decide +kernel
theorem dX12_meetings_9 : decode cX12_meetings 9 = .ok (.bipush 9, 2) := by decide +kernel
theorem dX12_meetings_11 : decode cX12_meetings 11 = .ok (.iaload, 1) := by decide +kernel
theorem dX12_meetings_12 : decode cX12_meetings 12 = .ok (.if_icmp .ge 139, 3) := by decide +kernel
theorem dX12_meetings_15 : decode cX12_meetings 15 = .ok (.aload_n 0, 1) := by decide +kernel
theorem dX12_meetings_16 : decode cX12_meetings 16 = .ok (.getfield 9, 3) := by decide +kernel
theorem dX12_meetings_19 : decode cX12_meetings 19 = .ok (.bipush 10, 2) := by decide +kernel
theorem dX12_meetings_21 : decode cX12_meetings 21 = .ok (.iconst 2, 1) := by decide +kernel
theorem dX12_meetings_22 : decode cX12_meetings 22 = .ok (.iload_n 3, 1) := by decide +kernel
theorem dX12_meetings_23 : decode cX12_meetings 23 = .ok (.imul, 1) := by decide +kernel
theorem dX12_meetings_24 : decode cX12_meetings 24 = .ok (.iadd, 1) := by decide +kernel
theorem dX12_meetings_25 : decode cX12_meetings 25 = .ok (.iaload, 1) := by decide +kernel
theorem dX12_meetings_26 : decode cX12_meetings 26 = .ok (.istore 4, 2) := by decide +kernel
theorem dX12_meetings_28 : decode cX12_meetings 28 = .ok (.iconst 0, 1) := by decide +kernel
theorem dX12_meetings_29 : decode cX12_meetings 29 = .ok (.istore 5, 2) := by decide +kernel
theorem dX12_meetings_31 : decode cX12_meetings 31 = .ok (.iload 5, 2) := by decide +kernel
theorem dX12_meetings_33 : decode cX12_meetings 33 = .ok (.aload_n 0, 1) := by decide +kernel
theorem dX12_meetings_34 : decode cX12_meetings 34 = .ok (.iload 4, 2) := by decide +kernel
theorem dX12_meetings_36 : decode cX12_meetings 36 = .ok (.invokevirtual 114, 3) := by decide +kernel
theorem dX12_meetings_39 : decode cX12_meetings 39 = .ok (.if_icmp .ge 106, 3) := by decide +kernel
theorem dX12_meetings_42 : decode cX12_meetings 42 = .ok (.aload_n 0, 1) := by decide +kernel
theorem dX12_meetings_43 : decode cX12_meetings 43 = .ok (.iload 4, 2) := by decide +kernel
theorem dX12_meetings_45 : decode cX12_meetings 45 = .ok (.iload 5, 2) := by decide +kernel
theorem dX12_meetings_47 : decode cX12_meetings 47 = .ok (.invokevirtual 139, 3) := by decide +kernel
theorem dX12_meetings_50 : decode cX12_meetings 50 = .ok (.istore 6, 2) := by decide +kernel
theorem dX12_meetings_52 : decode cX12_meetings 52 = .ok (.iconst 0, 1) := by decide +kernel
theorem dX12_meetings_53 : decode cX12_meetings 53 = .ok (.istore 7, 2) := by decide +kernel
theorem dX12_meetings_55 : decode cX12_meetings 55 = .ok (.iload 7, 2) := by decide +kernel
theorem dX12_meetings_57 : decode cX12_meetings 57 = .ok (.aload_n 0, 1) := by decide +kernel
theorem dX12_meetings_58 : decode cX12_meetings 58 = .ok (.getfield 9, 3) := by decide +kernel
theorem dX12_meetings_61 : decode cX12_meetings 61 = .ok (.bipush 9, 2) := by decide +kernel
theorem dX12_meetings_63 : decode cX12_meetings 63 = .ok (.iaload, 1) := by decide +kernel
theorem dX12_meetings_64 : decode cX12_meetings 64 = .ok (.if_icmp .ge 75, 3) := by decide +kernel
theorem dX12_meetings_67 : decode cX12_meetings 67 = .ok (.aload_n 0, 1) := by decide +kernel
theorem dX12_meetings_68 : decode cX12_meetings 68 = .ok (.iload 6, 2) := by decide +kernel
theorem dX12_meetings_70 : decode cX12_meetings 70 = .ok (.invokevirtual 78, 3) := by decide +kernel
theorem dX12_meetings_73 : decode cX12_meetings 73 = .ok (.ifCond .ne 66, 3) := by decide +kernel
theorem dX12_meetings_76 : decode cX12_meetings 76 = .ok (.iload 5, 2) := by decide +kernel
theorem dX12_meetings_78 : decode cX12_meetings 78 = .ok (.ifCond .ne 9, 3) := by decide +kernel
theorem dX12_meetings_81 : decode cX12_meetings 81 = .ok (.iload_n 3, 1) := by decide +kernel
theorem dX12_meetings_82 : decode cX12_meetings 82 = .ok (.iload 7, 2) := by decide +kernel
theorem dX12_meetings_84 : decode cX12_meetings 84 = .ok (.if_icmp .eq 49, 3) := by decide +kernel
theorem dX12_meetings_87 : decode cX12_meetings 87 = .ok (.aload_n 0, 1) := by decide +kernel
theorem dX12_meetings_88 : decode cX12_meetings 88 = .ok (.iload 6, 2) := by decide +kernel
theorem dX12_meetings_90 : decode cX12_meetings 90 = .ok (.aload_n 0, 1) := by decide +kernel
theorem dX12_meetings_91 : decode cX12_meetings 91 = .ok (.getfield 9, 3) := by decide +kernel
theorem dX12_meetings_94 : decode cX12_meetings 94 = .ok (.bipush 10, 2) := by decide +kernel
theorem dX12_meetings_96 : decode cX12_meetings 96 = .ok (.iconst 2, 1) := by decide +kernel
theorem dX12_meetings_97 : decode cX12_meetings 97 = .ok (.iload 7, 2) := by decide +kernel
theorem dX12_meetings_99 : decode cX12_meetings 99 = .ok (.imul, 1) := by decide +kernel
theorem dX12_meetings_100 : decode cX12_meetings 100 = .ok (.iadd, 1) := by decide +kernel
theorem dX12_meetings_101 : decode cX12_meetings 101 = .ok (.iaload, 1) := by decide +kernel
theorem dX12_meetings_102 : decode cX12_meetings 102 = .ok (.invokevirtual 359, 3) := by decide +kernel
theorem dX12_meetings_105 : decode cX12_meetings 105 = .ok (.ifCond .ne 6, 3) := by decide +kernel
theorem dX12_meetings_108 : decode cX12_meetings 108 = .ok (.goto 25, 3) := by decide +kernel
theorem dX12_meetings_111 : decode cX12_meetings 111 = .ok (.iload_n 1, 1) := by decide +kernel
theorem dX12_meetings_112 : decode cX12_meetings 112 = .ok (.ifCond .eq 18, 3) := by decide +kernel
theorem dX12_meetings_115 : decode cX12_meetings 115 = .ok (.sipush 1000, 3) := by decide +kernel
theorem dX12_meetings_118 : decode cX12_meetings 118 = .ok (.iload_n 3, 1) := by decide +kernel
theorem dX12_meetings_119 : decode cX12_meetings 119 = .ok (.imul, 1) := by decide +kernel
theorem dX12_meetings_120 : decode cX12_meetings 120 = .ok (.bipush 10, 2) := by decide +kernel
theorem dX12_meetings_122 : decode cX12_meetings 122 = .ok (.iload 5, 2) := by decide +kernel
theorem dX12_meetings_124 : decode cX12_meetings 124 = .ok (.imul, 1) := by decide +kernel
theorem dX12_meetings_125 : decode cX12_meetings 125 = .ok (.iadd, 1) := by decide +kernel
theorem dX12_meetings_126 : decode cX12_meetings 126 = .ok (.iload 7, 2) := by decide +kernel
theorem dX12_meetings_128 : decode cX12_meetings 128 = .ok (.iadd, 1) := by decide +kernel
theorem dX12_meetings_129 : decode cX12_meetings 129 = .ok (.ireturn, 1) := by decide +kernel
theorem dX12_meetings_130 : decode cX12_meetings 130 = .ok (.iinc 2 1, 3) := by decide +kernel
theorem dX12_meetings_133 : decode cX12_meetings 133 = .ok (.iinc 7 1, 3) := by decide +kernel
theorem dX12_meetings_136 : decode cX12_meetings 136 = .ok (.goto (-81), 3) := by decide +kernel
theorem dX12_meetings_139 : decode cX12_meetings 139 = .ok (.iinc 5 1, 3) := by decide +kernel
theorem dX12_meetings_142 : decode cX12_meetings 142 = .ok (.goto (-111), 3) := by decide +kernel
theorem dX12_meetings_145 : decode cX12_meetings 145 = .ok (.iinc 3 1, 3) := by decide +kernel
theorem dX12_meetings_148 : decode cX12_meetings 148 = .ok (.goto (-144), 3) := by decide +kernel
theorem dX12_meetings_151 : decode cX12_meetings 151 = .ok (.iload_n 1, 1) := by decide +kernel
theorem dX12_meetings_152 : decode cX12_meetings 152 = .ok (.ifCond .eq 7, 3) := by decide +kernel
theorem dX12_meetings_155 : decode cX12_meetings 155 = .ok (.iconst (-1), 1) := by decide +kernel
theorem dX12_meetings_156 : decode cX12_meetings 156 = .ok (.goto 4, 3) := by decide +kernel
theorem dX12_meetings_159 : decode cX12_meetings 159 = .ok (.iload_n 2, 1) := by decide +kernel
theorem dX12_meetings_160 : decode cX12_meetings 160 = .ok (.ireturn, 1) := by decide +kernel
theorem dX12_count_0 : decode cX12_count 0 = .ok (.aload_n 0, 1) := by decide +kernel
theorem dX12_count_1 : decode cX12_count 1 = .ok (.iconst 0, 1) := by decide +kernel
theorem dX12_count_2 : decode cX12_count 2 = .ok (.putfield 68, 3) := by decide +kernel
theorem dX12_count_5 : decode cX12_count 5 = .ok (.aload_n 0, 1) := by decide +kernel
theorem dX12_count_6 : decode cX12_count 6 = .ok (.iload_n 1, 1) := by decide +kernel
theorem dX12_count_7 : decode cX12_count 7 = .ok (.iconst 0, 1) := by decide +kernel
theorem dX12_count_8 : decode cX12_count 8 = .ok (.bipush 16, 2) := by decide +kernel
theorem dX12_count_10 : decode cX12_count 10 = .ok (.invokestatic 283, 3) := by decide +kernel
theorem dX12_count_13 : decode cX12_count 13 = .ok (.iconst 1, 1) := by decide +kernel
theorem dX12_count_14 : decode cX12_count 14 = .ok (.invokevirtual 334, 3) := by decide +kernel
theorem dX12_count_17 : decode cX12_count 17 = .ok (.ifCond .ne 5, 3) := by decide +kernel
theorem dX12_count_20 : decode cX12_count 20 = .ok (.iconst 0, 1) := by decide +kernel
theorem dX12_count_21 : decode cX12_count 21 = .ok (.ireturn, 1) := by decide +kernel
theorem dX12_count_22 : decode cX12_count 22 = .ok (.iload_n 1, 1) := by decide +kernel
theorem dX12_count_23 : decode cX12_count 23 = .ok (.tableswitch 156 0 12 #[65, 70, 77, 85, 93, 101, 109, 117, 125, 130, 130, 146, 151], 65) := by decide +kernel
theorem dX12_count_88 : decode cX12_count 88 = .ok (.aload_n 0, 1) := by decide +kernel
theorem dX12_count_89 : decode cX12_count 89 = .ok (.getfield 347, 3) := by decide +kernel
theorem dX12_count_92 : decode cX12_count 92 = .ok (.ireturn, 1) := by decide +kernel
theorem dX12_count_93 : decode cX12_count 93 = .ok (.aload_n 0, 1) := by decide +kernel
theorem dX12_count_94 : decode cX12_count 94 = .ok (.getfield 9, 3) := by decide +kernel
theorem dX12_count_97 : decode cX12_count 97 = .ok (.iconst 0, 1) := by decide +kernel
theorem dX12_count_98 : decode cX12_count 98 = .ok (.iaload, 1) := by decide +kernel
theorem dX12_count_99 : decode cX12_count 99 = .ok (.ireturn, 1) := by decide +kernel
theorem dX12_count_100 : decode cX12_count 100 = .ok (.aload_n 0, 1) := by decide +kernel
theorem dX12_count_101 : decode cX12_count 101 = .ok (.getfield 9, 3) := by decide +kernel
theorem dX12_count_104 : decode cX12_count 104 = .ok (.bipush 9, 2) := by decide +kernel
theorem dX12_count_106 : decode cX12_count 106 = .ok (.iaload, 1) := by decide +kernel
theorem dX12_count_107 : decode cX12_count 107 = .ok (.ireturn, 1) := by decide +kernel
theorem dX12_count_108 : decode cX12_count 108 = .ok (.aload_n 0, 1) := by decide +kernel
theorem dX12_count_109 : decode cX12_count 109 = .ok (.getfield 9, 3) := by decide +kernel
theorem dX12_count_112 : decode cX12_count 112 = .ok (.bipush 26, 2) := by decide +kernel
theorem dX12_count_114 : decode cX12_count 114 = .ok (.iaload, 1) := by decide +kernel
theorem dX12_count_115 : decode cX12_count 115 = .ok (.ireturn, 1) := by decide +kernel
theorem dX12_count_116 : decode cX12_count 116 = .ok (.aload_n 0, 1) := by decide +kernel
theorem dX12_count_117 : decode cX12_count 117 = .ok (.getfield 9, 3) := by decide +kernel
theorem dX12_count_120 : decode cX12_count 120 = .ok (.bipush 39, 2) := by decide +kernel
theorem dX12_count_122 : decode cX12_count 122 = .ok (.iaload, 1) := by decide +kernel
theorem dX12_count_123 : decode cX12_count 123 = .ok (.ireturn, 1) := by decide +kernel
theorem dX12_count_124 : decode cX12_count 124 = .ok (.aload_n 0, 1) := by decide +kernel
theorem dX12_count_125 : decode cX12_count 125 = .ok (.getfield 9, 3) := by decide +kernel
theorem dX12_count_128 : decode cX12_count 128 = .ok (.bipush 40, 2) := by decide +kernel
theorem dX12_count_130 : decode cX12_count 130 = .ok (.iaload, 1) := by decide +kernel
theorem dX12_count_131 : decode cX12_count 131 = .ok (.ireturn, 1) := by decide +kernel
theorem dX12_count_132 : decode cX12_count 132 = .ok (.aload_n 0, 1) := by decide +kernel
theorem dX12_count_133 : decode cX12_count 133 = .ok (.getfield 9, 3) := by decide +kernel
theorem dX12_count_136 : decode cX12_count 136 = .ok (.bipush 61, 2) := by decide +kernel
theorem dX12_count_138 : decode cX12_count 138 = .ok (.iaload, 1) := by decide +kernel
theorem dX12_count_139 : decode cX12_count 139 = .ok (.ireturn, 1) := by decide +kernel
theorem dX12_count_140 : decode cX12_count 140 = .ok (.aload_n 0, 1) := by decide +kernel
theorem dX12_count_141 : decode cX12_count 141 = .ok (.getfield 9, 3) := by decide +kernel
theorem dX12_count_144 : decode cX12_count 144 = .ok (.bipush 62, 2) := by decide +kernel
theorem dX12_count_146 : decode cX12_count 146 = .ok (.iaload, 1) := by decide +kernel
theorem dX12_count_147 : decode cX12_count 147 = .ok (.ireturn, 1) := by decide +kernel
theorem dX12_count_148 : decode cX12_count 148 = .ok (.aload_n 0, 1) := by decide +kernel
theorem dX12_count_149 : decode cX12_count 149 = .ok (.invokevirtual 362, 3) := by decide +kernel
theorem dX12_count_152 : decode cX12_count 152 = .ok (.ireturn, 1) := by decide +kernel
theorem dX12_count_153 : decode cX12_count 153 = .ok (.aload_n 0, 1) := by decide +kernel
theorem dX12_count_154 : decode cX12_count 154 = .ok (.iload_n 1, 1) := by decide +kernel
theorem dX12_count_155 : decode cX12_count 155 = .ok (.bipush 10, 2) := by decide +kernel
theorem dX12_count_157 : decode cX12_count 157 = .ok (.if_icmp .ne 7, 3) := by decide +kernel
theorem dX12_count_160 : decode cX12_count 160 = .ok (.iconst 1, 1) := by decide +kernel
theorem dX12_count_161 : decode cX12_count 161 = .ok (.goto 4, 3) := by decide +kernel
theorem dX12_count_164 : decode cX12_count 164 = .ok (.iconst 0, 1) := by decide +kernel
theorem dX12_count_165 : decode cX12_count 165 = .ok (.invokevirtual 365, 3) := by decide +kernel
theorem dX12_count_168 : decode cX12_count 168 = .ok (.ireturn, 1) := by decide +kernel
theorem dX12_count_169 : decode cX12_count 169 = .ok (.aload_n 0, 1) := by decide +kernel
theorem dX12_count_170 : decode cX12_count 170 = .ok (.getfield 356, 3) := by decide +kernel
theorem dX12_count_173 : decode cX12_count 173 = .ok (.ireturn, 1) := by decide +kernel
theorem dX12_count_174 : decode cX12_count 174 = .ok (.aload_n 0, 1) := by decide +kernel
theorem dX12_count_175 : decode cX12_count 175 = .ok (.getfield 328, 3) := by decide +kernel
theorem dX12_count_178 : decode cX12_count 178 = .ok (.ireturn, 1) := by decide +kernel
theorem dX12_count_179 : decode cX12_count 179 = .ok (.aload_n 0, 1) := by decide +kernel
theorem dX12_count_180 : decode cX12_count 180 = .ok (.getfield 31, 3) := by decide +kernel
theorem dX12_count_183 : decode cX12_count 183 = .ok (.iload_n 1, 1) := by decide +kernel
theorem dX12_count_184 : decode cX12_count 184 = .ok (.bipush 13, 2) := by decide +kernel
theorem dX12_count_186 : decode cX12_count 186 = .ok (.isub, 1) := by decide +kernel
theorem dX12_count_187 : decode cX12_count 187 = .ok (.iaload, 1) := by decide +kernel
