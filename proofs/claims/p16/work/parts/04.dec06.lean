theorem dX11_init_0 : decode cX11_init 0 = .ok (.aload_n 0, 1) := by decide +kernel
theorem dX11_init_1 : decode cX11_init 1 = .ok (.invokespecial 1, 3) := by decide +kernel
theorem dX11_init_4 : decode cX11_init 4 = .ok (.aload_n 0, 1) := by decide +kernel
theorem dX11_init_5 : decode cX11_init 5 = .ok (.new 7, 3) := by decide +kernel
theorem dX11_init_8 : decode cX11_init 8 = .ok (.dup, 1) := by decide +kernel
theorem dX11_init_9 : decode cX11_init 9 = .ok (.invokespecial 9, 3) := by decide +kernel
theorem dX11_init_12 : decode cX11_init 12 = .ok (.putfield 10, 3) := by decide +kernel
theorem dX11_init_15 : decode cX11_init 15 = .ok (.aload_n 0, 1) := by decide +kernel
theorem dX11_init_16 : decode cX11_init 16 = .ok (.new 16, 3) := by decide +kernel
theorem dX11_init_19 : decode cX11_init 19 = .ok (.dup, 1) := by decide +kernel
theorem dX11_init_20 : decode cX11_init 20 = .ok (.new 18, 3) := by decide +kernel
theorem dX11_init_23 : decode cX11_init 23 = .ok (.dup, 1) := by decide +kernel
theorem dX11_init_24 : decode cX11_init 24 = .ok (.aload_n 0, 1) := by decide +kernel
theorem dX11_init_25 : decode cX11_init 25 = .ok (.getfield 10, 3) := by decide +kernel
theorem dX11_init_28 : decode cX11_init 28 = .ok (.invokespecial 20, 3) := by decide +kernel
theorem dX11_init_31 : decode cX11_init 31 = .ok (.new 23, 3) := by decide +kernel
theorem dX11_init_34 : decode cX11_init 34 = .ok (.dup, 1) := by decide +kernel
theorem dX11_init_35 : decode cX11_init 35 = .ok (.invokespecial 25, 3) := by decide +kernel
theorem dX11_init_38 : decode cX11_init 38 = .ok (.invokespecial 26, 3) := by decide +kernel
theorem dX11_init_41 : decode cX11_init 41 = .ok (.putfield 29, 3) := by decide +kernel
theorem dX11_init_44 : decode cX11_init 44 = .ok (.aload_n 0, 1) := by decide +kernel
theorem dX11_init_45 : decode cX11_init 45 = .ok (.new 16, 3) := by decide +kernel
theorem dX11_init_48 : decode cX11_init 48 = .ok (.dup, 1) := by decide +kernel
theorem dX11_init_49 : decode cX11_init 49 = .ok (.new 18, 3) := by decide +kernel
theorem dX11_init_52 : decode cX11_init 52 = .ok (.dup, 1) := by decide +kernel
theorem dX11_init_53 : decode cX11_init 53 = .ok (.aload_n 0, 1) := by decide +kernel
theorem dX11_init_54 : decode cX11_init 54 = .ok (.getfield 10, 3) := by decide +kernel
theorem dX11_init_57 : decode cX11_init 57 = .ok (.invokespecial 20, 3) := by decide +kernel
theorem dX11_init_60 : decode cX11_init 60 = .ok (.new 23, 3) := by decide +kernel
theorem dX11_init_63 : decode cX11_init 63 = .ok (.dup, 1) := by decide +kernel
theorem dX11_init_64 : decode cX11_init 64 = .ok (.invokespecial 25, 3) := by decide +kernel
theorem dX11_init_67 : decode cX11_init 67 = .ok (.invokespecial 26, 3) := by decide +kernel
theorem dX11_init_70 : decode cX11_init 70 = .ok (.putfield 33, 3) := by decide +kernel
theorem dX11_init_73 : decode cX11_init 73 = .ok (.aload_n 0, 1) := by decide +kernel
theorem dX11_init_74 : decode cX11_init 74 = .ok (.new 7, 3) := by decide +kernel
theorem dX11_init_77 : decode cX11_init 77 = .ok (.dup, 1) := by decide +kernel
theorem dX11_init_78 : decode cX11_init 78 = .ok (.invokespecial 9, 3) := by decide +kernel
theorem dX11_init_81 : decode cX11_init 81 = .ok (.putfield 36, 3) := by decide +kernel
theorem dX11_init_84 : decode cX11_init 84 = .ok (.aload_n 0, 1) := by decide +kernel
theorem dX11_init_85 : decode cX11_init 85 = .ok (.new 18, 3) := by decide +kernel
theorem dX11_init_88 : decode cX11_init 88 = .ok (.dup, 1) := by decide +kernel
theorem dX11_init_89 : decode cX11_init 89 = .ok (.aload_n 0, 1) := by decide +kernel
theorem dX11_init_90 : decode cX11_init 90 = .ok (.getfield 10, 3) := by decide +kernel
theorem dX11_init_93 : decode cX11_init 93 = .ok (.invokespecial 20, 3) := by decide +kernel
theorem dX11_init_96 : decode cX11_init 96 = .ok (.putfield 39, 3) := by decide +kernel
theorem dX11_init_99 : decode cX11_init 99 = .ok (.aload_n 0, 1) := by decide +kernel
theorem dX11_init_100 : decode cX11_init 100 = .ok (.new 23, 3) := by decide +kernel
theorem dX11_init_103 : decode cX11_init 103 = .ok (.dup, 1) := by decide +kernel
theorem dX11_init_104 : decode cX11_init 104 = .ok (.invokespecial 25, 3) := by decide +kernel
theorem dX11_init_107 : decode cX11_init 107 = .ok (.putfield 43, 3) := by decide +kernel
theorem dX11_init_110 : decode cX11_init 110 = .ok (.aload_n 0, 1) := by decide +kernel
theorem dX11_init_111 : decode cX11_init 111 = .ok (.new 47, 3) := by decide +kernel
theorem dX11_init_114 : decode cX11_init 114 = .ok (.dup, 1) := by decide +kernel
theorem dX11_init_115 : decode cX11_init 115 = .ok (.aload_n 0, 1) := by decide +kernel
theorem dX11_init_116 : decode cX11_init 116 = .ok (.getfield 29, 3) := by decide +kernel
theorem dX11_init_119 : decode cX11_init 119 = .ok (.getfield 49, 3) := by decide +kernel
theorem dX11_init_122 : decode cX11_init 122 = .ok (.invokespecial 52, 3) := by decide +kernel
theorem dX11_init_125 : decode cX11_init 125 = .ok (.putfield 55, 3) := by decide +kernel
theorem dX11_init_128 : decode cX11_init 128 = .ok (.aload_n 0, 1) := by decide +kernel
theorem dX11_init_129 : decode cX11_init 129 = .ok (.new 59, 3) := by decide +kernel
theorem dX11_init_132 : decode cX11_init 132 = .ok (.dup, 1) := by decide +kernel
theorem dX11_init_133 : decode cX11_init 133 = .ok (.aload_n 0, 1) := by decide +kernel
theorem dX11_init_134 : decode cX11_init 134 = .ok (.getfield 29, 3) := by decide +kernel
theorem dX11_init_137 : decode cX11_init 137 = .ok (.getfield 49, 3) := by decide +kernel
theorem dX11_init_140 : decode cX11_init 140 = .ok (.invokespecial 61, 3) := by decide +kernel
theorem dX11_init_143 : decode cX11_init 143 = .ok (.putfield 62, 3) := by decide +kernel
theorem dX11_init_146 : decode cX11_init 146 = .ok (.aload_n 0, 1) := by decide +kernel
theorem dX11_init_147 : decode cX11_init 147 = .ok (.new 66, 3) := by decide +kernel
theorem dX11_init_150 : decode cX11_init 150 = .ok (.dup, 1) := by decide +kernel
theorem dX11_init_151 : decode cX11_init 151 = .ok (.aload_n 0, 1) := by decide +kernel
theorem dX11_init_152 : decode cX11_init 152 = .ok (.getfield 29, 3) := by decide +kernel
theorem dX11_init_155 : decode cX11_init 155 = .ok (.getfield 49, 3) := by decide +kernel
theorem dX11_init_158 : decode cX11_init 158 = .ok (.invokespecial 68, 3) := by decide +kernel
theorem dX11_init_161 : decode cX11_init 161 = .ok (.putfield 69, 3) := by decide +kernel
theorem dX11_init_164 : decode cX11_init 164 = .ok (.aload_n 0, 1) := by decide +kernel
theorem dX11_init_165 : decode cX11_init 165 = .ok (.new 73, 3) := by decide +kernel
theorem dX11_init_168 : decode cX11_init 168 = .ok (.dup, 1) := by decide +kernel
theorem dX11_init_169 : decode cX11_init 169 = .ok (.aload_n 0, 1) := by decide +kernel
theorem dX11_init_170 : decode cX11_init 170 = .ok (.getfield 29, 3) := by decide +kernel
theorem dX11_init_173 : decode cX11_init 173 = .ok (.aload_n 0, 1) := by decide +kernel
theorem dX11_init_174 : decode cX11_init 174 = .ok (.getfield 55, 3) := by decide +kernel
theorem dX11_init_177 : decode cX11_init 177 = .ok (.aload_n 0, 1) := by decide +kernel
theorem dX11_init_178 : decode cX11_init 178 = .ok (.getfield 69, 3) := by decide +kernel
theorem dX11_init_181 : decode cX11_init 181 = .ok (.new 75, 3) := by decide +kernel
theorem dX11_init_184 : decode cX11_init 184 = .ok (.dup, 1) := by decide +kernel
theorem dX11_init_185 : decode cX11_init 185 = .ok (.aload_n 0, 1) := by decide +kernel
theorem dX11_init_186 : decode cX11_init 186 = .ok (.getfield 29, 3) := by decide +kernel
theorem dX11_init_189 : decode cX11_init 189 = .ok (.getfield 49, 3) := by decide +kernel
theorem dX11_init_192 : decode cX11_init 192 = .ok (.invokespecial 77, 3) := by decide +kernel
theorem dX11_init_195 : decode cX11_init 195 = .ok (.invokespecial 78, 3) := by decide +kernel
theorem dX11_init_198 : decode cX11_init 198 = .ok (.putfield 81, 3) := by decide +kernel
theorem dX11_init_201 : decode cX11_init 201 = .ok (.aload_n 0, 1) := by decide +kernel
theorem dX11_init_202 : decode cX11_init 202 = .ok (.new 85, 3) := by decide +kernel
theorem dX11_init_205 : decode cX11_init 205 = .ok (.dup, 1) := by decide +kernel
theorem dX11_init_206 : decode cX11_init 206 = .ok (.aload_n 0, 1) := by decide +kernel
theorem dX11_init_207 : decode cX11_init 207 = .ok (.getfield 29, 3) := by decide +kernel
theorem dX11_init_210 : decode cX11_init 210 = .ok (.aload_n 0, 1) := by decide +kernel
theorem dX11_init_211 : decode cX11_init 211 = .ok (.getfield 55, 3) := by decide +kernel
theorem dX11_init_214 : decode cX11_init 214 = .ok (.aload_n 0, 1) := by decide +kernel
theorem dX11_init_215 : decode cX11_init 215 = .ok (.getfield 62, 3) := by decide +kernel
theorem dX11_init_218 : decode cX11_init 218 = .ok (.invokespecial 87, 3) := by decide +kernel
theorem dX11_init_221 : decode cX11_init 221 = .ok (.putfield 90, 3) := by decide +kernel
theorem dX11_init_224 : decode cX11_init 224 = .ok (.aload_n 0, 1) := by decide +kernel
theorem dX11_init_225 : decode cX11_init 225 = .ok (.sipush 700, 3) := by decide +kernel
theorem dX11_init_228 : decode cX11_init 228 = .ok (.newarray .int, 2) := by decide +kernel
theorem dX11_init_230 : decode cX11_init 230 = .ok (.putfield 94, 3) := by decide +kernel
theorem dX11_init_233 : decode cX11_init 233 = .ok (.aload_n 0, 1) := by decide +kernel
theorem dX11_init_234 : decode cX11_init 234 = .ok (.new 98, 3) := by decide +kernel
theorem dX11_init_237 : decode cX11_init 237 = .ok (.dup, 1) := by decide +kernel
theorem dX11_init_238 : decode cX11_init 238 = .ok (.aload_n 0, 1) := by decide +kernel
theorem dX11_init_239 : decode cX11_init 239 = .ok (.getfield 94, 3) := by decide +kernel
theorem dX11_init_242 : decode cX11_init 242 = .ok (.aload_n 0, 1) := by decide +kernel
theorem dX11_init_243 : decode cX11_init 243 = .ok (.getfield 29, 3) := by decide +kernel
theorem dX11_init_246 : decode cX11_init 246 = .ok (.aload_n 0, 1) := by decide +kernel
theorem dX11_init_247 : decode cX11_init 247 = .ok (.getfield 81, 3) := by decide +kernel
theorem dX11_init_250 : decode cX11_init 250 = .ok (.invokespecial 100, 3) := by decide +kernel
theorem dX11_init_253 : decode cX11_init 253 = .ok (.putfield 103, 3) := by decide +kernel
theorem dX11_init_256 : decode cX11_init 256 = .ok (.aload_n 0, 1) := by decide +kernel
theorem dX11_init_257 : decode cX11_init 257 = .ok (.iconst 0, 1) := by decide +kernel
theorem dX11_init_258 : decode cX11_init 258 = .ok (.putfield 107, 3) := by decide +kernel
theorem dX11_init_261 : decode cX11_init 261 = .ok (.aload_n 0, 1) := by decide +kernel
theorem dX11_init_262 : decode cX11_init 262 = .ok (.iconst (-1), 1) := by decide +kernel
theorem dX11_init_263 : decode cX11_init 263 = .ok (.putfield 111, 3) := by decide +kernel
theorem dX11_init_266 : decode cX11_init 266 = .ok (.aload_n 0, 1) := by decide +kernel
theorem dX11_init_267 : decode cX11_init 267 = .ok (.iconst 0, 1) := by decide +kernel
theorem dX11_init_268 : decode cX11_init 268 = .ok (.putfield 114, 3) := by decide +kernel
theorem dX11_init_271 : decode cX11_init 271 = .ok (.return_, 1) := by decide +kernel
theorem dX11_feed_0 : decode cX11_feed 0 = .ok (.aload_n 0, 1) := by decide +kernel
theorem dX11_feed_1 : decode cX11_feed 1 = .ok (.getfield 107, 3) := by decide +kernel
theorem dX11_feed_4 : decode cX11_feed 4 = .ok (.bipush 20, 2) := by decide +kernel
theorem dX11_feed_6 : decode cX11_feed 6 = .ok (.iadd, 1) := by decide +kernel
theorem dX11_feed_7 : decode cX11_feed 7 = .ok (.sipush 700, 3) := by decide +kernel
theorem dX11_feed_10 : decode cX11_feed 10 = .ok (.if_icmp .le 5, 3) := by decide +kernel
theorem dX11_feed_13 : decode cX11_feed 13 = .ok (.iconst (-1), 1) := by decide +kernel
theorem dX11_feed_14 : decode cX11_feed 14 = .ok (.ireturn, 1) := by decide +kernel
theorem dX11_feed_15 : decode cX11_feed 15 = .ok (.aload_n 0, 1) := by decide +kernel
theorem dX11_feed_16 : decode cX11_feed 16 = .ok (.iload_n 1, 1) := by decide +kernel
theorem dX11_feed_17 : decode cX11_feed 17 = .ok (.invokevirtual 118, 3) := by decide +kernel
theorem dX11_feed_20 : decode cX11_feed 20 = .ok (.aload_n 0, 1) := by decide +kernel
theorem dX11_feed_21 : decode cX11_feed 21 = .ok (.iload_n 2, 1) := by decide +kernel
theorem dX11_feed_22 : decode cX11_feed 22 = .ok (.invokevirtual 118, 3) := by decide +kernel
theorem dX11_feed_25 : decode cX11_feed 25 = .ok (.aload_n 0, 1) := by decide +kernel
theorem dX11_feed_26 : decode cX11_feed 26 = .ok (.iload_n 3, 1) := by decide +kernel
theorem dX11_feed_27 : decode cX11_feed 27 = .ok (.invokevirtual 118, 3) := by decide +kernel
theorem dX11_feed_30 : decode cX11_feed 30 = .ok (.aload_n 0, 1) := by decide +kernel
theorem dX11_feed_31 : decode cX11_feed 31 = .ok (.iload 4, 2) := by decide +kernel
theorem dX11_feed_33 : decode cX11_feed 33 = .ok (.invokevirtual 118, 3) := by decide +kernel
theorem dX11_feed_36 : decode cX11_feed 36 = .ok (.aload_n 0, 1) := by decide +kernel
theorem dX11_feed_37 : decode cX11_feed 37 = .ok (.iload 5, 2) := by decide +kernel
theorem dX11_feed_39 : decode cX11_feed 39 = .ok (.invokevirtual 118, 3) := by decide +kernel
theorem dX11_feed_42 : decode cX11_feed 42 = .ok (.aload_n 0, 1) := by decide +kernel
theorem dX11_feed_43 : decode cX11_feed 43 = .ok (.getfield 107, 3) := by decide +kernel
theorem dX11_feed_46 : decode cX11_feed 46 = .ok (.ireturn, 1) := by decide +kernel
theorem dX11_tapeNumber_0 : decode cX11_tapeNumber 0 = .ok (.bipush 24, 2) := by decide +kernel
theorem dX11_tapeNumber_2 : decode cX11_tapeNumber 2 = .ok (.istore_n 2, 1) := by decide +kernel
theorem dX11_tapeNumber_3 : decode cX11_tapeNumber 3 = .ok (.iload_n 2, 1) := by decide +kernel
theorem dX11_tapeNumber_4 : decode cX11_tapeNumber 4 = .ok (.ifCond .lt 45, 3) := by decide +kernel
theorem dX11_tapeNumber_7 : decode cX11_tapeNumber 7 = .ok (.aload_n 0, 1) := by decide +kernel
theorem dX11_tapeNumber_8 : decode cX11_tapeNumber 8 = .ok (.getfield 107, 3) := by decide +kernel
theorem dX11_tapeNumber_11 : decode cX11_tapeNumber 11 = .ok (.sipush 700, 3) := by decide +kernel
theorem dX11_tapeNumber_14 : decode cX11_tapeNumber 14 = .ok (.if_icmp .ge 35, 3) := by decide +kernel
theorem dX11_tapeNumber_17 : decode cX11_tapeNumber 17 = .ok (.aload_n 0, 1) := by decide +kernel
theorem dX11_tapeNumber_18 : decode cX11_tapeNumber 18 = .ok (.getfield 94, 3) := by decide +kernel
theorem dX11_tapeNumber_21 : decode cX11_tapeNumber 21 = .ok (.aload_n 0, 1) := by decide +kernel
theorem dX11_tapeNumber_22 : decode cX11_tapeNumber 22 = .ok (.getfield 107, 3) := by decide +kernel
theorem dX11_tapeNumber_25 : decode cX11_tapeNumber 25 = .ok (.iload_n 1, 1) := by decide +kernel
theorem dX11_tapeNumber_26 : decode cX11_tapeNumber 26 = .ok (.iload_n 2, 1) := by decide +kernel
theorem dX11_tapeNumber_27 : decode cX11_tapeNumber 27 = .ok (.iushr, 1) := by decide +kernel
theorem dX11_tapeNumber_28 : decode cX11_tapeNumber 28 = .ok (.sipush 255, 3) := by decide +kernel
theorem dX11_tapeNumber_31 : decode cX11_tapeNumber 31 = .ok (.iand, 1) := by decide +kernel
theorem dX11_tapeNumber_32 : decode cX11_tapeNumber 32 = .ok (.iastore, 1) := by decide +kernel
theorem dX11_tapeNumber_33 : decode cX11_tapeNumber 33 = .ok (.aload_n 0, 1) := by decide +kernel
theorem dX11_tapeNumber_34 : decode cX11_tapeNumber 34 = .ok (.dup, 1) := by decide +kernel
theorem dX11_tapeNumber_35 : decode cX11_tapeNumber 35 = .ok (.getfield 107, 3) := by decide +kernel
theorem dX11_tapeNumber_38 : decode cX11_tapeNumber 38 = .ok (.iconst 1, 1) := by decide +kernel
theorem dX11_tapeNumber_39 : decode cX11_tapeNumber 39 = .ok (.iadd, 1) := by decide +kernel
theorem dX11_tapeNumber_40 : decode cX11_tapeNumber 40 = .ok (.putfield 107, 3) := by decide +kernel
theorem dX11_tapeNumber_43 : decode cX11_tapeNumber 43 = .ok (.iinc 2 (-8), 3) := by decide +kernel
theorem dX11_tapeNumber_46 : decode cX11_tapeNumber 46 = .ok (.goto (-43), 3) := by decide +kernel
theorem dX11_tapeNumber_49 : decode cX11_tapeNumber 49 = .ok (.return_, 1) := by decide +kernel
theorem dX11_bank_0 : decode cX11_bank 0 = .ok (.iload_n 1, 1) := by decide +kernel
theorem dX11_bank_1 : decode cX11_bank 1 = .ok (.ifCond .lt 11, 3) := by decide +kernel
theorem dX11_bank_4 : decode cX11_bank 4 = .ok (.iload_n 1, 1) := by decide +kernel
theorem dX11_bank_5 : decode cX11_bank 5 = .ok (.aload_n 0, 1) := by decide +kernel
theorem dX11_bank_6 : decode cX11_bank 6 = .ok (.getfield 107, 3) := by decide +kernel
theorem dX11_bank_9 : decode cX11_bank 9 = .ok (.if_icmp .le 13, 3) := by decide +kernel
theorem dX11_bank_12 : decode cX11_bank 12 = .ok (.new 122, 3) := by decide +kernel
theorem dX11_bank_15 : decode cX11_bank 15 = .ok (.dup, 1) := by decide +kernel
theorem dX11_bank_16 : decode cX11_bank 16 = .ok (.ldc 124, 2) := by decide +kernel
theorem dX11_bank_18 : decode cX11_bank 18 = .ok (.invokespecial 126, 3) := by decide +kernel
theorem dX11_bank_21 : decode cX11_bank 21 = .ok (.athrow, 1) := by decide +kernel
theorem dX11_bank_22 : decode cX11_bank 22 = .ok (.aload_n 0, 1) := by decide +kernel
theorem dX11_bank_23 : decode cX11_bank 23 = .ok (.iconst 0, 1) := by decide +kernel
theorem dX11_bank_24 : decode cX11_bank 24 = .ok (.putfield 107, 3) := by decide +kernel
theorem dX11_bank_27 : decode cX11_bank 27 = .ok (.aload_n 0, 1) := by decide +kernel
theorem dX11_bank_28 : decode cX11_bank 28 = .ok (.invokevirtual 129, 3) := by decide +kernel
theorem dX11_bank_31 : decode cX11_bank 31 = .ok (.aload_n 0, 1) := by decide +kernel
theorem dX11_bank_32 : decode cX11_bank 32 = .ok (.invokevirtual 132, 3) := by decide +kernel
theorem dX11_bank_35 : decode cX11_bank 35 = .ok (.aload_n 0, 1) := by decide +kernel
theorem dX11_bank_36 : decode cX11_bank 36 = .ok (.getfield 103, 3) := by decide +kernel
theorem dX11_bank_39 : decode cX11_bank 39 = .ok (.iload_n 1, 1) := by decide +kernel
theorem dX11_bank_40 : decode cX11_bank 40 = .ok (.invokevirtual 135, 3) := by decide +kernel
theorem dX11_bank_43 : decode cX11_bank 43 = .ok (.istore_n 2, 1) := by decide +kernel
theorem dX11_bank_44 : decode cX11_bank 44 = .ok (.iload_n 2, 1) := by decide +kernel
theorem dX11_bank_45 : decode cX11_bank 45 = .ok (.ifCond .eq 33, 3) := by decide +kernel
theorem dX11_bank_48 : decode cX11_bank 48 = .ok (.aload_n 0, 1) := by decide +kernel
theorem dX11_bank_49 : decode cX11_bank 49 = .ok (.invokevirtual 139, 3) := by decide +kernel
theorem dX11_bank_52 : decode cX11_bank 52 = .ok (.aload_n 0, 1) := by decide +kernel
theorem dX11_bank_53 : decode cX11_bank 53 = .ok (.getfield 29, 3) := by decide +kernel
theorem dX11_bank_56 : decode cX11_bank 56 = .ok (.getfield 142, 3) := by decide +kernel
theorem dX11_bank_59 : decode cX11_bank 59 = .ok (.iconst 0, 1) := by decide +kernel
theorem dX11_bank_60 : decode cX11_bank 60 = .ok (.dup2, 1) := by decide +kernel
theorem dX11_bank_61 : decode cX11_bank 61 = .ok (.iaload, 1) := by decide +kernel
theorem dX11_bank_62 : decode cX11_bank 62 = .ok (.iconst 1, 1) := by decide +kernel
theorem dX11_bank_63 : decode cX11_bank 63 = .ok (.iadd, 1) := by decide +kernel
theorem dX11_bank_64 : decode cX11_bank 64 = .ok (.iastore, 1) := by decide +kernel
theorem dX11_bank_65 : decode cX11_bank 65 = .ok (.aload_n 0, 1) := by decide +kernel
theorem dX11_bank_66 : decode cX11_bank 66 = .ok (.aload_n 0, 1) := by decide +kernel
theorem dX11_bank_67 : decode cX11_bank 67 = .ok (.getfield 103, 3) := by decide +kernel
theorem dX11_bank_70 : decode cX11_bank 70 = .ok (.invokevirtual 145, 3) := by decide +kernel
theorem dX11_bank_73 : decode cX11_bank 73 = .ok (.putfield 111, 3) := by decide +kernel
theorem dX11_bank_76 : decode cX11_bank 76 = .ok (.iload_n 2, 1) := by decide +kernel
theorem dX11_bank_77 : decode cX11_bank 77 = .ok (.ireturn, 1) := by decide +kernel
theorem dX11_bank_78 : decode cX11_bank 78 = .ok (.aload_n 0, 1) := by decide +kernel
theorem dX11_bank_79 : decode cX11_bank 79 = .ok (.getfield 29, 3) := by decide +kernel
theorem dX11_bank_82 : decode cX11_bank 82 = .ok (.invokevirtual 148, 3) := by decide +kernel
theorem dX11_bank_85 : decode cX11_bank 85 = .ok (.aload_n 0, 1) := by decide +kernel
theorem dX11_bank_86 : decode cX11_bank 86 = .ok (.iconst 0, 1) := by decide +kernel
theorem dX11_bank_87 : decode cX11_bank 87 = .ok (.putfield 114, 3) := by decide +kernel
theorem dX11_bank_90 : decode cX11_bank 90 = .ok (.aload_n 0, 1) := by decide +kernel
theorem dX11_bank_91 : decode cX11_bank 91 = .ok (.iconst (-1), 1) := by decide +kernel
theorem dX11_bank_92 : decode cX11_bank 92 = .ok (.putfield 111, 3) := by decide +kernel
theorem dX11_bank_95 : decode cX11_bank 95 = .ok (.iconst 0, 1) := by decide +kernel
theorem dX11_bank_96 : decode cX11_bank 96 = .ok (.ireturn, 1) := by decide +kernel
theorem dX11_setAside_0 : decode cX11_setAside 0 = .ok (.aload_n 0, 1) := by decide +kernel
theorem dX11_setAside_1 : decode cX11_setAside 1 = .ok (.getfield 36, 3) := by decide +kernel
theorem dX11_setAside_4 : decode cX11_setAside 4 = .ok (.aload_n 0, 1) := by decide +kernel
theorem dX11_setAside_5 : decode cX11_setAside 5 = .ok (.getfield 10, 3) := by decide +kernel
theorem dX11_setAside_8 : decode cX11_setAside 8 = .ok (.invokevirtual 151, 3) := by decide +kernel
theorem dX11_setAside_11 : decode cX11_setAside 11 = .ok (.aload_n 0, 1) := by decide +kernel
theorem dX11_setAside_12 : decode cX11_setAside 12 = .ok (.getfield 39, 3) := by decide +kernel
theorem dX11_setAside_15 : decode cX11_setAside 15 = .ok (.aload_n 0, 1) := by decide +kernel
theorem dX11_setAside_16 : decode cX11_setAside 16 = .ok (.getfield 29, 3) := by decide +kernel
theorem dX11_setAside_19 : decode cX11_setAside 19 = .ok (.getfield 49, 3) := by decide +kernel
theorem dX11_setAside_22 : decode cX11_setAside 22 = .ok (.invokevirtual 154, 3) := by decide +kernel
theorem dX11_setAside_25 : decode cX11_setAside 25 = .ok (.aload_n 0, 1) := by decide +kernel
theorem dX11_setAside_26 : decode cX11_setAside 26 = .ok (.getfield 43, 3) := by decide +kernel
theorem dX11_setAside_29 : decode cX11_setAside 29 = .ok (.aload_n 0, 1) := by decide +kernel
theorem dX11_setAside_30 : decode cX11_setAside 30 = .ok (.getfield 29, 3) := by decide +kernel
theorem dX11_setAside_33 : decode cX11_setAside 33 = .ok (.getfield 156, 3) := by decide +kernel
theorem dX11_setAside_36 : decode cX11_setAside 36 = .ok (.invokevirtual 159, 3) := by decide +kernel
theorem dX11_setAside_39 : decode cX11_setAside 39 = .ok (.return_, 1) := by decide +kernel
theorem dX11_startAnew_0 : decode cX11_startAnew 0 = .ok (.aload_n 0, 1) := by decide +kernel
theorem dX11_startAnew_1 : decode cX11_startAnew 1 = .ok (.getfield 10, 3) := by decide +kernel
theorem dX11_startAnew_4 : decode cX11_startAnew 4 = .ok (.invokevirtual 162, 3) := by decide +kernel
theorem dX11_startAnew_7 : decode cX11_startAnew 7 = .ok (.aload_n 0, 1) := by decide +kernel
theorem dX11_startAnew_8 : decode cX11_startAnew 8 = .ok (.getfield 29, 3) := by decide +kernel
theorem dX11_startAnew_11 : decode cX11_startAnew 11 = .ok (.getfield 49, 3) := by decide +kernel
theorem dX11_startAnew_14 : decode cX11_startAnew 14 = .ok (.invokevirtual 165, 3) := by decide +kernel
theorem dX11_startAnew_17 : decode cX11_startAnew 17 = .ok (.aload_n 0, 1) := by decide +kernel
theorem dX11_startAnew_18 : decode cX11_startAnew 18 = .ok (.getfield 29, 3) := by decide +kernel
theorem dX11_startAnew_21 : decode cX11_startAnew 21 = .ok (.getfield 156, 3) := by decide +kernel
theorem dX11_startAnew_24 : decode cX11_startAnew 24 = .ok (.invokevirtual 166, 3) := by decide +kernel
theorem dX11_startAnew_27 : decode cX11_startAnew 27 = .ok (.return_, 1) := by decide +kernel
theorem dX11_takeBack_0 : decode cX11_takeBack 0 = .ok (.aload_n 0, 1) := by decide +kernel
theorem dX11_takeBack_1 : decode cX11_takeBack 1 = .ok (.getfield 10, 3) := by decide +kernel
theorem dX11_takeBack_4 : decode cX11_takeBack 4 = .ok (.aload_n 0, 1) := by decide +kernel
theorem dX11_takeBack_5 : decode cX11_takeBack 5 = .ok (.getfield 36, 3) := by decide +kernel
theorem dX11_takeBack_8 : decode cX11_takeBack 8 = .ok (.invokevirtual 151, 3) := by decide +kernel
theorem dX11_takeBack_11 : decode cX11_takeBack 11 = .ok (.aload_n 0, 1) := by decide +kernel
theorem dX11_takeBack_12 : decode cX11_takeBack 12 = .ok (.getfield 29, 3) := by decide +kernel
theorem dX11_takeBack_15 : decode cX11_takeBack 15 = .ok (.getfield 49, 3) := by decide +kernel
theorem dX11_takeBack_18 : decode cX11_takeBack 18 = .ok (.aload_n 0, 1) := by decide +kernel
theorem dX11_takeBack_19 : decode cX11_takeBack 19 = .ok (.getfield 39, 3) := by decide +kernel
theorem dX11_takeBack_22 : decode cX11_takeBack 22 = .ok (.invokevirtual 154, 3) := by decide +kernel
theorem dX11_takeBack_25 : decode cX11_takeBack 25 = .ok (.aload_n 0, 1) := by decide +kernel
theorem dX11_takeBack_26 : decode cX11_takeBack 26 = .ok (.getfield 29, 3) := by decide +kernel
theorem dX11_takeBack_29 : decode cX11_takeBack 29 = .ok (.getfield 156, 3) := by decide +kernel
theorem dX11_takeBack_32 : decode cX11_takeBack 32 = .ok (.aload_n 0, 1) := by decide +kernel
theorem dX11_takeBack_33 : decode cX11_takeBack 33 = .ok (.getfield 43, 3) := by decide +kernel
theorem dX11_takeBack_36 : decode cX11_takeBack 36 = .ok (.invokevirtual 159, 3) := by decide +kernel
theorem dX11_takeBack_39 : decode cX11_takeBack 39 = .ok (.return_, 1) := by decide +kernel
theorem dX11_fault_0 : decode cX11_fault 0 = .ok (.aload_n 0, 1) := by decide +kernel
theorem dX11_fault_1 : decode cX11_fault 1 = .ok (.getfield 111, 3) := by decide +kernel
theorem dX11_fault_4 : decode cX11_fault 4 = .ok (.ireturn, 1) := by decide +kernel
theorem dX11_count_0 : decode cX11_count 0 = .ok (.aload_n 0, 1) := by decide +kernel
theorem dX11_count_1 : decode cX11_count 1 = .ok (.getfield 29, 3) := by decide +kernel
theorem dX11_count_4 : decode cX11_count 4 = .ok (.getfield 156, 3) := by decide +kernel
theorem dX11_count_7 : decode cX11_count 7 = .ok (.getfield 167, 3) := by decide +kernel
theorem dX11_count_10 : decode cX11_count 10 = .ok (.astore_n 2, 1) := by decide +kernel
theorem dX11_count_11 : decode cX11_count 11 = .ok (.iload_n 1, 1) := by decide +kernel
theorem dX11_count_12 : decode cX11_count 12 = .ok (.tableswitch 181 0 16 #[84, 92, 103, 107, 111, 115, 120, 124, 128, 139, 147, 155, 163, 168, 168, 168, 168], 84) := by decide +kernel
theorem dX11_count_96 : decode cX11_count 96 = .ok (.aload_n 0, 1) := by decide +kernel
theorem dX11_count_97 : decode cX11_count 97 = .ok (.getfield 10, 3) := by decide +kernel
theorem dX11_count_100 : decode cX11_count 100 = .ok (.getfield 170, 3) := by decide +kernel
theorem dX11_count_103 : decode cX11_count 103 = .ok (.ireturn, 1) := by decide +kernel
theorem dX11_count_104 : decode cX11_count 104 = .ok (.aload_n 0, 1) := by decide +kernel
theorem dX11_count_105 : decode cX11_count 105 = .ok (.getfield 29, 3) := by decide +kernel
theorem dX11_count_108 : decode cX11_count 108 = .ok (.getfield 49, 3) := by decide +kernel
theorem dX11_count_111 : decode cX11_count 111 = .ok (.getfield 173, 3) := by decide +kernel
theorem dX11_count_114 : decode cX11_count 114 = .ok (.ireturn, 1) := by decide +kernel
theorem dX11_count_115 : decode cX11_count 115 = .ok (.aload_n 2, 1) := by decide +kernel
theorem dX11_count_116 : decode cX11_count 116 = .ok (.iconst 4, 1) := by decide +kernel
theorem dX11_count_117 : decode cX11_count 117 = .ok (.iaload, 1) := by decide +kernel
theorem dX11_count_118 : decode cX11_count 118 = .ok (.ireturn, 1) := by decide +kernel
theorem dX11_count_119 : decode cX11_count 119 = .ok (.aload_n 2, 1) := by decide +kernel
theorem dX11_count_120 : decode cX11_count 120 = .ok (.iconst 5, 1) := by decide +kernel
theorem dX11_count_121 : decode cX11_count 121 = .ok (.iaload, 1) := by decide +kernel
theorem dX11_count_122 : decode cX11_count 122 = .ok (.ireturn, 1) := by decide +kernel
theorem dX11_count_123 : decode cX11_count 123 = .ok (.aload_n 2, 1) := by decide +kernel
theorem dX11_count_124 : decode cX11_count 124 = .ok (.iconst 1, 1) := by decide +kernel
theorem dX11_count_125 : decode cX11_count 125 = .ok (.iaload, 1) := by decide +kernel
theorem dX11_count_126 : decode cX11_count 126 = .ok (.ireturn, 1) := by decide +kernel
theorem dX11_count_127 : decode cX11_count 127 = .ok (.aload_n 2, 1) := by decide +kernel
theorem dX11_count_128 : decode cX11_count 128 = .ok (.bipush 6, 2) := by decide +kernel
theorem dX11_count_130 : decode cX11_count 130 = .ok (.iaload, 1) := by decide +kernel
theorem dX11_count_131 : decode cX11_count 131 = .ok (.ireturn, 1) := by decide +kernel
theorem dX11_count_132 : decode cX11_count 132 = .ok (.aload_n 2, 1) := by decide +kernel
theorem dX11_count_133 : decode cX11_count 133 = .ok (.iconst 2, 1) := by decide +kernel
theorem dX11_count_134 : decode cX11_count 134 = .ok (.iaload, 1) := by decide +kernel
theorem dX11_count_135 : decode cX11_count 135 = .ok (.ireturn, 1) := by decide +kernel
theorem dX11_count_136 : decode cX11_count 136 = .ok (.aload_n 2, 1) := by decide +kernel
theorem dX11_count_137 : decode cX11_count 137 = .ok (.iconst 3, 1) := by decide +kernel
theorem dX11_count_138 : decode cX11_count 138 = .ok (.iaload, 1) := by decide +kernel
theorem dX11_count_139 : decode cX11_count 139 = .ok (.ireturn, 1) := by decide +kernel
theorem dX11_count_140 : decode cX11_count 140 = .ok (.aload_n 0, 1) := by decide +kernel
theorem dX11_count_141 : decode cX11_count 141 = .ok (.getfield 29, 3) := by decide +kernel
theorem dX11_count_144 : decode cX11_count 144 = .ok (.getfield 49, 3) := by decide +kernel
theorem dX11_count_147 : decode cX11_count 147 = .ok (.invokevirtual 176, 3) := by decide +kernel
theorem dX11_count_150 : decode cX11_count 150 = .ok (.ireturn, 1) := by decide +kernel
theorem dX11_count_151 : decode cX11_count 151 = .ok (.aload_n 0, 1) := by decide +kernel
theorem dX11_count_152 : decode cX11_count 152 = .ok (.getfield 81, 3) := by decide +kernel
theorem dX11_count_155 : decode cX11_count 155 = .ok (.invokevirtual 179, 3) := by decide +kernel
theorem dX11_count_158 : decode cX11_count 158 = .ok (.ireturn, 1) := by decide +kernel
theorem dX11_count_159 : decode cX11_count 159 = .ok (.aload_n 0, 1) := by decide +kernel
theorem dX11_count_160 : decode cX11_count 160 = .ok (.getfield 81, 3) := by decide +kernel
theorem dX11_count_163 : decode cX11_count 163 = .ok (.invokevirtual 182, 3) := by decide +kernel
theorem dX11_count_166 : decode cX11_count 166 = .ok (.ireturn, 1) := by decide +kernel
theorem dX11_count_167 : decode cX11_count 167 = .ok (.aload_n 0, 1) := by decide +kernel
theorem dX11_count_168 : decode cX11_count 168 = .ok (.getfield 29, 3) := by decide +kernel
theorem dX11_count_171 : decode cX11_count 171 = .ok (.getfield 185, 3) := by decide +kernel
theorem dX11_count_174 : decode cX11_count 174 = .ok (.ireturn, 1) := by decide +kernel
theorem dX11_count_175 : decode cX11_count 175 = .ok (.aload_n 0, 1) := by decide +kernel
theorem dX11_count_176 : decode cX11_count 176 = .ok (.getfield 107, 3) := by decide +kernel
theorem dX11_count_179 : decode cX11_count 179 = .ok (.ireturn, 1) := by decide +kernel
theorem dX11_count_180 : decode cX11_count 180 = .ok (.aload_n 0, 1) := by decide +kernel
theorem dX11_count_181 : decode cX11_count 181 = .ok (.getfield 29, 3) := by decide +kernel
theorem dX11_count_184 : decode cX11_count 184 = .ok (.getfield 142, 3) := by decide +kernel
theorem dX11_count_187 : decode cX11_count 187 = .ok (.iload_n 1, 1) := by decide +kernel
theorem dX11_count_188 : decode cX11_count 188 = .ok (.bipush 13, 2) := by decide +kernel
theorem dX11_count_190 : decode cX11_count 190 = .ok (.isub, 1) := by decide +kernel
theorem dX11_count_191 : decode cX11_count 191 = .ok (.iaload, 1) := by decide +kernel
theorem dX11_count_192 : decode cX11_count 192 = .ok (.ireturn, 1) := by decide +kernel
theorem dX11_count_193 : decode cX11_count 193 = .ok (.new 188, 3) := by decide +kernel
theorem dX11_count_196 : decode cX11_count 196 = .ok (.dup, 1) := by decide +kernel
theorem dX11_count_197 : decode cX11_count 197 = .ok (.ldc 190, 2) := by decide +kernel
theorem dX11_count_199 : decode cX11_count 199 = .ok (.invokespecial 192, 3) := by decide +kernel
theorem dX11_count_202 : decode cX11_count 202 = .ok (.athrow, 1) := by decide +kernel
theorem dX11_symbol_0 : decode cX11_symbol 0 = .ok (.aload_n 0, 1) := by decide +kernel
theorem dX11_symbol_1 : decode cX11_symbol 1 = .ok (.getfield 10, 3) := by decide +kernel
theorem dX11_symbol_4 : decode cX11_symbol 4 = .ok (.iload_n 1, 1) := by decide +kernel
theorem dX11_symbol_5 : decode cX11_symbol 5 = .ok (.invokevirtual 193, 3) := by decide +kernel
theorem dX11_symbol_8 : decode cX11_symbol 8 = .ok (.ifCond .ne 13, 3) := by decide +kernel
theorem dX11_symbol_11 : decode cX11_symbol 11 = .ok (.new 188, 3) := by decide +kernel
theorem dX11_symbol_14 : decode cX11_symbol 14 = .ok (.dup, 1) := by decide +kernel
theorem dX11_symbol_15 : decode cX11_symbol 15 = .ok (.ldc 197, 2) := by decide +kernel
theorem dX11_symbol_17 : decode cX11_symbol 17 = .ok (.invokespecial 192, 3) := by decide +kernel
theorem dX11_symbol_20 : decode cX11_symbol 20 = .ok (.athrow, 1) := by decide +kernel
theorem dX11_symbol_21 : decode cX11_symbol 21 = .ok (.iload_n 2, 1) := by decide +kernel
theorem dX11_symbol_22 : decode cX11_symbol 22 = .ok (.tableswitch 82 0 4 #[34, 44, 54, 64, 73], 34) := by decide +kernel
theorem dX11_symbol_56 : decode cX11_symbol 56 = .ok (.aload_n 0, 1) := by decide +kernel
theorem dX11_symbol_57 : decode cX11_symbol 57 = .ok (.getfield 10, 3) := by decide +kernel
theorem dX11_symbol_60 : decode cX11_symbol 60 = .ok (.getfield 199, 3) := by decide +kernel
theorem dX11_symbol_63 : decode cX11_symbol 63 = .ok (.iload_n 1, 1) := by decide +kernel
theorem dX11_symbol_64 : decode cX11_symbol 64 = .ok (.iaload, 1) := by decide +kernel
theorem dX11_symbol_65 : decode cX11_symbol 65 = .ok (.ireturn, 1) := by decide +kernel
theorem dX11_symbol_66 : decode cX11_symbol 66 = .ok (.aload_n 0, 1) := by decide +kernel
theorem dX11_symbol_67 : decode cX11_symbol 67 = .ok (.getfield 10, 3) := by decide +kernel
theorem dX11_symbol_70 : decode cX11_symbol 70 = .ok (.getfield 202, 3) := by decide +kernel
theorem dX11_symbol_73 : decode cX11_symbol 73 = .ok (.iload_n 1, 1) := by decide +kernel
theorem dX11_symbol_74 : decode cX11_symbol 74 = .ok (.iaload, 1) := by decide +kernel
theorem dX11_symbol_75 : decode cX11_symbol 75 = .ok (.ireturn, 1) := by decide +kernel
theorem dX11_symbol_76 : decode cX11_symbol 76 = .ok (.aload_n 0, 1) := by decide +kernel
theorem dX11_symbol_77 : decode cX11_symbol 77 = .ok (.getfield 10, 3) := by decide +kernel
theorem dX11_symbol_80 : decode cX11_symbol 80 = .ok (.getfield 205, 3) := by decide +kernel
theorem dX11_symbol_83 : decode cX11_symbol 83 = .ok (.iload_n 1, 1) := by decide +kernel
theorem dX11_symbol_84 : decode cX11_symbol 84 = .ok (.iaload, 1) := by decide +kernel
theorem dX11_symbol_85 : decode cX11_symbol 85 = .ok (.ireturn, 1) := by decide +kernel
theorem dX11_symbol_86 : decode cX11_symbol 86 = .ok (.aload_n 0, 1) := by decide +kernel
theorem dX11_symbol_87 : decode cX11_symbol 87 = .ok (.getfield 81, 3) := by decide +kernel
theorem dX11_symbol_90 : decode cX11_symbol 90 = .ok (.iload_n 1, 1) := by decide +kernel
theorem dX11_symbol_91 : decode cX11_symbol 91 = .ok (.invokevirtual 208, 3) := by decide +kernel
theorem dX11_symbol_94 : decode cX11_symbol 94 = .ok (.ireturn, 1) := by decide +kernel
theorem dX11_symbol_95 : decode cX11_symbol 95 = .ok (.aload_n 0, 1) := by decide +kernel
theorem dX11_symbol_96 : decode cX11_symbol 96 = .ok (.getfield 81, 3) := by decide +kernel
theorem dX11_symbol_99 : decode cX11_symbol 99 = .ok (.iload_n 1, 1) := by decide +kernel
theorem dX11_symbol_100 : decode cX11_symbol 100 = .ok (.invokevirtual 211, 3) := by decide +kernel
theorem dX11_symbol_103 : decode cX11_symbol 103 = .ok (.ireturn, 1) := by decide +kernel
theorem dX11_symbol_104 : decode cX11_symbol 104 = .ok (.new 188, 3) := by decide +kernel
theorem dX11_symbol_107 : decode cX11_symbol 107 = .ok (.dup, 1) := by decide +kernel
theorem dX11_symbol_108 : decode cX11_symbol 108 = .ok (.ldc 214, 2) := by decide +kernel
theorem dX11_symbol_110 : decode cX11_symbol 110 = .ok (.invokespecial 192, 3) := by decide +kernel
theorem dX11_symbol_113 : decode cX11_symbol 113 = .ok (.athrow, 1) := by decide +kernel
theorem dX11_term_0 : decode cX11_term 0 = .ok (.aload_n 0, 1) := by decide +kernel
theorem dX11_term_1 : decode cX11_term 1 = .ok (.iload_n 1, 1) := by decide +kernel
theorem dX11_term_2 : decode cX11_term 2 = .ok (.invokevirtual 216, 3) := by decide +kernel
theorem dX11_term_5 : decode cX11_term 5 = .ok (.aload_n 0, 1) := by decide +kernel
theorem dX11_term_6 : decode cX11_term 6 = .ok (.getfield 29, 3) := by decide +kernel
theorem dX11_term_9 : decode cX11_term 9 = .ok (.getfield 49, 3) := by decide +kernel
theorem dX11_term_12 : decode cX11_term 12 = .ok (.astore_n 3, 1) := by decide +kernel
theorem dX11_term_13 : decode cX11_term 13 = .ok (.iload_n 2, 1) := by decide +kernel
theorem dX11_term_14 : decode cX11_term 14 = .ok (.tableswitch 163 0 9 #[54, 73, 94, 101, 107, 114, 121, 128, 134, 146], 54) := by decide +kernel
theorem dX11_term_68 : decode cX11_term 68 = .ok (.aload_n 3, 1) := by decide +kernel
theorem dX11_term_69 : decode cX11_term 69 = .ok (.iload_n 1, 1) := by decide +kernel
theorem dX11_term_70 : decode cX11_term 70 = .ok (.invokevirtual 219, 3) := by decide +kernel
theorem dX11_term_73 : decode cX11_term 73 = .ok (.ifCond .eq 7, 3) := by decide +kernel
theorem dX11_term_76 : decode cX11_term 76 = .ok (.iconst (-1), 1) := by decide +kernel
theorem dX11_term_77 : decode cX11_term 77 = .ok (.goto 9, 3) := by decide +kernel
theorem dX11_term_80 : decode cX11_term 80 = .ok (.aload_n 3, 1) := by decide +kernel
theorem dX11_term_81 : decode cX11_term 81 = .ok (.getfield 222, 3) := by decide +kernel
theorem dX11_term_84 : decode cX11_term 84 = .ok (.iload_n 1, 1) := by decide +kernel
theorem dX11_term_85 : decode cX11_term 85 = .ok (.iaload, 1) := by decide +kernel
theorem dX11_term_86 : decode cX11_term 86 = .ok (.ireturn, 1) := by decide +kernel
theorem dX11_term_87 : decode cX11_term 87 = .ok (.aload_n 3, 1) := by decide +kernel
theorem dX11_term_88 : decode cX11_term 88 = .ok (.iload_n 1, 1) := by decide +kernel
theorem dX11_term_89 : decode cX11_term 89 = .ok (.invokevirtual 219, 3) := by decide +kernel
theorem dX11_term_92 : decode cX11_term 92 = .ok (.ifCond .eq 14, 3) := by decide +kernel
theorem dX11_term_95 : decode cX11_term 95 = .ok (.aload_n 3, 1) := by decide +kernel
theorem dX11_term_96 : decode cX11_term 96 = .ok (.getfield 222, 3) := by decide +kernel
theorem dX11_term_99 : decode cX11_term 99 = .ok (.iload_n 1, 1) := by decide +kernel
theorem dX11_term_100 : decode cX11_term 100 = .ok (.iaload, 1) := by decide +kernel
theorem dX11_term_101 : decode cX11_term 101 = .ok (.iconst (-1), 1) := by decide +kernel
theorem dX11_term_102 : decode cX11_term 102 = .ok (.ixor, 1) := by decide +kernel
theorem dX11_term_103 : decode cX11_term 103 = .ok (.goto 4, 3) := by decide +kernel
theorem dX11_term_106 : decode cX11_term 106 = .ok (.iconst (-1), 1) := by decide +kernel
theorem dX11_term_107 : decode cX11_term 107 = .ok (.ireturn, 1) := by decide +kernel
theorem dX11_term_108 : decode cX11_term 108 = .ok (.aload_n 3, 1) := by decide +kernel
theorem dX11_term_109 : decode cX11_term 109 = .ok (.getfield 225, 3) := by decide +kernel
theorem dX11_term_112 : decode cX11_term 112 = .ok (.iload_n 1, 1) := by decide +kernel
theorem dX11_term_113 : decode cX11_term 113 = .ok (.iaload, 1) := by decide +kernel
theorem dX11_term_114 : decode cX11_term 114 = .ok (.ireturn, 1) := by decide +kernel
theorem dX11_term_115 : decode cX11_term 115 = .ok (.aload_n 3, 1) := by decide +kernel
theorem dX11_term_116 : decode cX11_term 116 = .ok (.iload_n 1, 1) := by decide +kernel
theorem dX11_term_117 : decode cX11_term 117 = .ok (.invokevirtual 228, 3) := by decide +kernel
theorem dX11_term_120 : decode cX11_term 120 = .ok (.ireturn, 1) := by decide +kernel
theorem dX11_term_121 : decode cX11_term 121 = .ok (.aload_n 3, 1) := by decide +kernel
theorem dX11_term_122 : decode cX11_term 122 = .ok (.getfield 231, 3) := by decide +kernel
theorem dX11_term_125 : decode cX11_term 125 = .ok (.iload_n 1, 1) := by decide +kernel
theorem dX11_term_126 : decode cX11_term 126 = .ok (.iaload, 1) := by decide +kernel
theorem dX11_term_127 : decode cX11_term 127 = .ok (.ireturn, 1) := by decide +kernel
theorem dX11_term_128 : decode cX11_term 128 = .ok (.aload_n 3, 1) := by decide +kernel
theorem dX11_term_129 : decode cX11_term 129 = .ok (.getfield 234, 3) := by decide +kernel
theorem dX11_term_132 : decode cX11_term 132 = .ok (.iload_n 1, 1) := by decide +kernel
theorem dX11_term_133 : decode cX11_term 133 = .ok (.iaload, 1) := by decide +kernel
theorem dX11_term_134 : decode cX11_term 134 = .ok (.ireturn, 1) := by decide +kernel
theorem dX11_term_135 : decode cX11_term 135 = .ok (.aload_n 3, 1) := by decide +kernel
theorem dX11_term_136 : decode cX11_term 136 = .ok (.getfield 235, 3) := by decide +kernel
theorem dX11_term_139 : decode cX11_term 139 = .ok (.iload_n 1, 1) := by decide +kernel
theorem dX11_term_140 : decode cX11_term 140 = .ok (.iaload, 1) := by decide +kernel
theorem dX11_term_141 : decode cX11_term 141 = .ok (.ireturn, 1) := by decide +kernel
theorem dX11_term_142 : decode cX11_term 142 = .ok (.aload_n 3, 1) := by decide +kernel
theorem dX11_term_143 : decode cX11_term 143 = .ok (.iload_n 1, 1) := by decide +kernel
theorem dX11_term_144 : decode cX11_term 144 = .ok (.invokevirtual 238, 3) := by decide +kernel
theorem dX11_term_147 : decode cX11_term 147 = .ok (.ireturn, 1) := by decide +kernel
theorem dX11_term_148 : decode cX11_term 148 = .ok (.aload_n 0, 1) := by decide +kernel
theorem dX11_term_149 : decode cX11_term 149 = .ok (.getfield 29, 3) := by decide +kernel
theorem dX11_term_152 : decode cX11_term 152 = .ok (.getfield 156, 3) := by decide +kernel
theorem dX11_term_155 : decode cX11_term 155 = .ok (.iload_n 1, 1) := by decide +kernel
theorem dX11_term_156 : decode cX11_term 156 = .ok (.invokevirtual 241, 3) := by decide +kernel
theorem dX11_term_159 : decode cX11_term 159 = .ok (.ireturn, 1) := by decide +kernel
theorem dX11_term_160 : decode cX11_term 160 = .ok (.aload_n 0, 1) := by decide +kernel
theorem dX11_term_161 : decode cX11_term 161 = .ok (.getfield 81, 3) := by decide +kernel
theorem dX11_term_164 : decode cX11_term 164 = .ok (.iload_n 1, 1) := by decide +kernel
theorem dX11_term_165 : decode cX11_term 165 = .ok (.invokevirtual 244, 3) := by decide +kernel
theorem dX11_term_168 : decode cX11_term 168 = .ok (.ifCond .eq 7, 3) := by decide +kernel
theorem dX11_term_171 : decode cX11_term 171 = .ok (.iconst 1, 1) := by decide +kernel
theorem dX11_term_172 : decode cX11_term 172 = .ok (.goto 4, 3) := by decide +kernel
theorem dX11_term_175 : decode cX11_term 175 = .ok (.iconst 0, 1) := by decide +kernel
theorem dX11_term_176 : decode cX11_term 176 = .ok (.ireturn, 1) := by decide +kernel
theorem dX11_term_177 : decode cX11_term 177 = .ok (.new 188, 3) := by decide +kernel
theorem dX11_term_180 : decode cX11_term 180 = .ok (.dup, 1) := by decide +kernel
theorem dX11_term_181 : decode cX11_term 181 = .ok (.ldc 247, 2) := by decide +kernel
theorem dX11_term_183 : decode cX11_term 183 = .ok (.invokespecial 192, 3) := by decide +kernel
theorem dX11_term_186 : decode cX11_term 186 = .ok (.athrow, 1) := by decide +kernel
theorem dX11_argument_0 : decode cX11_argument 0 = .ok (.aload_n 0, 1) := by decide +kernel
theorem dX11_argument_1 : decode cX11_argument 1 = .ok (.iload_n 1, 1) := by decide +kernel
theorem dX11_argument_2 : decode cX11_argument 2 = .ok (.invokevirtual 216, 3) := by decide +kernel
theorem dX11_argument_5 : decode cX11_argument 5 = .ok (.iload_n 2, 1) := by decide +kernel
theorem dX11_argument_6 : decode cX11_argument 6 = .ok (.ifCond .lt 19, 3) := by decide +kernel
theorem dX11_argument_9 : decode cX11_argument 9 = .ok (.iload_n 2, 1) := by decide +kernel
theorem dX11_argument_10 : decode cX11_argument 10 = .ok (.aload_n 0, 1) := by decide +kernel
theorem dX11_argument_11 : decode cX11_argument 11 = .ok (.getfield 29, 3) := by decide +kernel
theorem dX11_argument_14 : decode cX11_argument 14 = .ok (.getfield 49, 3) := by decide +kernel
theorem dX11_argument_17 : decode cX11_argument 17 = .ok (.getfield 249, 3) := by decide +kernel
theorem dX11_argument_20 : decode cX11_argument 20 = .ok (.iload_n 1, 1) := by decide +kernel
theorem dX11_argument_21 : decode cX11_argument 21 = .ok (.iaload, 1) := by decide +kernel
theorem dX11_argument_22 : decode cX11_argument 22 = .ok (.if_icmp .lt 13, 3) := by decide +kernel
theorem dX11_argument_25 : decode cX11_argument 25 = .ok (.new 188, 3) := by decide +kernel
theorem dX11_argument_28 : decode cX11_argument 28 = .ok (.dup, 1) := by decide +kernel
theorem dX11_argument_29 : decode cX11_argument 29 = .ok (.ldc 250, 2) := by decide +kernel
theorem dX11_argument_31 : decode cX11_argument 31 = .ok (.invokespecial 192, 3) := by decide +kernel
theorem dX11_argument_34 : decode cX11_argument 34 = .ok (.athrow, 1) := by decide +kernel
theorem dX11_argument_35 : decode cX11_argument 35 = .ok (.aload_n 0, 1) := by decide +kernel
theorem dX11_argument_36 : decode cX11_argument 36 = .ok (.getfield 29, 3) := by decide +kernel
theorem dX11_argument_39 : decode cX11_argument 39 = .ok (.getfield 49, 3) := by decide +kernel
theorem dX11_argument_42 : decode cX11_argument 42 = .ok (.iload_n 1, 1) := by decide +kernel
theorem dX11_argument_43 : decode cX11_argument 43 = .ok (.iload_n 2, 1) := by decide +kernel
theorem dX11_argument_44 : decode cX11_argument 44 = .ok (.invokevirtual 252, 3) := by decide +kernel
theorem dX11_argument_47 : decode cX11_argument 47 = .ok (.ireturn, 1) := by decide +kernel
theorem dX11_place_0 : decode cX11_place 0 = .ok (.aload_n 0, 1) := by decide +kernel
theorem dX11_place_1 : decode cX11_place 1 = .ok (.iload_n 1, 1) := by decide +kernel
theorem dX11_place_2 : decode cX11_place 2 = .ok (.invokevirtual 216, 3) := by decide +kernel
theorem dX11_place_5 : decode cX11_place 5 = .ok (.aload_n 0, 1) := by decide +kernel
theorem dX11_place_6 : decode cX11_place 6 = .ok (.getfield 29, 3) := by decide +kernel
theorem dX11_place_9 : decode cX11_place 9 = .ok (.getfield 49, 3) := by decide +kernel
theorem dX11_place_12 : decode cX11_place 12 = .ok (.iload_n 1, 1) := by decide +kernel
theorem dX11_place_13 : decode cX11_place 13 = .ok (.iload_n 2, 1) := by decide +kernel
theorem dX11_place_14 : decode cX11_place 14 = .ok (.invokevirtual 256, 3) := by decide +kernel
theorem dX11_place_17 : decode cX11_place 17 = .ok (.ifCond .ne 14, 3) := by decide +kernel
theorem dX11_place_20 : decode cX11_place 20 = .ok (.new 188, 3) := by decide +kernel
theorem dX11_place_23 : decode cX11_place 23 = .ok (.dup, 1) := by decide +kernel
theorem dX11_place_24 : decode cX11_place 24 = .ok (.ldc_w 260, 3) := by decide +kernel
theorem dX11_place_27 : decode cX11_place 27 = .ok (.invokespecial 192, 3) := by decide +kernel
theorem dX11_place_30 : decode cX11_place 30 = .ok (.athrow, 1) := by decide +kernel
theorem dX11_place_31 : decode cX11_place 31 = .ok (.aload_n 0, 1) := by decide +kernel
theorem dX11_place_32 : decode cX11_place 32 = .ok (.getfield 29, 3) := by decide +kernel
theorem dX11_place_35 : decode cX11_place 35 = .ok (.getfield 49, 3) := by decide +kernel
theorem dX11_place_38 : decode cX11_place 38 = .ok (.iload_n 1, 1) := by decide +kernel
theorem dX11_place_39 : decode cX11_place 39 = .ok (.iload_n 2, 1) := by decide +kernel
theorem dX11_place_40 : decode cX11_place 40 = .ok (.invokevirtual 262, 3) := by decide +kernel
theorem dX11_place_43 : decode cX11_place 43 = .ok (.ireturn, 1) := by decide +kernel
theorem dX11_order_0 : decode cX11_order 0 = .ok (.aload_n 0, 1) := by decide +kernel
theorem dX11_order_1 : decode cX11_order 1 = .ok (.iload_n 1, 1) := by decide +kernel
theorem dX11_order_2 : decode cX11_order 2 = .ok (.invokevirtual 216, 3) := by decide +kernel
theorem dX11_order_5 : decode cX11_order 5 = .ok (.aload_n 0, 1) := by decide +kernel
theorem dX11_order_6 : decode cX11_order 6 = .ok (.iload_n 2, 1) := by decide +kernel
theorem dX11_order_7 : decode cX11_order 7 = .ok (.invokevirtual 216, 3) := by decide +kernel
theorem dX11_order_10 : decode cX11_order 10 = .ok (.aload_n 0, 1) := by decide +kernel
theorem dX11_order_11 : decode cX11_order 11 = .ok (.getfield 81, 3) := by decide +kernel
theorem dX11_order_14 : decode cX11_order 14 = .ok (.iload_n 1, 1) := by decide +kernel
theorem dX11_order_15 : decode cX11_order 15 = .ok (.iload_n 2, 1) := by decide +kernel
theorem dX11_order_16 : decode cX11_order 16 = .ok (.invokevirtual 265, 3) := by decide +kernel
theorem dX11_order_19 : decode cX11_order 19 = .ok (.ireturn, 1) := by decide +kernel
theorem dX11_find_0 : decode cX11_find 0 = .ok (.aload_n 0, 1) := by decide +kernel
theorem dX11_find_1 : decode cX11_find 1 = .ok (.iload_n 1, 1) := by decide +kernel
theorem dX11_find_2 : decode cX11_find 2 = .ok (.invokevirtual 216, 3) := by decide +kernel
theorem dX11_find_5 : decode cX11_find 5 = .ok (.iload_n 2, 1) := by decide +kernel
theorem dX11_find_6 : decode cX11_find 6 = .ok (.ifCond .lt 8, 3) := by decide +kernel
theorem dX11_find_9 : decode cX11_find 9 = .ok (.iload_n 2, 1) := by decide +kernel
theorem dX11_find_10 : decode cX11_find 10 = .ok (.iconst 3, 1) := by decide +kernel
theorem dX11_find_11 : decode cX11_find 11 = .ok (.if_icmp .le 14, 3) := by decide +kernel
theorem dX11_find_14 : decode cX11_find 14 = .ok (.new 188, 3) := by decide +kernel
theorem dX11_find_17 : decode cX11_find 17 = .ok (.dup, 1) := by decide +kernel
theorem dX11_find_18 : decode cX11_find 18 = .ok (.ldc_w 268, 3) := by decide +kernel
theorem dX11_find_21 : decode cX11_find 21 = .ok (.invokespecial 192, 3) := by decide +kernel
theorem dX11_find_24 : decode cX11_find 24 = .ok (.athrow, 1) := by decide +kernel
theorem dX11_find_25 : decode cX11_find 25 = .ok (.aload_n 0, 1) := by decide +kernel
theorem dX11_find_26 : decode cX11_find 26 = .ok (.getfield 81, 3) := by decide +kernel
theorem dX11_find_29 : decode cX11_find 29 = .ok (.iload_n 1, 1) := by decide +kernel
theorem dX11_find_30 : decode cX11_find 30 = .ok (.iload_n 2, 1) := by decide +kernel
theorem dX11_find_31 : decode cX11_find 31 = .ok (.invokevirtual 270, 3) := by decide +kernel
theorem dX11_find_34 : decode cX11_find 34 = .ok (.ireturn, 1) := by decide +kernel
theorem dX11_rule_0 : decode cX11_rule 0 = .ok (.aload_n 0, 1) := by decide +kernel
theorem dX11_rule_1 : decode cX11_rule 1 = .ok (.getfield 29, 3) := by decide +kernel
theorem dX11_rule_4 : decode cX11_rule 4 = .ok (.getfield 156, 3) := by decide +kernel
theorem dX11_rule_7 : decode cX11_rule 7 = .ok (.getfield 167, 3) := by decide +kernel
theorem dX11_rule_10 : decode cX11_rule 10 = .ok (.astore_n 3, 1) := by decide +kernel
theorem dX11_rule_11 : decode cX11_rule 11 = .ok (.iload_n 1, 1) := by decide +kernel
theorem dX11_rule_12 : decode cX11_rule 12 = .ok (.ifCond .lt 19, 3) := by decide +kernel
theorem dX11_rule_15 : decode cX11_rule 15 = .ok (.iload_n 1, 1) := by decide +kernel
theorem dX11_rule_16 : decode cX11_rule 16 = .ok (.aload_n 3, 1) := by decide +kernel
theorem dX11_rule_17 : decode cX11_rule 17 = .ok (.iconst 4, 1) := by decide +kernel
theorem dX11_rule_18 : decode cX11_rule 18 = .ok (.iaload, 1) := by decide +kernel
theorem dX11_rule_19 : decode cX11_rule 19 = .ok (.if_icmp .ge 12, 3) := by decide +kernel
theorem dX11_rule_22 : decode cX11_rule 22 = .ok (.iload_n 2, 1) := by decide +kernel
theorem dX11_rule_23 : decode cX11_rule 23 = .ok (.ifCond .lt 8, 3) := by decide +kernel
theorem dX11_rule_26 : decode cX11_rule 26 = .ok (.iload_n 2, 1) := by decide +kernel
theorem dX11_rule_27 : decode cX11_rule 27 = .ok (.iconst 1, 1) := by decide +kernel
theorem dX11_rule_28 : decode cX11_rule 28 = .ok (.if_icmp .le 14, 3) := by decide +kernel
theorem dX11_rule_31 : decode cX11_rule 31 = .ok (.new 188, 3) := by decide +kernel
theorem dX11_rule_34 : decode cX11_rule 34 = .ok (.dup, 1) := by decide +kernel
theorem dX11_rule_35 : decode cX11_rule 35 = .ok (.ldc_w 273, 3) := by decide +kernel
theorem dX11_rule_38 : decode cX11_rule 38 = .ok (.invokespecial 192, 3) := by decide +kernel
theorem dX11_rule_41 : decode cX11_rule 41 = .ok (.athrow, 1) := by decide +kernel
theorem dX11_rule_42 : decode cX11_rule 42 = .ok (.iload_n 2, 1) := by decide +kernel
theorem dX11_rule_43 : decode cX11_rule 43 = .ok (.ifCond .ne 12, 3) := by decide +kernel
theorem dX11_rule_46 : decode cX11_rule 46 = .ok (.aload_n 3, 1) := by decide +kernel
theorem dX11_rule_47 : decode cX11_rule 47 = .ok (.bipush 15, 2) := by decide +kernel
theorem dX11_rule_49 : decode cX11_rule 49 = .ok (.iload_n 1, 1) := by decide +kernel
theorem dX11_rule_50 : decode cX11_rule 50 = .ok (.iadd, 1) := by decide +kernel
theorem dX11_rule_51 : decode cX11_rule 51 = .ok (.iaload, 1) := by decide +kernel
theorem dX11_rule_52 : decode cX11_rule 52 = .ok (.goto 9, 3) := by decide +kernel
theorem dX11_rule_55 : decode cX11_rule 55 = .ok (.aload_n 3, 1) := by decide +kernel
theorem dX11_rule_56 : decode cX11_rule 56 = .ok (.bipush 23, 2) := by decide +kernel
theorem dX11_rule_58 : decode cX11_rule 58 = .ok (.iload_n 1, 1) := by decide +kernel
theorem dX11_rule_59 : decode cX11_rule 59 = .ok (.iadd, 1) := by decide +kernel
theorem dX11_rule_60 : decode cX11_rule 60 = .ok (.iaload, 1) := by decide +kernel
theorem dX11_rule_61 : decode cX11_rule 61 = .ok (.ireturn, 1) := by decide +kernel
theorem dX11_entry_0 : decode cX11_entry 0 = .ok (.aload_n 0, 1) := by decide +kernel
theorem dX11_entry_1 : decode cX11_entry 1 = .ok (.getfield 29, 3) := by decide +kernel
theorem dX11_entry_4 : decode cX11_entry 4 = .ok (.getfield 156, 3) := by decide +kernel
theorem dX11_entry_7 : decode cX11_entry 7 = .ok (.getfield 167, 3) := by decide +kernel
theorem dX11_entry_10 : decode cX11_entry 10 = .ok (.astore_n 2, 1) := by decide +kernel
theorem dX11_entry_11 : decode cX11_entry 11 = .ok (.iload_n 1, 1) := by decide +kernel
theorem dX11_entry_12 : decode cX11_entry 12 = .ok (.ifCond .lt 10, 3) := by decide +kernel
theorem dX11_entry_15 : decode cX11_entry 15 = .ok (.iload_n 1, 1) := by decide +kernel
theorem dX11_entry_16 : decode cX11_entry 16 = .ok (.aload_n 2, 1) := by decide +kernel
theorem dX11_entry_17 : decode cX11_entry 17 = .ok (.iconst 5, 1) := by decide +kernel
theorem dX11_entry_18 : decode cX11_entry 18 = .ok (.iaload, 1) := by decide +kernel
theorem dX11_entry_19 : decode cX11_entry 19 = .ok (.if_icmp .lt 14, 3) := by decide +kernel
theorem dX11_entry_22 : decode cX11_entry 22 = .ok (.new 188, 3) := by decide +kernel
theorem dX11_entry_25 : decode cX11_entry 25 = .ok (.dup, 1) := by decide +kernel
theorem dX11_entry_26 : decode cX11_entry 26 = .ok (.ldc_w 275, 3) := by decide +kernel
theorem dX11_entry_29 : decode cX11_entry 29 = .ok (.invokespecial 192, 3) := by decide +kernel
theorem dX11_entry_32 : decode cX11_entry 32 = .ok (.athrow, 1) := by decide +kernel
theorem dX11_entry_33 : decode cX11_entry 33 = .ok (.aload_n 2, 1) := by decide +kernel
theorem dX11_entry_34 : decode cX11_entry 34 = .ok (.bipush 31, 2) := by decide +kernel
theorem dX11_entry_36 : decode cX11_entry 36 = .ok (.iload_n 1, 1) := by decide +kernel
theorem dX11_entry_37 : decode cX11_entry 37 = .ok (.iadd, 1) := by decide +kernel
theorem dX11_entry_38 : decode cX11_entry 38 = .ok (.iaload, 1) := by decide +kernel
theorem dX11_entry_39 : decode cX11_entry 39 = .ok (.ireturn, 1) := by decide +kernel
theorem dX11_memo_0 : decode cX11_memo 0 = .ok (.aload_n 0, 1) := by decide +kernel
theorem dX11_memo_1 : decode cX11_memo 1 = .ok (.getfield 29, 3) := by decide +kernel
theorem dX11_memo_4 : decode cX11_memo 4 = .ok (.getfield 156, 3) := by decide +kernel
theorem dX11_memo_7 : decode cX11_memo 7 = .ok (.getfield 167, 3) := by decide +kernel
theorem dX11_memo_10 : decode cX11_memo 10 = .ok (.astore_n 3, 1) := by decide +kernel
theorem dX11_memo_11 : decode cX11_memo 11 = .ok (.iload_n 1, 1) := by decide +kernel
theorem dX11_memo_12 : decode cX11_memo 12 = .ok (.ifCond .lt 20, 3) := by decide +kernel
theorem dX11_memo_15 : decode cX11_memo 15 = .ok (.iload_n 1, 1) := by decide +kernel
theorem dX11_memo_16 : decode cX11_memo 16 = .ok (.aload_n 3, 1) := by decide +kernel
theorem dX11_memo_17 : decode cX11_memo 17 = .ok (.bipush 6, 2) := by decide +kernel
theorem dX11_memo_19 : decode cX11_memo 19 = .ok (.iaload, 1) := by decide +kernel
theorem dX11_memo_20 : decode cX11_memo 20 = .ok (.if_icmp .ge 12, 3) := by decide +kernel
theorem dX11_memo_23 : decode cX11_memo 23 = .ok (.iload_n 2, 1) := by decide +kernel
theorem dX11_memo_24 : decode cX11_memo 24 = .ok (.ifCond .lt 8, 3) := by decide +kernel
theorem dX11_memo_27 : decode cX11_memo 27 = .ok (.iload_n 2, 1) := by decide +kernel
theorem dX11_memo_28 : decode cX11_memo 28 = .ok (.iconst 1, 1) := by decide +kernel
theorem dX11_memo_29 : decode cX11_memo 29 = .ok (.if_icmp .le 14, 3) := by decide +kernel
theorem dX11_memo_32 : decode cX11_memo 32 = .ok (.new 188, 3) := by decide +kernel
theorem dX11_memo_35 : decode cX11_memo 35 = .ok (.dup, 1) := by decide +kernel
theorem dX11_memo_36 : decode cX11_memo 36 = .ok (.ldc_w 277, 3) := by decide +kernel
theorem dX11_memo_39 : decode cX11_memo 39 = .ok (.invokespecial 192, 3) := by decide +kernel
theorem dX11_memo_42 : decode cX11_memo 42 = .ok (.athrow, 1) := by decide +kernel
theorem dX11_memo_43 : decode cX11_memo 43 = .ok (.iload_n 2, 1) := by decide +kernel
theorem dX11_memo_44 : decode cX11_memo 44 = .ok (.ifCond .ne 12, 3) := by decide +kernel
theorem dX11_memo_47 : decode cX11_memo 47 = .ok (.aload_n 3, 1) := by decide +kernel
theorem dX11_memo_48 : decode cX11_memo 48 = .ok (.bipush 43, 2) := by decide +kernel
theorem dX11_memo_50 : decode cX11_memo 50 = .ok (.iload_n 1, 1) := by decide +kernel
theorem dX11_memo_51 : decode cX11_memo 51 = .ok (.iadd, 1) := by decide +kernel
theorem dX11_memo_52 : decode cX11_memo 52 = .ok (.iaload, 1) := by decide +kernel
theorem dX11_memo_53 : decode cX11_memo 53 = .ok (.goto 9, 3) := by decide +kernel
theorem dX11_memo_56 : decode cX11_memo 56 = .ok (.aload_n 3, 1) := by decide +kernel
theorem dX11_memo_57 : decode cX11_memo 57 = .ok (.bipush 52, 2) := by decide +kernel
theorem dX11_memo_59 : decode cX11_memo 59 = .ok (.iload_n 1, 1) := by decide +kernel
theorem dX11_memo_60 : decode cX11_memo 60 = .ok (.iadd, 1) := by decide +kernel
theorem dX11_memo_61 : decode cX11_memo 61 = .ok (.iaload, 1) := by decide +kernel
theorem dX11_memo_62 : decode cX11_memo 62 = .ok (.ireturn, 1) := by decide +kernel
theorem dX11_bound_0 : decode cX11_bound 0 = .ok (.iload_n 1, 1) := by decide +kernel
theorem dX11_bound_1 : decode cX11_bound 1 = .ok (.invokestatic 279, 3) := by decide +kernel
theorem dX11_bound_4 : decode cX11_bound 4 = .ok (.ifCond .ne 14, 3) := by decide +kernel
theorem dX11_bound_7 : decode cX11_bound 7 = .ok (.new 188, 3) := by decide +kernel
theorem dX11_bound_10 : decode cX11_bound 10 = .ok (.dup, 1) := by decide +kernel
theorem dX11_bound_11 : decode cX11_bound 11 = .ok (.ldc_w 282, 3) := by decide +kernel
theorem dX11_bound_14 : decode cX11_bound 14 = .ok (.invokespecial 192, 3) := by decide +kernel
theorem dX11_bound_17 : decode cX11_bound 17 = .ok (.athrow, 1) := by decide +kernel
theorem dX11_bound_18 : decode cX11_bound 18 = .ok (.aload_n 0, 1) := by decide +kernel
theorem dX11_bound_19 : decode cX11_bound 19 = .ok (.getfield 29, 3) := by decide +kernel
theorem dX11_bound_22 : decode cX11_bound 22 = .ok (.getfield 156, 3) := by decide +kernel
theorem dX11_bound_25 : decode cX11_bound 25 = .ok (.getfield 167, 3) := by decide +kernel
theorem dX11_bound_28 : decode cX11_bound 28 = .ok (.bipush 7, 2) := by decide +kernel
theorem dX11_bound_30 : decode cX11_bound 30 = .ok (.iload_n 1, 1) := by decide +kernel
theorem dX11_bound_31 : decode cX11_bound 31 = .ok (.iadd, 1) := by decide +kernel
theorem dX11_bound_32 : decode cX11_bound 32 = .ok (.iaload, 1) := by decide +kernel
theorem dX11_bound_33 : decode cX11_bound 33 = .ok (.ireturn, 1) := by decide +kernel
theorem dX11_variable_0 : decode cX11_variable 0 = .ok (.iload_n 1, 1) := by decide +kernel
theorem dX11_variable_1 : decode cX11_variable 1 = .ok (.invokestatic 279, 3) := by decide +kernel
theorem dX11_variable_4 : decode cX11_variable 4 = .ok (.ifCond .ne 10, 3) := by decide +kernel
theorem dX11_variable_7 : decode cX11_variable 7 = .ok (.aload_n 0, 1) := by decide +kernel
theorem dX11_variable_8 : decode cX11_variable 8 = .ok (.iconst 1, 1) := by decide +kernel
theorem dX11_variable_9 : decode cX11_variable 9 = .ok (.iconst (-1), 1) := by decide +kernel
theorem dX11_variable_10 : decode cX11_variable 10 = .ok (.invokevirtual 284, 3) := by decide +kernel
theorem dX11_variable_13 : decode cX11_variable 13 = .ok (.ireturn, 1) := by decide +kernel
theorem dX11_variable_14 : decode cX11_variable 14 = .ok (.aload_n 0, 1) := by decide +kernel
theorem dX11_variable_15 : decode cX11_variable 15 = .ok (.getfield 29, 3) := by decide +kernel
theorem dX11_variable_18 : decode cX11_variable 18 = .ok (.invokevirtual 287, 3) := by decide +kernel
theorem dX11_variable_21 : decode cX11_variable 21 = .ok (.aload_n 0, 1) := by decide +kernel
theorem dX11_variable_22 : decode cX11_variable 22 = .ok (.aload_n 0, 1) := by decide +kernel
theorem dX11_variable_23 : decode cX11_variable 23 = .ok (.getfield 29, 3) := by decide +kernel
theorem dX11_variable_26 : decode cX11_variable 26 = .ok (.getfield 49, 3) := by decide +kernel
theorem dX11_variable_29 : decode cX11_variable 29 = .ok (.iload_n 1, 1) := by decide +kernel
theorem dX11_variable_30 : decode cX11_variable 30 = .ok (.invokevirtual 290, 3) := by decide +kernel
theorem dX11_variable_33 : decode cX11_variable 33 = .ok (.invokevirtual 293, 3) := by decide +kernel
theorem dX11_variable_36 : decode cX11_variable 36 = .ok (.ireturn, 1) := by decide +kernel
theorem dX11_make_0 : decode cX11_make 0 = .ok (.aload_n 0, 1) := by decide +kernel
theorem dX11_make_1 : decode cX11_make 1 = .ok (.getfield 10, 3) := by decide +kernel
theorem dX11_make_4 : decode cX11_make 4 = .ok (.iload_n 1, 1) := by decide +kernel
theorem dX11_make_5 : decode cX11_make 5 = .ok (.invokevirtual 193, 3) := by decide +kernel
theorem dX11_make_8 : decode cX11_make 8 = .ok (.ifCond .eq 23, 3) := by decide +kernel
theorem dX11_make_11 : decode cX11_make 11 = .ok (.aload_n 0, 1) := by decide +kernel
theorem dX11_make_12 : decode cX11_make 12 = .ok (.aload_n 0, 1) := by decide +kernel
theorem dX11_make_13 : decode cX11_make 13 = .ok (.getfield 10, 3) := by decide +kernel
theorem dX11_make_16 : decode cX11_make 16 = .ok (.getfield 202, 3) := by decide +kernel
theorem dX11_make_19 : decode cX11_make 19 = .ok (.iload_n 1, 1) := by decide +kernel
theorem dX11_make_20 : decode cX11_make 20 = .ok (.iaload, 1) := by decide +kernel
theorem dX11_make_21 : decode cX11_make 21 = .ok (.iload_n 2, 1) := by decide +kernel
theorem dX11_make_22 : decode cX11_make 22 = .ok (.iload_n 3, 1) := by decide +kernel
theorem dX11_make_23 : decode cX11_make 23 = .ok (.iload 4, 2) := by decide +kernel
theorem dX11_make_25 : decode cX11_make 25 = .ok (.invokevirtual 296, 3) := by decide +kernel
theorem dX11_make_28 : decode cX11_make 28 = .ok (.ifCond .ne 10, 3) := by decide +kernel
theorem dX11_make_31 : decode cX11_make 31 = .ok (.aload_n 0, 1) := by decide +kernel
theorem dX11_make_32 : decode cX11_make 32 = .ok (.iconst 1, 1) := by decide +kernel
theorem dX11_make_33 : decode cX11_make 33 = .ok (.iconst (-1), 1) := by decide +kernel
theorem dX11_make_34 : decode cX11_make 34 = .ok (.invokevirtual 284, 3) := by decide +kernel
theorem dX11_make_37 : decode cX11_make 37 = .ok (.ireturn, 1) := by decide +kernel
theorem dX11_make_38 : decode cX11_make 38 = .ok (.aload_n 0, 1) := by decide +kernel
theorem dX11_make_39 : decode cX11_make 39 = .ok (.getfield 29, 3) := by decide +kernel
theorem dX11_make_42 : decode cX11_make 42 = .ok (.invokevirtual 287, 3) := by decide +kernel
theorem dX11_make_45 : decode cX11_make 45 = .ok (.aload_n 0, 1) := by decide +kernel
theorem dX11_make_46 : decode cX11_make 46 = .ok (.aload_n 0, 1) := by decide +kernel
theorem dX11_make_47 : decode cX11_make 47 = .ok (.getfield 29, 3) := by decide +kernel
theorem dX11_make_50 : decode cX11_make 50 = .ok (.getfield 49, 3) := by decide +kernel
theorem dX11_make_53 : decode cX11_make 53 = .ok (.iload_n 1, 1) := by decide +kernel
theorem dX11_make_54 : decode cX11_make 54 = .ok (.iload_n 2, 1) := by decide +kernel
theorem dX11_make_55 : decode cX11_make 55 = .ok (.iload_n 3, 1) := by decide +kernel
theorem dX11_make_56 : decode cX11_make 56 = .ok (.iload 4, 2) := by decide +kernel
theorem dX11_make_58 : decode cX11_make 58 = .ok (.invokevirtual 300, 3) := by decide +kernel
theorem dX11_make_61 : decode cX11_make 61 = .ok (.invokevirtual 293, 3) := by decide +kernel
theorem dX11_make_64 : decode cX11_make 64 = .ok (.ireturn, 1) := by decide +kernel
theorem dX11_haveArguments_0 : decode cX11_haveArguments 0 = .ok (.aload_n 0, 1) := by decide +kernel
theorem dX11_haveArguments_1 : decode cX11_haveArguments 1 = .ok (.getfield 29, 3) := by decide +kernel
theorem dX11_haveArguments_4 : decode cX11_haveArguments 4 = .ok (.getfield 49, 3) := by decide +kernel
theorem dX11_haveArguments_7 : decode cX11_haveArguments 7 = .ok (.astore 5, 2) := by decide +kernel
theorem dX11_haveArguments_9 : decode cX11_haveArguments 9 = .ok (.iload_n 1, 1) := by decide +kernel
theorem dX11_haveArguments_10 : decode cX11_haveArguments 10 = .ok (.iconst 1, 1) := by decide +kernel
theorem dX11_haveArguments_11 : decode cX11_haveArguments 11 = .ok (.if_icmp .lt 12, 3) := by decide +kernel
theorem dX11_haveArguments_14 : decode cX11_haveArguments 14 = .ok (.aload 5, 2) := by decide +kernel
theorem dX11_haveArguments_16 : decode cX11_haveArguments 16 = .ok (.iload_n 2, 1) := by decide +kernel
theorem dX11_haveArguments_17 : decode cX11_haveArguments 17 = .ok (.invokevirtual 304, 3) := by decide +kernel
theorem dX11_haveArguments_20 : decode cX11_haveArguments 20 = .ok (.ifCond .eq 36, 3) := by decide +kernel
theorem dX11_haveArguments_23 : decode cX11_haveArguments 23 = .ok (.iload_n 1, 1) := by decide +kernel
theorem dX11_haveArguments_24 : decode cX11_haveArguments 24 = .ok (.iconst 2, 1) := by decide +kernel
theorem dX11_haveArguments_25 : decode cX11_haveArguments 25 = .ok (.if_icmp .lt 12, 3) := by decide +kernel
theorem dX11_haveArguments_28 : decode cX11_haveArguments 28 = .ok (.aload 5, 2) := by decide +kernel
theorem dX11_haveArguments_30 : decode cX11_haveArguments 30 = .ok (.iload_n 3, 1) := by decide +kernel
theorem dX11_haveArguments_31 : decode cX11_haveArguments 31 = .ok (.invokevirtual 304, 3) := by decide +kernel
theorem dX11_haveArguments_34 : decode cX11_haveArguments 34 = .ok (.ifCond .eq 22, 3) := by decide +kernel
theorem dX11_haveArguments_37 : decode cX11_haveArguments 37 = .ok (.iload_n 1, 1) := by decide +kernel
theorem dX11_haveArguments_38 : decode cX11_haveArguments 38 = .ok (.iconst 3, 1) := by decide +kernel
theorem dX11_haveArguments_39 : decode cX11_haveArguments 39 = .ok (.if_icmp .lt 13, 3) := by decide +kernel
theorem dX11_haveArguments_42 : decode cX11_haveArguments 42 = .ok (.aload 5, 2) := by decide +kernel
theorem dX11_haveArguments_44 : decode cX11_haveArguments 44 = .ok (.iload 4, 2) := by decide +kernel
theorem dX11_haveArguments_46 : decode cX11_haveArguments 46 = .ok (.invokevirtual 304, 3) := by decide +kernel
theorem dX11_haveArguments_49 : decode cX11_haveArguments 49 = .ok (.ifCond .eq 7, 3) := by decide +kernel
theorem dX11_haveArguments_52 : decode cX11_haveArguments 52 = .ok (.iconst 1, 1) := by decide +kernel
theorem dX11_haveArguments_53 : decode cX11_haveArguments 53 = .ok (.goto 4, 3) := by decide +kernel
theorem dX11_haveArguments_56 : decode cX11_haveArguments 56 = .ok (.iconst 0, 1) := by decide +kernel
theorem dX11_haveArguments_57 : decode cX11_haveArguments 57 = .ok (.ireturn, 1) := by decide +kernel
theorem dX11_bind_0 : decode cX11_bind 0 = .ok (.iload_n 1, 1) := by decide +kernel
theorem dX11_bind_1 : decode cX11_bind 1 = .ok (.invokestatic 279, 3) := by decide +kernel
theorem dX11_bind_4 : decode cX11_bind 4 = .ok (.ifCond .eq 22, 3) := by decide +kernel
theorem dX11_bind_7 : decode cX11_bind 7 = .ok (.iload_n 2, 1) := by decide +kernel
theorem dX11_bind_8 : decode cX11_bind 8 = .ok (.iconst (-1), 1) := by decide +kernel
theorem dX11_bind_9 : decode cX11_bind 9 = .ok (.if_icmp .eq 25, 3) := by decide +kernel
theorem dX11_bind_12 : decode cX11_bind 12 = .ok (.aload_n 0, 1) := by decide +kernel
theorem dX11_bind_13 : decode cX11_bind 13 = .ok (.getfield 29, 3) := by decide +kernel
theorem dX11_bind_16 : decode cX11_bind 16 = .ok (.getfield 49, 3) := by decide +kernel
theorem dX11_bind_19 : decode cX11_bind 19 = .ok (.iload_n 2, 1) := by decide +kernel
theorem dX11_bind_20 : decode cX11_bind 20 = .ok (.invokevirtual 304, 3) := by decide +kernel
theorem dX11_bind_23 : decode cX11_bind 23 = .ok (.ifCond .ne 11, 3) := by decide +kernel
theorem dX11_bind_26 : decode cX11_bind 26 = .ok (.aload_n 0, 1) := by decide +kernel
theorem dX11_bind_27 : decode cX11_bind 27 = .ok (.iconst 1, 1) := by decide +kernel
theorem dX11_bind_28 : decode cX11_bind 28 = .ok (.bipush (-2), 2) := by decide +kernel
theorem dX11_bind_30 : decode cX11_bind 30 = .ok (.invokevirtual 284, 3) := by decide +kernel
theorem dX11_bind_33 : decode cX11_bind 33 = .ok (.ireturn, 1) := by decide +kernel
theorem dX11_bind_34 : decode cX11_bind 34 = .ok (.aload_n 0, 1) := by decide +kernel
theorem dX11_bind_35 : decode cX11_bind 35 = .ok (.getfield 29, 3) := by decide +kernel
theorem dX11_bind_38 : decode cX11_bind 38 = .ok (.getfield 156, 3) := by decide +kernel
theorem dX11_bind_41 : decode cX11_bind 41 = .ok (.getfield 167, 3) := by decide +kernel
theorem dX11_bind_44 : decode cX11_bind 44 = .ok (.bipush 7, 2) := by decide +kernel
theorem dX11_bind_46 : decode cX11_bind 46 = .ok (.iload_n 1, 1) := by decide +kernel
theorem dX11_bind_47 : decode cX11_bind 47 = .ok (.iadd, 1) := by decide +kernel
theorem dX11_bind_48 : decode cX11_bind 48 = .ok (.iaload, 1) := by decide +kernel
theorem dX11_bind_49 : decode cX11_bind 49 = .ok (.istore_n 3, 1) := by decide +kernel
theorem dX11_bind_50 : decode cX11_bind 50 = .ok (.iload_n 3, 1) := by decide +kernel
theorem dX11_bind_51 : decode cX11_bind 51 = .ok (.iload_n 2, 1) := by decide +kernel
theorem dX11_bind_52 : decode cX11_bind 52 = .ok (.if_icmp .ne 11, 3) := by decide +kernel
theorem dX11_bind_55 : decode cX11_bind 55 = .ok (.aload_n 0, 1) := by decide +kernel
theorem dX11_bind_56 : decode cX11_bind 56 = .ok (.iconst 1, 1) := by decide +kernel
theorem dX11_bind_57 : decode cX11_bind 57 = .ok (.bipush (-2), 2) := by decide +kernel
theorem dX11_bind_59 : decode cX11_bind 59 = .ok (.invokevirtual 284, 3) := by decide +kernel
theorem dX11_bind_62 : decode cX11_bind 62 = .ok (.ireturn, 1) := by decide +kernel
theorem dX11_bind_63 : decode cX11_bind 63 = .ok (.aload_n 0, 1) := by decide +kernel
theorem dX11_bind_64 : decode cX11_bind 64 = .ok (.getfield 29, 3) := by decide +kernel
theorem dX11_bind_67 : decode cX11_bind 67 = .ok (.invokevirtual 287, 3) := by decide +kernel
theorem dX11_bind_70 : decode cX11_bind 70 = .ok (.aload_n 0, 1) := by decide +kernel
theorem dX11_bind_71 : decode cX11_bind 71 = .ok (.getfield 29, 3) := by decide +kernel
theorem dX11_bind_74 : decode cX11_bind 74 = .ok (.getfield 156, 3) := by decide +kernel
theorem dX11_bind_77 : decode cX11_bind 77 = .ok (.getfield 167, 3) := by decide +kernel
theorem dX11_bind_80 : decode cX11_bind 80 = .ok (.bipush 7, 2) := by decide +kernel
theorem dX11_bind_82 : decode cX11_bind 82 = .ok (.iload_n 1, 1) := by decide +kernel
theorem dX11_bind_83 : decode cX11_bind 83 = .ok (.iadd, 1) := by decide +kernel
theorem dX11_bind_84 : decode cX11_bind 84 = .ok (.iload_n 2, 1) := by decide +kernel
theorem dX11_bind_85 : decode cX11_bind 85 = .ok (.iastore, 1) := by decide +kernel
theorem dX11_bind_86 : decode cX11_bind 86 = .ok (.aload_n 0, 1) := by decide +kernel
theorem dX11_bind_87 : decode cX11_bind 87 = .ok (.getfield 29, 3) := by decide +kernel
theorem dX11_bind_90 : decode cX11_bind 90 = .ok (.invokevirtual 305, 3) := by decide +kernel
theorem dX11_bind_93 : decode cX11_bind 93 = .ok (.iload_n 3, 1) := by decide +kernel
theorem dX11_bind_94 : decode cX11_bind 94 = .ok (.ireturn, 1) := by decide +kernel
theorem dX11_apply_0 : decode cX11_apply 0 = .ok (.aload_n 0, 1) := by decide +kernel
theorem dX11_apply_1 : decode cX11_apply 1 = .ok (.getfield 29, 3) := by decide +kernel
theorem dX11_apply_4 : decode cX11_apply 4 = .ok (.getfield 49, 3) := by decide +kernel
theorem dX11_apply_7 : decode cX11_apply 7 = .ok (.iload_n 1, 1) := by decide +kernel
theorem dX11_apply_8 : decode cX11_apply 8 = .ok (.invokevirtual 304, 3) := by decide +kernel
theorem dX11_apply_11 : decode cX11_apply 11 = .ok (.ifCond .ne 10, 3) := by decide +kernel
theorem dX11_apply_14 : decode cX11_apply 14 = .ok (.aload_n 0, 1) := by decide +kernel
theorem dX11_apply_15 : decode cX11_apply 15 = .ok (.iconst 1, 1) := by decide +kernel
theorem dX11_apply_16 : decode cX11_apply 16 = .ok (.iconst (-1), 1) := by decide +kernel
theorem dX11_apply_17 : decode cX11_apply 17 = .ok (.invokevirtual 284, 3) := by decide +kernel
theorem dX11_apply_20 : decode cX11_apply 20 = .ok (.ireturn, 1) := by decide +kernel
theorem dX11_apply_21 : decode cX11_apply 21 = .ok (.aload_n 0, 1) := by decide +kernel
theorem dX11_apply_22 : decode cX11_apply 22 = .ok (.getfield 29, 3) := by decide +kernel
theorem dX11_apply_25 : decode cX11_apply 25 = .ok (.invokevirtual 287, 3) := by decide +kernel
theorem dX11_apply_28 : decode cX11_apply 28 = .ok (.aload_n 0, 1) := by decide +kernel
theorem dX11_apply_29 : decode cX11_apply 29 = .ok (.aload_n 0, 1) := by decide +kernel
theorem dX11_apply_30 : decode cX11_apply 30 = .ok (.getfield 62, 3) := by decide +kernel
theorem dX11_apply_33 : decode cX11_apply 33 = .ok (.iload_n 1, 1) := by decide +kernel
theorem dX11_apply_34 : decode cX11_apply 34 = .ok (.aload_n 0, 1) := by decide +kernel
theorem dX11_apply_35 : decode cX11_apply 35 = .ok (.getfield 29, 3) := by decide +kernel
theorem dX11_apply_38 : decode cX11_apply 38 = .ok (.getfield 156, 3) := by decide +kernel
theorem dX11_apply_41 : decode cX11_apply 41 = .ok (.getfield 167, 3) := by decide +kernel
theorem dX11_apply_44 : decode cX11_apply 44 = .ok (.bipush 7, 2) := by decide +kernel
theorem dX11_apply_46 : decode cX11_apply 46 = .ok (.invokevirtual 308, 3) := by decide +kernel
theorem dX11_apply_49 : decode cX11_apply 49 = .ok (.invokevirtual 293, 3) := by decide +kernel
theorem dX11_apply_52 : decode cX11_apply 52 = .ok (.ireturn, 1) := by decide +kernel
theorem dX11_close_0 : decode cX11_close 0 = .ok (.aload_n 0, 1) := by decide +kernel
theorem dX11_close_1 : decode cX11_close 1 = .ok (.getfield 29, 3) := by decide +kernel
theorem dX11_close_4 : decode cX11_close 4 = .ok (.getfield 49, 3) := by decide +kernel
theorem dX11_close_7 : decode cX11_close 7 = .ok (.iload_n 1, 1) := by decide +kernel
theorem dX11_close_8 : decode cX11_close 8 = .ok (.invokevirtual 304, 3) := by decide +kernel
theorem dX11_close_11 : decode cX11_close 11 = .ok (.ifCond .ne 10, 3) := by decide +kernel
theorem dX11_close_14 : decode cX11_close 14 = .ok (.aload_n 0, 1) := by decide +kernel
theorem dX11_close_15 : decode cX11_close 15 = .ok (.iconst 1, 1) := by decide +kernel
theorem dX11_close_16 : decode cX11_close 16 = .ok (.iconst (-1), 1) := by decide +kernel
theorem dX11_close_17 : decode cX11_close 17 = .ok (.invokevirtual 284, 3) := by decide +kernel
theorem dX11_close_20 : decode cX11_close 20 = .ok (.ireturn, 1) := by decide +kernel
theorem dX11_close_21 : decode cX11_close 21 = .ok (.aload_n 0, 1) := by decide +kernel
theorem dX11_close_22 : decode cX11_close 22 = .ok (.getfield 62, 3) := by decide +kernel
theorem dX11_close_25 : decode cX11_close 25 = .ok (.iload_n 1, 1) := by decide +kernel
theorem dX11_close_26 : decode cX11_close 26 = .ok (.aload_n 0, 1) := by decide +kernel
theorem dX11_close_27 : decode cX11_close 27 = .ok (.getfield 29, 3) := by decide +kernel
theorem dX11_close_30 : decode cX11_close 30 = .ok (.getfield 156, 3) := by decide +kernel
theorem dX11_close_33 : decode cX11_close 33 = .ok (.getfield 167, 3) := by decide +kernel
theorem dX11_close_36 : decode cX11_close 36 = .ok (.bipush 7, 2) := by decide +kernel
theorem dX11_close_38 : decode cX11_close 38 = .ok (.invokevirtual 312, 3) := by decide +kernel
theorem dX11_close_41 : decode cX11_close 41 = .ok (.ifCond .eq 11, 3) := by decide +kernel
theorem dX11_close_44 : decode cX11_close 44 = .ok (.aload_n 0, 1) := by decide +kernel
theorem dX11_close_45 : decode cX11_close 45 = .ok (.iconst 3, 1) := by decide +kernel
theorem dX11_close_46 : decode cX11_close 46 = .ok (.bipush (-2), 2) := by decide +kernel
theorem dX11_close_48 : decode cX11_close 48 = .ok (.invokevirtual 284, 3) := by decide +kernel
theorem dX11_close_51 : decode cX11_close 51 = .ok (.ireturn, 1) := by decide +kernel
theorem dX11_close_52 : decode cX11_close 52 = .ok (.aload_n 0, 1) := by decide +kernel
theorem dX11_close_53 : decode cX11_close 53 = .ok (.getfield 29, 3) := by decide +kernel
theorem dX11_close_56 : decode cX11_close 56 = .ok (.invokevirtual 287, 3) := by decide +kernel
theorem dX11_close_59 : decode cX11_close 59 = .ok (.aload_n 0, 1) := by decide +kernel
theorem dX11_close_60 : decode cX11_close 60 = .ok (.aload_n 0, 1) := by decide +kernel
theorem dX11_close_61 : decode cX11_close 61 = .ok (.getfield 62, 3) := by decide +kernel
theorem dX11_close_64 : decode cX11_close 64 = .ok (.iload_n 1, 1) := by decide +kernel
theorem dX11_close_65 : decode cX11_close 65 = .ok (.aload_n 0, 1) := by decide +kernel
theorem dX11_close_66 : decode cX11_close 66 = .ok (.getfield 29, 3) := by decide +kernel
theorem dX11_close_69 : decode cX11_close 69 = .ok (.getfield 156, 3) := by decide +kernel
theorem dX11_close_72 : decode cX11_close 72 = .ok (.getfield 167, 3) := by decide +kernel
theorem dX11_close_75 : decode cX11_close 75 = .ok (.bipush 7, 2) := by decide +kernel
theorem dX11_close_77 : decode cX11_close 77 = .ok (.invokevirtual 316, 3) := by decide +kernel
theorem dX11_close_80 : decode cX11_close 80 = .ok (.invokevirtual 293, 3) := by decide +kernel
theorem dX11_close_83 : decode cX11_close 83 = .ok (.ireturn, 1) := by decide +kernel
theorem dX11_unify_0 : decode cX11_unify 0 = .ok (.aload_n 0, 1) := by decide +kernel
theorem dX11_unify_1 : decode cX11_unify 1 = .ok (.getfield 29, 3) := by decide +kernel
theorem dX11_unify_4 : decode cX11_unify 4 = .ok (.getfield 49, 3) := by decide +kernel
theorem dX11_unify_7 : decode cX11_unify 7 = .ok (.iload_n 1, 1) := by decide +kernel
theorem dX11_unify_8 : decode cX11_unify 8 = .ok (.invokevirtual 304, 3) := by decide +kernel
theorem dX11_unify_11 : decode cX11_unify 11 = .ok (.ifCond .eq 17, 3) := by decide +kernel
theorem dX11_unify_14 : decode cX11_unify 14 = .ok (.aload_n 0, 1) := by decide +kernel
theorem dX11_unify_15 : decode cX11_unify 15 = .ok (.getfield 29, 3) := by decide +kernel
theorem dX11_unify_18 : decode cX11_unify 18 = .ok (.getfield 49, 3) := by decide +kernel
theorem dX11_unify_21 : decode cX11_unify 21 = .ok (.iload_n 2, 1) := by decide +kernel
theorem dX11_unify_22 : decode cX11_unify 22 = .ok (.invokevirtual 304, 3) := by decide +kernel
theorem dX11_unify_25 : decode cX11_unify 25 = .ok (.ifCond .ne 10, 3) := by decide +kernel
theorem dX11_unify_28 : decode cX11_unify 28 = .ok (.aload_n 0, 1) := by decide +kernel
theorem dX11_unify_29 : decode cX11_unify 29 = .ok (.iconst 1, 1) := by decide +kernel
theorem dX11_unify_30 : decode cX11_unify 30 = .ok (.iconst (-1), 1) := by decide +kernel
theorem dX11_unify_31 : decode cX11_unify 31 = .ok (.invokevirtual 284, 3) := by decide +kernel
theorem dX11_unify_34 : decode cX11_unify 34 = .ok (.ireturn, 1) := by decide +kernel
theorem dX11_unify_35 : decode cX11_unify 35 = .ok (.aload_n 0, 1) := by decide +kernel
theorem dX11_unify_36 : decode cX11_unify 36 = .ok (.getfield 69, 3) := by decide +kernel
theorem dX11_unify_39 : decode cX11_unify 39 = .ok (.iload_n 1, 1) := by decide +kernel
theorem dX11_unify_40 : decode cX11_unify 40 = .ok (.iload_n 2, 1) := by decide +kernel
theorem dX11_unify_41 : decode cX11_unify 41 = .ok (.iconst 0, 1) := by decide +kernel
theorem dX11_unify_42 : decode cX11_unify 42 = .ok (.invokevirtual 319, 3) := by decide +kernel
theorem dX11_unify_45 : decode cX11_unify 45 = .ok (.istore_n 3, 1) := by decide +kernel
theorem dX11_unify_46 : decode cX11_unify 46 = .ok (.iload_n 3, 1) := by decide +kernel
