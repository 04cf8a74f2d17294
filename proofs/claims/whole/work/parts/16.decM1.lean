theorem d_M_takes_210 : decode b_M_takes 210 = .ok (.iadd, 1) := by decide +kernel
theorem d_M_takes_211 : decode b_M_takes 211 = .ok (.iload 9, 2) := by decide +kernel
theorem d_M_takes_213 : decode b_M_takes 213 = .ok (.sipush 10000, 3) := by decide +kernel
theorem d_M_takes_216 : decode b_M_takes 216 = .ok (.irem, 1) := by decide +kernel
theorem d_M_takes_217 : decode b_M_takes 217 = .ok (.iastore, 1) := by decide +kernel
theorem d_M_takes_218 : decode b_M_takes 218 = .ok (.iload 9, 2) := by decide +kernel
theorem d_M_takes_220 : decode b_M_takes 220 = .ok (.sipush 10000, 3) := by decide +kernel
theorem d_M_takes_223 : decode b_M_takes 223 = .ok (.idiv, 1) := by decide +kernel
theorem d_M_takes_224 : decode b_M_takes 224 = .ok (.istore 7, 2) := by decide +kernel
theorem d_M_takes_226 : decode b_M_takes 226 = .ok (.iinc 8 1, 3) := by decide +kernel
theorem d_M_takes_229 : decode b_M_takes 229 = .ok (.goto (-87), 3) := by decide +kernel
theorem d_M_takes_232 : decode b_M_takes 232 = .ok (.iconst 0, 1) := by decide +kernel
theorem d_M_takes_233 : decode b_M_takes 233 = .ok (.ireturn, 1) := by decide +kernel
theorem d_M_divideBy_0 : decode b_M_divideBy 0 = .ok (.aload_n 0, 1) := by decide +kernel
theorem d_M_divideBy_1 : decode b_M_divideBy 1 = .ok (.getfield 13, 3) := by decide +kernel
theorem d_M_divideBy_4 : decode b_M_divideBy 4 = .ok (.iload_n 3, 1) := by decide +kernel
theorem d_M_divideBy_5 : decode b_M_divideBy 5 = .ok (.iaload, 1) := by decide +kernel
theorem d_M_divideBy_6 : decode b_M_divideBy 6 = .ok (.istore 4, 2) := by decide +kernel
theorem d_M_divideBy_8 : decode b_M_divideBy 8 = .ok (.aload_n 0, 1) := by decide +kernel
theorem d_M_divideBy_9 : decode b_M_divideBy 9 = .ok (.getfield 13, 3) := by decide +kernel
theorem d_M_divideBy_12 : decode b_M_divideBy 12 = .ok (.iload_n 2, 1) := by decide +kernel
theorem d_M_divideBy_13 : decode b_M_divideBy 13 = .ok (.iaload, 1) := by decide +kernel
theorem d_M_divideBy_14 : decode b_M_divideBy 14 = .ok (.istore 5, 2) := by decide +kernel
theorem d_M_divideBy_16 : decode b_M_divideBy 16 = .ok (.iload 5, 2) := by decide +kernel
theorem d_M_divideBy_18 : decode b_M_divideBy 18 = .ok (.iload 4, 2) := by decide +kernel
theorem d_M_divideBy_20 : decode b_M_divideBy 20 = .ok (.if_icmp .ge 11, 3) := by decide +kernel
theorem d_M_divideBy_23 : decode b_M_divideBy 23 = .ok (.aload_n 0, 1) := by decide +kernel
theorem d_M_divideBy_24 : decode b_M_divideBy 24 = .ok (.getfield 13, 3) := by decide +kernel
theorem d_M_divideBy_27 : decode b_M_divideBy 27 = .ok (.iload_n 1, 1) := by decide +kernel
theorem d_M_divideBy_28 : decode b_M_divideBy 28 = .ok (.iconst 0, 1) := by decide +kernel
theorem d_M_divideBy_29 : decode b_M_divideBy 29 = .ok (.iastore, 1) := by decide +kernel
theorem d_M_divideBy_30 : decode b_M_divideBy 30 = .ok (.return_, 1) := by decide +kernel
theorem d_M_divideBy_31 : decode b_M_divideBy 31 = .ok (.aload_n 0, 1) := by decide +kernel
theorem d_M_divideBy_32 : decode b_M_divideBy 32 = .ok (.getfield 7, 3) := by decide +kernel
theorem d_M_divideBy_35 : decode b_M_divideBy 35 = .ok (.sipush 3200, 3) := by decide +kernel
theorem d_M_divideBy_38 : decode b_M_divideBy 38 = .ok (.iload_n 2, 1) := by decide +kernel
theorem d_M_divideBy_39 : decode b_M_divideBy 39 = .ok (.imul, 1) := by decide +kernel
theorem d_M_divideBy_40 : decode b_M_divideBy 40 = .ok (.iload 5, 2) := by decide +kernel
theorem d_M_divideBy_42 : decode b_M_divideBy 42 = .ok (.iadd, 1) := by decide +kernel
theorem d_M_divideBy_43 : decode b_M_divideBy 43 = .ok (.iconst 0, 1) := by decide +kernel
theorem d_M_divideBy_44 : decode b_M_divideBy 44 = .ok (.iastore, 1) := by decide +kernel
theorem d_M_divideBy_45 : decode b_M_divideBy 45 = .ok (.aload_n 0, 1) := by decide +kernel
theorem d_M_divideBy_46 : decode b_M_divideBy 46 = .ok (.getfield 7, 3) := by decide +kernel
theorem d_M_divideBy_49 : decode b_M_divideBy 49 = .ok (.sipush 3200, 3) := by decide +kernel
theorem d_M_divideBy_52 : decode b_M_divideBy 52 = .ok (.iload_n 3, 1) := by decide +kernel
theorem d_M_divideBy_53 : decode b_M_divideBy 53 = .ok (.imul, 1) := by decide +kernel
theorem d_M_divideBy_54 : decode b_M_divideBy 54 = .ok (.iload 4, 2) := by decide +kernel
theorem d_M_divideBy_56 : decode b_M_divideBy 56 = .ok (.iadd, 1) := by decide +kernel
theorem d_M_divideBy_57 : decode b_M_divideBy 57 = .ok (.iconst 1, 1) := by decide +kernel
theorem d_M_divideBy_58 : decode b_M_divideBy 58 = .ok (.isub, 1) := by decide +kernel
theorem d_M_divideBy_59 : decode b_M_divideBy 59 = .ok (.iaload, 1) := by decide +kernel
theorem d_M_divideBy_60 : decode b_M_divideBy 60 = .ok (.i2l, 1) := by decide +kernel
theorem d_M_divideBy_61 : decode b_M_divideBy 61 = .ok (.ldc2_w 50, 3) := by decide +kernel
theorem d_M_divideBy_64 : decode b_M_divideBy 64 = .ok (.lmul, 1) := by decide +kernel
theorem d_M_divideBy_65 : decode b_M_divideBy 65 = .ok (.iload 4, 2) := by decide +kernel
theorem d_M_divideBy_67 : decode b_M_divideBy 67 = .ok (.iconst 1, 1) := by decide +kernel
theorem d_M_divideBy_68 : decode b_M_divideBy 68 = .ok (.if_icmp .le 26, 3) := by decide +kernel
theorem d_M_divideBy_71 : decode b_M_divideBy 71 = .ok (.aload_n 0, 1) := by decide +kernel
theorem d_M_divideBy_72 : decode b_M_divideBy 72 = .ok (.getfield 7, 3) := by decide +kernel
theorem d_M_divideBy_75 : decode b_M_divideBy 75 = .ok (.sipush 3200, 3) := by decide +kernel
theorem d_M_divideBy_78 : decode b_M_divideBy 78 = .ok (.iload_n 3, 1) := by decide +kernel
theorem d_M_divideBy_79 : decode b_M_divideBy 79 = .ok (.imul, 1) := by decide +kernel
theorem d_M_divideBy_80 : decode b_M_divideBy 80 = .ok (.iload 4, 2) := by decide +kernel
theorem d_M_divideBy_82 : decode b_M_divideBy 82 = .ok (.iadd, 1) := by decide +kernel
theorem d_M_divideBy_83 : decode b_M_divideBy 83 = .ok (.iconst 2, 1) := by decide +kernel
theorem d_M_divideBy_84 : decode b_M_divideBy 84 = .ok (.isub, 1) := by decide +kernel
theorem d_M_divideBy_85 : decode b_M_divideBy 85 = .ok (.iaload, 1) := by decide +kernel
theorem d_M_divideBy_86 : decode b_M_divideBy 86 = .ok (.i2l, 1) := by decide +kernel
theorem d_M_divideBy_87 : decode b_M_divideBy 87 = .ok (.ldc2_w 40, 3) := by decide +kernel
theorem d_M_divideBy_90 : decode b_M_divideBy 90 = .ok (.lmul, 1) := by decide +kernel
theorem d_M_divideBy_91 : decode b_M_divideBy 91 = .ok (.goto 4, 3) := by decide +kernel
theorem d_M_divideBy_94 : decode b_M_divideBy 94 = .ok (.lconst 0, 1) := by decide +kernel
theorem d_M_divideBy_95 : decode b_M_divideBy 95 = .ok (.ladd, 1) := by decide +kernel
theorem d_M_divideBy_96 : decode b_M_divideBy 96 = .ok (.iload 4, 2) := by decide +kernel
theorem d_M_divideBy_98 : decode b_M_divideBy 98 = .ok (.iconst 2, 1) := by decide +kernel
theorem d_M_divideBy_99 : decode b_M_divideBy 99 = .ok (.if_icmp .le 22, 3) := by decide +kernel
theorem d_M_divideBy_102 : decode b_M_divideBy 102 = .ok (.aload_n 0, 1) := by decide +kernel
theorem d_M_divideBy_103 : decode b_M_divideBy 103 = .ok (.getfield 7, 3) := by decide +kernel
theorem d_M_divideBy_106 : decode b_M_divideBy 106 = .ok (.sipush 3200, 3) := by decide +kernel
theorem d_M_divideBy_109 : decode b_M_divideBy 109 = .ok (.iload_n 3, 1) := by decide +kernel
theorem d_M_divideBy_110 : decode b_M_divideBy 110 = .ok (.imul, 1) := by decide +kernel
theorem d_M_divideBy_111 : decode b_M_divideBy 111 = .ok (.iload 4, 2) := by decide +kernel
theorem d_M_divideBy_113 : decode b_M_divideBy 113 = .ok (.iadd, 1) := by decide +kernel
theorem d_M_divideBy_114 : decode b_M_divideBy 114 = .ok (.iconst 3, 1) := by decide +kernel
theorem d_M_divideBy_115 : decode b_M_divideBy 115 = .ok (.isub, 1) := by decide +kernel
theorem d_M_divideBy_116 : decode b_M_divideBy 116 = .ok (.iaload, 1) := by decide +kernel
theorem d_M_divideBy_117 : decode b_M_divideBy 117 = .ok (.i2l, 1) := by decide +kernel
theorem d_M_divideBy_118 : decode b_M_divideBy 118 = .ok (.goto 4, 3) := by decide +kernel
theorem d_M_divideBy_121 : decode b_M_divideBy 121 = .ok (.lconst 0, 1) := by decide +kernel
theorem d_M_divideBy_122 : decode b_M_divideBy 122 = .ok (.ladd, 1) := by decide +kernel
theorem d_M_divideBy_123 : decode b_M_divideBy 123 = .ok (.lstore 6, 2) := by decide +kernel
theorem d_M_divideBy_125 : decode b_M_divideBy 125 = .ok (.iload 5, 2) := by decide +kernel
theorem d_M_divideBy_127 : decode b_M_divideBy 127 = .ok (.iload 4, 2) := by decide +kernel
theorem d_M_divideBy_129 : decode b_M_divideBy 129 = .ok (.isub, 1) := by decide +kernel
theorem d_M_divideBy_130 : decode b_M_divideBy 130 = .ok (.istore 8, 2) := by decide +kernel
theorem d_M_divideBy_132 : decode b_M_divideBy 132 = .ok (.iload 8, 2) := by decide +kernel
theorem d_M_divideBy_134 : decode b_M_divideBy 134 = .ok (.ifCond .lt 180, 3) := by decide +kernel
theorem d_M_divideBy_137 : decode b_M_divideBy 137 = .ok (.aload_n 0, 1) := by decide +kernel
theorem d_M_divideBy_138 : decode b_M_divideBy 138 = .ok (.getfield 7, 3) := by decide +kernel
theorem d_M_divideBy_141 : decode b_M_divideBy 141 = .ok (.sipush 3200, 3) := by decide +kernel
theorem d_M_divideBy_144 : decode b_M_divideBy 144 = .ok (.iload_n 2, 1) := by decide +kernel
theorem d_M_divideBy_145 : decode b_M_divideBy 145 = .ok (.imul, 1) := by decide +kernel
theorem d_M_divideBy_146 : decode b_M_divideBy 146 = .ok (.iload 8, 2) := by decide +kernel
theorem d_M_divideBy_148 : decode b_M_divideBy 148 = .ok (.iadd, 1) := by decide +kernel
theorem d_M_divideBy_149 : decode b_M_divideBy 149 = .ok (.iload 4, 2) := by decide +kernel
theorem d_M_divideBy_151 : decode b_M_divideBy 151 = .ok (.iadd, 1) := by decide +kernel
theorem d_M_divideBy_152 : decode b_M_divideBy 152 = .ok (.iaload, 1) := by decide +kernel
theorem d_M_divideBy_153 : decode b_M_divideBy 153 = .ok (.i2l, 1) := by decide +kernel
theorem d_M_divideBy_154 : decode b_M_divideBy 154 = .ok (.ldc2_w 52, 3) := by decide +kernel
theorem d_M_divideBy_157 : decode b_M_divideBy 157 = .ok (.lmul, 1) := by decide +kernel
theorem d_M_divideBy_158 : decode b_M_divideBy 158 = .ok (.aload_n 0, 1) := by decide +kernel
theorem d_M_divideBy_159 : decode b_M_divideBy 159 = .ok (.getfield 7, 3) := by decide +kernel
theorem d_M_divideBy_162 : decode b_M_divideBy 162 = .ok (.sipush 3200, 3) := by decide +kernel
theorem d_M_divideBy_165 : decode b_M_divideBy 165 = .ok (.iload_n 2, 1) := by decide +kernel
theorem d_M_divideBy_166 : decode b_M_divideBy 166 = .ok (.imul, 1) := by decide +kernel
theorem d_M_divideBy_167 : decode b_M_divideBy 167 = .ok (.iload 8, 2) := by decide +kernel
theorem d_M_divideBy_169 : decode b_M_divideBy 169 = .ok (.iadd, 1) := by decide +kernel
theorem d_M_divideBy_170 : decode b_M_divideBy 170 = .ok (.iload 4, 2) := by decide +kernel
theorem d_M_divideBy_172 : decode b_M_divideBy 172 = .ok (.iadd, 1) := by decide +kernel
theorem d_M_divideBy_173 : decode b_M_divideBy 173 = .ok (.iconst 1, 1) := by decide +kernel
theorem d_M_divideBy_174 : decode b_M_divideBy 174 = .ok (.isub, 1) := by decide +kernel
theorem d_M_divideBy_175 : decode b_M_divideBy 175 = .ok (.iaload, 1) := by decide +kernel
theorem d_M_divideBy_176 : decode b_M_divideBy 176 = .ok (.i2l, 1) := by decide +kernel
theorem d_M_divideBy_177 : decode b_M_divideBy 177 = .ok (.ldc2_w 50, 3) := by decide +kernel
theorem d_M_divideBy_180 : decode b_M_divideBy 180 = .ok (.lmul, 1) := by decide +kernel
theorem d_M_divideBy_181 : decode b_M_divideBy 181 = .ok (.ladd, 1) := by decide +kernel
theorem d_M_divideBy_182 : decode b_M_divideBy 182 = .ok (.iload 4, 2) := by decide +kernel
theorem d_M_divideBy_184 : decode b_M_divideBy 184 = .ok (.iconst 1, 1) := by decide +kernel
theorem d_M_divideBy_185 : decode b_M_divideBy 185 = .ok (.if_icmp .le 29, 3) := by decide +kernel
theorem d_M_divideBy_188 : decode b_M_divideBy 188 = .ok (.aload_n 0, 1) := by decide +kernel
theorem d_M_divideBy_189 : decode b_M_divideBy 189 = .ok (.getfield 7, 3) := by decide +kernel
theorem d_M_divideBy_192 : decode b_M_divideBy 192 = .ok (.sipush 3200, 3) := by decide +kernel
theorem d_M_divideBy_195 : decode b_M_divideBy 195 = .ok (.iload_n 2, 1) := by decide +kernel
theorem d_M_divideBy_196 : decode b_M_divideBy 196 = .ok (.imul, 1) := by decide +kernel
theorem d_M_divideBy_197 : decode b_M_divideBy 197 = .ok (.iload 8, 2) := by decide +kernel
theorem d_M_divideBy_199 : decode b_M_divideBy 199 = .ok (.iadd, 1) := by decide +kernel
theorem d_M_divideBy_200 : decode b_M_divideBy 200 = .ok (.iload 4, 2) := by decide +kernel
theorem d_M_divideBy_202 : decode b_M_divideBy 202 = .ok (.iadd, 1) := by decide +kernel
theorem d_M_divideBy_203 : decode b_M_divideBy 203 = .ok (.iconst 2, 1) := by decide +kernel
theorem d_M_divideBy_204 : decode b_M_divideBy 204 = .ok (.isub, 1) := by decide +kernel
theorem d_M_divideBy_205 : decode b_M_divideBy 205 = .ok (.iaload, 1) := by decide +kernel
theorem d_M_divideBy_206 : decode b_M_divideBy 206 = .ok (.i2l, 1) := by decide +kernel
theorem d_M_divideBy_207 : decode b_M_divideBy 207 = .ok (.ldc2_w 40, 3) := by decide +kernel
theorem d_M_divideBy_210 : decode b_M_divideBy 210 = .ok (.lmul, 1) := by decide +kernel
theorem d_M_divideBy_211 : decode b_M_divideBy 211 = .ok (.goto 4, 3) := by decide +kernel
theorem d_M_divideBy_214 : decode b_M_divideBy 214 = .ok (.lconst 0, 1) := by decide +kernel
theorem d_M_divideBy_215 : decode b_M_divideBy 215 = .ok (.ladd, 1) := by decide +kernel
theorem d_M_divideBy_216 : decode b_M_divideBy 216 = .ok (.iload 4, 2) := by decide +kernel
theorem d_M_divideBy_218 : decode b_M_divideBy 218 = .ok (.iconst 2, 1) := by decide +kernel
theorem d_M_divideBy_219 : decode b_M_divideBy 219 = .ok (.if_icmp .le 25, 3) := by decide +kernel
theorem d_M_divideBy_222 : decode b_M_divideBy 222 = .ok (.aload_n 0, 1) := by decide +kernel
theorem d_M_divideBy_223 : decode b_M_divideBy 223 = .ok (.getfield 7, 3) := by decide +kernel
theorem d_M_divideBy_226 : decode b_M_divideBy 226 = .ok (.sipush 3200, 3) := by decide +kernel
theorem d_M_divideBy_229 : decode b_M_divideBy 229 = .ok (.iload_n 2, 1) := by decide +kernel
theorem d_M_divideBy_230 : decode b_M_divideBy 230 = .ok (.imul, 1) := by decide +kernel
theorem d_M_divideBy_231 : decode b_M_divideBy 231 = .ok (.iload 8, 2) := by decide +kernel
theorem d_M_divideBy_233 : decode b_M_divideBy 233 = .ok (.iadd, 1) := by decide +kernel
theorem d_M_divideBy_234 : decode b_M_divideBy 234 = .ok (.iload 4, 2) := by decide +kernel
theorem d_M_divideBy_236 : decode b_M_divideBy 236 = .ok (.iadd, 1) := by decide +kernel
theorem d_M_divideBy_237 : decode b_M_divideBy 237 = .ok (.iconst 3, 1) := by decide +kernel
theorem d_M_divideBy_238 : decode b_M_divideBy 238 = .ok (.isub, 1) := by decide +kernel
theorem d_M_divideBy_239 : decode b_M_divideBy 239 = .ok (.iaload, 1) := by decide +kernel
theorem d_M_divideBy_240 : decode b_M_divideBy 240 = .ok (.i2l, 1) := by decide +kernel
theorem d_M_divideBy_241 : decode b_M_divideBy 241 = .ok (.goto 4, 3) := by decide +kernel
theorem d_M_divideBy_244 : decode b_M_divideBy 244 = .ok (.lconst 0, 1) := by decide +kernel
theorem d_M_divideBy_245 : decode b_M_divideBy 245 = .ok (.ladd, 1) := by decide +kernel
theorem d_M_divideBy_246 : decode b_M_divideBy 246 = .ok (.lstore 9, 2) := by decide +kernel
theorem d_M_divideBy_248 : decode b_M_divideBy 248 = .ok (.lload 9, 2) := by decide +kernel
theorem d_M_divideBy_250 : decode b_M_divideBy 250 = .ok (.lload 6, 2) := by decide +kernel
theorem d_M_divideBy_252 : decode b_M_divideBy 252 = .ok (.ldiv, 1) := by decide +kernel
theorem d_M_divideBy_253 : decode b_M_divideBy 253 = .ok (.l2i, 1) := by decide +kernel
theorem d_M_divideBy_254 : decode b_M_divideBy 254 = .ok (.istore 11, 2) := by decide +kernel
theorem d_M_divideBy_256 : decode b_M_divideBy 256 = .ok (.iload 11, 2) := by decide +kernel
theorem d_M_divideBy_258 : decode b_M_divideBy 258 = .ok (.sipush 10000, 3) := by decide +kernel
theorem d_M_divideBy_261 : decode b_M_divideBy 261 = .ok (.if_icmp .lt 9, 3) := by decide +kernel
theorem d_M_divideBy_264 : decode b_M_divideBy 264 = .ok (.sipush 9999, 3) := by decide +kernel
theorem d_M_divideBy_267 : decode b_M_divideBy 267 = .ok (.goto 5, 3) := by decide +kernel
theorem d_M_divideBy_270 : decode b_M_divideBy 270 = .ok (.iload 11, 2) := by decide +kernel
theorem d_M_divideBy_272 : decode b_M_divideBy 272 = .ok (.istore 11, 2) := by decide +kernel
theorem d_M_divideBy_274 : decode b_M_divideBy 274 = .ok (.aload_n 0, 1) := by decide +kernel
theorem d_M_divideBy_275 : decode b_M_divideBy 275 = .ok (.iload_n 2, 1) := by decide +kernel
theorem d_M_divideBy_276 : decode b_M_divideBy 276 = .ok (.iload_n 3, 1) := by decide +kernel
theorem d_M_divideBy_277 : decode b_M_divideBy 277 = .ok (.iload 8, 2) := by decide +kernel
theorem d_M_divideBy_279 : decode b_M_divideBy 279 = .ok (.iload 11, 2) := by decide +kernel
theorem d_M_divideBy_281 : decode b_M_divideBy 281 = .ok (.invokevirtual 54, 3) := by decide +kernel
theorem d_M_divideBy_284 : decode b_M_divideBy 284 = .ok (.ifCond .ne 9, 3) := by decide +kernel
theorem d_M_divideBy_287 : decode b_M_divideBy 287 = .ok (.iinc 11 (-1), 3) := by decide +kernel
theorem d_M_divideBy_290 : decode b_M_divideBy 290 = .ok (.goto (-16), 3) := by decide +kernel
theorem d_M_divideBy_293 : decode b_M_divideBy 293 = .ok (.aload_n 0, 1) := by decide +kernel
theorem d_M_divideBy_294 : decode b_M_divideBy 294 = .ok (.getfield 7, 3) := by decide +kernel
theorem d_M_divideBy_297 : decode b_M_divideBy 297 = .ok (.sipush 3200, 3) := by decide +kernel
theorem d_M_divideBy_300 : decode b_M_divideBy 300 = .ok (.iload_n 1, 1) := by decide +kernel
theorem d_M_divideBy_301 : decode b_M_divideBy 301 = .ok (.imul, 1) := by decide +kernel
theorem d_M_divideBy_302 : decode b_M_divideBy 302 = .ok (.iload 8, 2) := by decide +kernel
theorem d_M_divideBy_304 : decode b_M_divideBy 304 = .ok (.iadd, 1) := by decide +kernel
theorem d_M_divideBy_305 : decode b_M_divideBy 305 = .ok (.iload 11, 2) := by decide +kernel
theorem d_M_divideBy_307 : decode b_M_divideBy 307 = .ok (.iastore, 1) := by decide +kernel
theorem d_M_divideBy_308 : decode b_M_divideBy 308 = .ok (.iinc 8 (-1), 3) := by decide +kernel
theorem d_M_divideBy_311 : decode b_M_divideBy 311 = .ok (.goto (-179), 3) := by decide +kernel
theorem d_M_divideBy_314 : decode b_M_divideBy 314 = .ok (.aload_n 0, 1) := by decide +kernel
theorem d_M_divideBy_315 : decode b_M_divideBy 315 = .ok (.iload_n 1, 1) := by decide +kernel
theorem d_M_divideBy_316 : decode b_M_divideBy 316 = .ok (.iload 5, 2) := by decide +kernel
theorem d_M_divideBy_318 : decode b_M_divideBy 318 = .ok (.iload 4, 2) := by decide +kernel
theorem d_M_divideBy_320 : decode b_M_divideBy 320 = .ok (.isub, 1) := by decide +kernel
theorem d_M_divideBy_321 : decode b_M_divideBy 321 = .ok (.iconst 1, 1) := by decide +kernel
theorem d_M_divideBy_322 : decode b_M_divideBy 322 = .ok (.iadd, 1) := by decide +kernel
theorem d_M_divideBy_323 : decode b_M_divideBy 323 = .ok (.invokevirtual 46, 3) := by decide +kernel
theorem d_M_divideBy_326 : decode b_M_divideBy 326 = .ok (.aload_n 0, 1) := by decide +kernel
theorem d_M_divideBy_327 : decode b_M_divideBy 327 = .ok (.iload_n 2, 1) := by decide +kernel
theorem d_M_divideBy_328 : decode b_M_divideBy 328 = .ok (.iload 4, 2) := by decide +kernel
theorem d_M_divideBy_330 : decode b_M_divideBy 330 = .ok (.invokevirtual 46, 3) := by decide +kernel
theorem d_M_divideBy_333 : decode b_M_divideBy 333 = .ok (.return_, 1) := by decide +kernel
theorem d_M_common_0 : decode b_M_common 0 = .ok (.aload_n 0, 1) := by decide +kernel
theorem d_M_common_1 : decode b_M_common 1 = .ok (.getfield 13, 3) := by decide +kernel
theorem d_M_common_4 : decode b_M_common 4 = .ok (.iload_n 2, 1) := by decide +kernel
theorem d_M_common_5 : decode b_M_common 5 = .ok (.iaload, 1) := by decide +kernel
theorem d_M_common_6 : decode b_M_common 6 = .ok (.ifCond .le 32, 3) := by decide +kernel
theorem d_M_common_9 : decode b_M_common 9 = .ok (.aload_n 0, 1) := by decide +kernel
theorem d_M_common_10 : decode b_M_common 10 = .ok (.bipush 6, 2) := by decide +kernel
theorem d_M_common_12 : decode b_M_common 12 = .ok (.iload_n 1, 1) := by decide +kernel
theorem d_M_common_13 : decode b_M_common 13 = .ok (.iload_n 2, 1) := by decide +kernel
theorem d_M_common_14 : decode b_M_common 14 = .ok (.invokevirtual 58, 3) := by decide +kernel
theorem d_M_common_17 : decode b_M_common 17 = .ok (.aload_n 0, 1) := by decide +kernel
theorem d_M_common_18 : decode b_M_common 18 = .ok (.iconst 5, 1) := by decide +kernel
theorem d_M_common_19 : decode b_M_common 19 = .ok (.iload_n 1, 1) := by decide +kernel
theorem d_M_common_20 : decode b_M_common 20 = .ok (.invokevirtual 62, 3) := by decide +kernel
theorem d_M_common_23 : decode b_M_common 23 = .ok (.aload_n 0, 1) := by decide +kernel
theorem d_M_common_24 : decode b_M_common 24 = .ok (.iload_n 1, 1) := by decide +kernel
theorem d_M_common_25 : decode b_M_common 25 = .ok (.iload_n 2, 1) := by decide +kernel
theorem d_M_common_26 : decode b_M_common 26 = .ok (.invokevirtual 62, 3) := by decide +kernel
theorem d_M_common_29 : decode b_M_common 29 = .ok (.aload_n 0, 1) := by decide +kernel
theorem d_M_common_30 : decode b_M_common 30 = .ok (.iload_n 2, 1) := by decide +kernel
theorem d_M_common_31 : decode b_M_common 31 = .ok (.iconst 5, 1) := by decide +kernel
theorem d_M_common_32 : decode b_M_common 32 = .ok (.invokevirtual 62, 3) := by decide +kernel
theorem d_M_common_35 : decode b_M_common 35 = .ok (.goto (-35), 3) := by decide +kernel
theorem d_M_common_38 : decode b_M_common 38 = .ok (.aload_n 0, 1) := by decide +kernel
theorem d_M_common_39 : decode b_M_common 39 = .ok (.iconst 5, 1) := by decide +kernel
theorem d_M_common_40 : decode b_M_common 40 = .ok (.iload_n 1, 1) := by decide +kernel
theorem d_M_common_41 : decode b_M_common 41 = .ok (.invokevirtual 62, 3) := by decide +kernel
theorem d_M_common_44 : decode b_M_common 44 = .ok (.return_, 1) := by decide +kernel
theorem d_M_parts_0 : decode b_M_parts 0 = .ok (.aload_n 0, 1) := by decide +kernel
theorem d_M_parts_1 : decode b_M_parts 1 = .ok (.iconst 3, 1) := by decide +kernel
theorem d_M_parts_2 : decode b_M_parts 2 = .ok (.iload_n 1, 1) := by decide +kernel
theorem d_M_parts_3 : decode b_M_parts 3 = .ok (.invokevirtual 62, 3) := by decide +kernel
theorem d_M_parts_6 : decode b_M_parts 6 = .ok (.iconst 0, 1) := by decide +kernel
theorem d_M_parts_7 : decode b_M_parts 7 = .ok (.istore_n 2, 1) := by decide +kernel
theorem d_M_parts_8 : decode b_M_parts 8 = .ok (.aload_n 0, 1) := by decide +kernel
theorem d_M_parts_9 : decode b_M_parts 9 = .ok (.getfield 13, 3) := by decide +kernel
theorem d_M_parts_12 : decode b_M_parts 12 = .ok (.iconst 3, 1) := by decide +kernel
theorem d_M_parts_13 : decode b_M_parts 13 = .ok (.iaload, 1) := by decide +kernel
theorem d_M_parts_14 : decode b_M_parts 14 = .ok (.ifCond .le 91, 3) := by decide +kernel
theorem d_M_parts_17 : decode b_M_parts 17 = .ok (.iconst 0, 1) := by decide +kernel
theorem d_M_parts_18 : decode b_M_parts 18 = .ok (.istore_n 3, 1) := by decide +kernel
theorem d_M_parts_19 : decode b_M_parts 19 = .ok (.aload_n 0, 1) := by decide +kernel
theorem d_M_parts_20 : decode b_M_parts 20 = .ok (.getfield 13, 3) := by decide +kernel
theorem d_M_parts_23 : decode b_M_parts 23 = .ok (.iconst 3, 1) := by decide +kernel
theorem d_M_parts_24 : decode b_M_parts 24 = .ok (.iaload, 1) := by decide +kernel
theorem d_M_parts_25 : decode b_M_parts 25 = .ok (.iconst 1, 1) := by decide +kernel
theorem d_M_parts_26 : decode b_M_parts 26 = .ok (.isub, 1) := by decide +kernel
theorem d_M_parts_27 : decode b_M_parts 27 = .ok (.istore 4, 2) := by decide +kernel
theorem d_M_parts_29 : decode b_M_parts 29 = .ok (.iload 4, 2) := by decide +kernel
theorem d_M_parts_31 : decode b_M_parts 31 = .ok (.ifCond .lt 50, 3) := by decide +kernel
theorem d_M_parts_34 : decode b_M_parts 34 = .ok (.iload_n 3, 1) := by decide +kernel
theorem d_M_parts_35 : decode b_M_parts 35 = .ok (.sipush 10000, 3) := by decide +kernel
theorem d_M_parts_38 : decode b_M_parts 38 = .ok (.imul, 1) := by decide +kernel
theorem d_M_parts_39 : decode b_M_parts 39 = .ok (.aload_n 0, 1) := by decide +kernel
theorem d_M_parts_40 : decode b_M_parts 40 = .ok (.getfield 7, 3) := by decide +kernel
theorem d_M_parts_43 : decode b_M_parts 43 = .ok (.sipush 9600, 3) := by decide +kernel
theorem d_M_parts_46 : decode b_M_parts 46 = .ok (.iload 4, 2) := by decide +kernel
theorem d_M_parts_48 : decode b_M_parts 48 = .ok (.iadd, 1) := by decide +kernel
theorem d_M_parts_49 : decode b_M_parts 49 = .ok (.iaload, 1) := by decide +kernel
theorem d_M_parts_50 : decode b_M_parts 50 = .ok (.iadd, 1) := by decide +kernel
theorem d_M_parts_51 : decode b_M_parts 51 = .ok (.istore 5, 2) := by decide +kernel
theorem d_M_parts_53 : decode b_M_parts 53 = .ok (.aload_n 0, 1) := by decide +kernel
theorem d_M_parts_54 : decode b_M_parts 54 = .ok (.getfield 7, 3) := by decide +kernel
theorem d_M_parts_57 : decode b_M_parts 57 = .ok (.sipush 9600, 3) := by decide +kernel
theorem d_M_parts_60 : decode b_M_parts 60 = .ok (.iload 4, 2) := by decide +kernel
theorem d_M_parts_62 : decode b_M_parts 62 = .ok (.iadd, 1) := by decide +kernel
theorem d_M_parts_63 : decode b_M_parts 63 = .ok (.iload 5, 2) := by decide +kernel
theorem d_M_parts_65 : decode b_M_parts 65 = .ok (.ldc 65, 2) := by decide +kernel
theorem d_M_parts_67 : decode b_M_parts 67 = .ok (.idiv, 1) := by decide +kernel
theorem d_M_parts_68 : decode b_M_parts 68 = .ok (.iastore, 1) := by decide +kernel
theorem d_M_parts_69 : decode b_M_parts 69 = .ok (.iload 5, 2) := by decide +kernel
theorem d_M_parts_71 : decode b_M_parts 71 = .ok (.ldc 65, 2) := by decide +kernel
theorem d_M_parts_73 : decode b_M_parts 73 = .ok (.irem, 1) := by decide +kernel
theorem d_M_parts_74 : decode b_M_parts 74 = .ok (.istore_n 3, 1) := by decide +kernel
theorem d_M_parts_75 : decode b_M_parts 75 = .ok (.iinc 4 (-1), 3) := by decide +kernel
theorem d_M_parts_78 : decode b_M_parts 78 = .ok (.goto (-49), 3) := by decide +kernel
theorem d_M_parts_81 : decode b_M_parts 81 = .ok (.aload_n 0, 1) := by decide +kernel
theorem d_M_parts_82 : decode b_M_parts 82 = .ok (.iconst 3, 1) := by decide +kernel
theorem d_M_parts_83 : decode b_M_parts 83 = .ok (.aload_n 0, 1) := by decide +kernel
theorem d_M_parts_84 : decode b_M_parts 84 = .ok (.getfield 13, 3) := by decide +kernel
theorem d_M_parts_87 : decode b_M_parts 87 = .ok (.iconst 3, 1) := by decide +kernel
theorem d_M_parts_88 : decode b_M_parts 88 = .ok (.iaload, 1) := by decide +kernel
theorem d_M_parts_89 : decode b_M_parts 89 = .ok (.invokevirtual 46, 3) := by decide +kernel
theorem d_M_parts_92 : decode b_M_parts 92 = .ok (.aload_n 0, 1) := by decide +kernel
theorem d_M_parts_93 : decode b_M_parts 93 = .ok (.getfield 26, 3) := by decide +kernel
theorem d_M_parts_96 : decode b_M_parts 96 = .ok (.iload_n 2, 1) := by decide +kernel
theorem d_M_parts_97 : decode b_M_parts 97 = .ok (.iload_n 3, 1) := by decide +kernel
theorem d_M_parts_98 : decode b_M_parts 98 = .ok (.iastore, 1) := by decide +kernel
theorem d_M_parts_99 : decode b_M_parts 99 = .ok (.iinc 2 1, 3) := by decide +kernel
theorem d_M_parts_102 : decode b_M_parts 102 = .ok (.goto (-94), 3) := by decide +kernel
theorem d_M_parts_105 : decode b_M_parts 105 = .ok (.iload_n 2, 1) := by decide +kernel
theorem d_M_parts_106 : decode b_M_parts 106 = .ok (.ireturn, 1) := by decide +kernel
theorem d_M_bits_0 : decode b_M_bits 0 = .ok (.aload_n 0, 1) := by decide +kernel
theorem d_M_bits_1 : decode b_M_bits 1 = .ok (.iload_n 1, 1) := by decide +kernel
theorem d_M_bits_2 : decode b_M_bits 2 = .ok (.invokevirtual 66, 3) := by decide +kernel
theorem d_M_bits_5 : decode b_M_bits 5 = .ok (.istore_n 2, 1) := by decide +kernel
theorem d_M_bits_6 : decode b_M_bits 6 = .ok (.iconst 0, 1) := by decide +kernel
theorem d_M_bits_7 : decode b_M_bits 7 = .ok (.istore_n 3, 1) := by decide +kernel
theorem d_M_bits_8 : decode b_M_bits 8 = .ok (.iload_n 2, 1) := by decide +kernel
theorem d_M_bits_9 : decode b_M_bits 9 = .ok (.ifCond .le 22, 3) := by decide +kernel
theorem d_M_bits_12 : decode b_M_bits 12 = .ok (.aload_n 0, 1) := by decide +kernel
theorem d_M_bits_13 : decode b_M_bits 13 = .ok (.getfield 26, 3) := by decide +kernel
theorem d_M_bits_16 : decode b_M_bits 16 = .ok (.iload_n 2, 1) := by decide +kernel
theorem d_M_bits_17 : decode b_M_bits 17 = .ok (.iconst 1, 1) := by decide +kernel
theorem d_M_bits_18 : decode b_M_bits 18 = .ok (.isub, 1) := by decide +kernel
theorem d_M_bits_19 : decode b_M_bits 19 = .ok (.iaload, 1) := by decide +kernel
theorem d_M_bits_20 : decode b_M_bits 20 = .ok (.iload_n 3, 1) := by decide +kernel
theorem d_M_bits_21 : decode b_M_bits 21 = .ok (.ishr, 1) := by decide +kernel
theorem d_M_bits_22 : decode b_M_bits 22 = .ok (.ifCond .le 9, 3) := by decide +kernel
theorem d_M_bits_25 : decode b_M_bits 25 = .ok (.iinc 3 1, 3) := by decide +kernel
theorem d_M_bits_28 : decode b_M_bits 28 = .ok (.goto (-20), 3) := by decide +kernel
theorem d_M_bits_31 : decode b_M_bits 31 = .ok (.iload_n 2, 1) := by decide +kernel
theorem d_M_bits_32 : decode b_M_bits 32 = .ok (.ifCond .ne 7, 3) := by decide +kernel
theorem d_M_bits_35 : decode b_M_bits 35 = .ok (.iconst 0, 1) := by decide +kernel
theorem d_M_bits_36 : decode b_M_bits 36 = .ok (.goto 11, 3) := by decide +kernel
theorem d_M_bits_39 : decode b_M_bits 39 = .ok (.bipush 16, 2) := by decide +kernel
theorem d_M_bits_41 : decode b_M_bits 41 = .ok (.iload_n 2, 1) := by decide +kernel
theorem d_M_bits_42 : decode b_M_bits 42 = .ok (.iconst 1, 1) := by decide +kernel
theorem d_M_bits_43 : decode b_M_bits 43 = .ok (.isub, 1) := by decide +kernel
theorem d_M_bits_44 : decode b_M_bits 44 = .ok (.imul, 1) := by decide +kernel
theorem d_M_bits_45 : decode b_M_bits 45 = .ok (.iload_n 3, 1) := by decide +kernel
theorem d_M_bits_46 : decode b_M_bits 46 = .ok (.iadd, 1) := by decide +kernel
theorem d_M_bits_47 : decode b_M_bits 47 = .ok (.ireturn, 1) := by decide +kernel
theorem d_M_load_0 : decode b_M_load 0 = .ok (.iconst 0, 1) := by decide +kernel
theorem d_M_load_1 : decode b_M_load 1 = .ok (.istore_n 3, 1) := by decide +kernel
theorem d_M_load_2 : decode b_M_load 2 = .ok (.iload_n 3, 1) := by decide +kernel
theorem d_M_load_3 : decode b_M_load 3 = .ok (.aload_n 0, 1) := by decide +kernel
theorem d_M_load_4 : decode b_M_load 4 = .ok (.getfield 20, 3) := by decide +kernel
theorem d_M_load_7 : decode b_M_load 7 = .ok (.iload_n 2, 1) := by decide +kernel
theorem d_M_load_8 : decode b_M_load 8 = .ok (.iaload, 1) := by decide +kernel
theorem d_M_load_9 : decode b_M_load 9 = .ok (.if_icmp .ge 33, 3) := by decide +kernel
theorem d_M_load_12 : decode b_M_load 12 = .ok (.aload_n 0, 1) := by decide +kernel
theorem d_M_load_13 : decode b_M_load 13 = .ok (.getfield 7, 3) := by decide +kernel
theorem d_M_load_16 : decode b_M_load 16 = .ok (.sipush 3200, 3) := by decide +kernel
theorem d_M_load_19 : decode b_M_load 19 = .ok (.iload_n 1, 1) := by decide +kernel
theorem d_M_load_20 : decode b_M_load 20 = .ok (.imul, 1) := by decide +kernel
theorem d_M_load_21 : decode b_M_load 21 = .ok (.iload_n 3, 1) := by decide +kernel
theorem d_M_load_22 : decode b_M_load 22 = .ok (.iadd, 1) := by decide +kernel
theorem d_M_load_23 : decode b_M_load 23 = .ok (.aload_n 0, 1) := by decide +kernel
theorem d_M_load_24 : decode b_M_load 24 = .ok (.getfield 17, 3) := by decide +kernel
theorem d_M_load_27 : decode b_M_load 27 = .ok (.sipush 1520, 3) := by decide +kernel
theorem d_M_load_30 : decode b_M_load 30 = .ok (.iload_n 2, 1) := by decide +kernel
theorem d_M_load_31 : decode b_M_load 31 = .ok (.imul, 1) := by decide +kernel
theorem d_M_load_32 : decode b_M_load 32 = .ok (.iload_n 3, 1) := by decide +kernel
theorem d_M_load_33 : decode b_M_load 33 = .ok (.iadd, 1) := by decide +kernel
theorem d_M_load_34 : decode b_M_load 34 = .ok (.iaload, 1) := by decide +kernel
theorem d_M_load_35 : decode b_M_load 35 = .ok (.iastore, 1) := by decide +kernel
theorem d_M_load_36 : decode b_M_load 36 = .ok (.iinc 3 1, 3) := by decide +kernel
theorem d_M_load_39 : decode b_M_load 39 = .ok (.goto (-37), 3) := by decide +kernel
theorem d_M_load_42 : decode b_M_load 42 = .ok (.aload_n 0, 1) := by decide +kernel
theorem d_M_load_43 : decode b_M_load 43 = .ok (.getfield 13, 3) := by decide +kernel
theorem d_M_load_46 : decode b_M_load 46 = .ok (.iload_n 1, 1) := by decide +kernel
theorem d_M_load_47 : decode b_M_load 47 = .ok (.aload_n 0, 1) := by decide +kernel
theorem d_M_load_48 : decode b_M_load 48 = .ok (.getfield 20, 3) := by decide +kernel
theorem d_M_load_51 : decode b_M_load 51 = .ok (.iload_n 2, 1) := by decide +kernel
theorem d_M_load_52 : decode b_M_load 52 = .ok (.iaload, 1) := by decide +kernel
theorem d_M_load_53 : decode b_M_load 53 = .ok (.iastore, 1) := by decide +kernel
theorem d_M_load_54 : decode b_M_load 54 = .ok (.return_, 1) := by decide +kernel
theorem d_M_put_0 : decode b_M_put 0 = .ok (.aload_n 0, 1) := by decide +kernel
theorem d_M_put_1 : decode b_M_put 1 = .ok (.iload_n 2, 1) := by decide +kernel
theorem d_M_put_2 : decode b_M_put 2 = .ok (.invokevirtual 70, 3) := by decide +kernel
theorem d_M_put_5 : decode b_M_put 5 = .ok (.istore 5, 2) := by decide +kernel
theorem d_M_put_7 : decode b_M_put 7 = .ok (.aload_n 0, 1) := by decide +kernel
theorem d_M_put_8 : decode b_M_put 8 = .ok (.iload 5, 2) := by decide +kernel
theorem d_M_put_10 : decode b_M_put 10 = .ok (.sipush 20000, 3) := by decide +kernel
theorem d_M_put_13 : decode b_M_put 13 = .ok (.if_icmp .le 8, 3) := by decide +kernel
theorem d_M_put_16 : decode b_M_put 16 = .ok (.iload 4, 2) := by decide +kernel
theorem d_M_put_18 : decode b_M_put 18 = .ok (.goto 4, 3) := by decide +kernel
theorem d_M_put_21 : decode b_M_put 21 = .ok (.iconst 0, 1) := by decide +kernel
theorem d_M_put_22 : decode b_M_put 22 = .ok (.invokevirtual 73, 3) := by decide +kernel
theorem d_M_put_25 : decode b_M_put 25 = .ok (.ifCond .eq 5, 3) := by decide +kernel
theorem d_M_put_28 : decode b_M_put 28 = .ok (.iconst 0, 1) := by decide +kernel
theorem d_M_put_29 : decode b_M_put 29 = .ok (.ireturn, 1) := by decide +kernel
theorem d_M_put_30 : decode b_M_put 30 = .ok (.iconst 0, 1) := by decide +kernel
theorem d_M_put_31 : decode b_M_put 31 = .ok (.istore 6, 2) := by decide +kernel
theorem d_M_put_33 : decode b_M_put 33 = .ok (.iload 6, 2) := by decide +kernel
theorem d_M_put_35 : decode b_M_put 35 = .ok (.aload_n 0, 1) := by decide +kernel
theorem d_M_put_36 : decode b_M_put 36 = .ok (.getfield 13, 3) := by decide +kernel
theorem d_M_put_39 : decode b_M_put 39 = .ok (.iload_n 2, 1) := by decide +kernel
theorem d_M_put_40 : decode b_M_put 40 = .ok (.iaload, 1) := by decide +kernel
theorem d_M_put_41 : decode b_M_put 41 = .ok (.if_icmp .ge 35, 3) := by decide +kernel
theorem d_M_put_44 : decode b_M_put 44 = .ok (.aload_n 0, 1) := by decide +kernel
theorem d_M_put_45 : decode b_M_put 45 = .ok (.getfield 17, 3) := by decide +kernel
theorem d_M_put_48 : decode b_M_put 48 = .ok (.sipush 1520, 3) := by decide +kernel
theorem d_M_put_51 : decode b_M_put 51 = .ok (.iload_n 1, 1) := by decide +kernel
theorem d_M_put_52 : decode b_M_put 52 = .ok (.imul, 1) := by decide +kernel
theorem d_M_put_53 : decode b_M_put 53 = .ok (.iload 6, 2) := by decide +kernel
theorem d_M_put_55 : decode b_M_put 55 = .ok (.iadd, 1) := by decide +kernel
theorem d_M_put_56 : decode b_M_put 56 = .ok (.aload_n 0, 1) := by decide +kernel
theorem d_M_put_57 : decode b_M_put 57 = .ok (.getfield 7, 3) := by decide +kernel
theorem d_M_put_60 : decode b_M_put 60 = .ok (.sipush 3200, 3) := by decide +kernel
theorem d_M_put_63 : decode b_M_put 63 = .ok (.iload_n 2, 1) := by decide +kernel
theorem d_M_put_64 : decode b_M_put 64 = .ok (.imul, 1) := by decide +kernel
theorem d_M_put_65 : decode b_M_put 65 = .ok (.iload 6, 2) := by decide +kernel
theorem d_M_put_67 : decode b_M_put 67 = .ok (.iadd, 1) := by decide +kernel
theorem d_M_put_68 : decode b_M_put 68 = .ok (.iaload, 1) := by decide +kernel
theorem d_M_put_69 : decode b_M_put 69 = .ok (.iastore, 1) := by decide +kernel
theorem d_M_put_70 : decode b_M_put 70 = .ok (.iinc 6 1, 3) := by decide +kernel
theorem d_M_put_73 : decode b_M_put 73 = .ok (.goto (-40), 3) := by decide +kernel
theorem d_M_put_76 : decode b_M_put 76 = .ok (.aload_n 0, 1) := by decide +kernel
theorem d_M_put_77 : decode b_M_put 77 = .ok (.getfield 20, 3) := by decide +kernel
theorem d_M_put_80 : decode b_M_put 80 = .ok (.iload_n 1, 1) := by decide +kernel
theorem d_M_put_81 : decode b_M_put 81 = .ok (.aload_n 0, 1) := by decide +kernel
theorem d_M_put_82 : decode b_M_put 82 = .ok (.getfield 13, 3) := by decide +kernel
theorem d_M_put_85 : decode b_M_put 85 = .ok (.iload_n 2, 1) := by decide +kernel
theorem d_M_put_86 : decode b_M_put 86 = .ok (.iaload, 1) := by decide +kernel
theorem d_M_put_87 : decode b_M_put 87 = .ok (.iastore, 1) := by decide +kernel
theorem d_M_put_88 : decode b_M_put 88 = .ok (.aload_n 0, 1) := by decide +kernel
theorem d_M_put_89 : decode b_M_put 89 = .ok (.getfield 23, 3) := by decide +kernel
theorem d_M_put_92 : decode b_M_put 92 = .ok (.iload_n 1, 1) := by decide +kernel
theorem d_M_put_93 : decode b_M_put 93 = .ok (.aload_n 0, 1) := by decide +kernel
theorem d_M_put_94 : decode b_M_put 94 = .ok (.getfield 13, 3) := by decide +kernel
theorem d_M_put_97 : decode b_M_put 97 = .ok (.iload_n 2, 1) := by decide +kernel
theorem d_M_put_98 : decode b_M_put 98 = .ok (.iaload, 1) := by decide +kernel
theorem d_M_put_99 : decode b_M_put 99 = .ok (.ifCond .ne 7, 3) := by decide +kernel
theorem d_M_put_102 : decode b_M_put 102 = .ok (.iconst 0, 1) := by decide +kernel
theorem d_M_put_103 : decode b_M_put 103 = .ok (.goto 4, 3) := by decide +kernel
theorem d_M_put_106 : decode b_M_put 106 = .ok (.iload_n 3, 1) := by decide +kernel
theorem d_M_put_107 : decode b_M_put 107 = .ok (.iastore, 1) := by decide +kernel
theorem d_M_put_108 : decode b_M_put 108 = .ok (.iload 5, 2) := by decide +kernel
theorem d_M_put_110 : decode b_M_put 110 = .ok (.ireturn, 1) := by decide +kernel
theorem d_M_set_0 : decode b_M_set 0 = .ok (.aload_n 0, 1) := by decide +kernel
theorem d_M_set_1 : decode b_M_set 1 = .ok (.iload_n 1, 1) := by decide +kernel
theorem d_M_set_2 : decode b_M_set 2 = .ok (.invokestatic 36, 3) := by decide +kernel
theorem d_M_set_5 : decode b_M_set 5 = .ok (.ifCond .eq 7, 3) := by decide +kernel
theorem d_M_set_8 : decode b_M_set 8 = .ok (.iconst 0, 1) := by decide +kernel
theorem d_M_set_9 : decode b_M_set 9 = .ok (.goto 4, 3) := by decide +kernel
theorem d_M_set_12 : decode b_M_set 12 = .ok (.iconst 1, 1) := by decide +kernel
theorem d_M_set_13 : decode b_M_set 13 = .ok (.invokevirtual 73, 3) := by decide +kernel
theorem d_M_set_16 : decode b_M_set 16 = .ok (.ifCond .eq 5, 3) := by decide +kernel
theorem d_M_set_19 : decode b_M_set 19 = .ok (.iconst 0, 1) := by decide +kernel
theorem d_M_set_20 : decode b_M_set 20 = .ok (.ireturn, 1) := by decide +kernel
theorem d_M_set_21 : decode b_M_set 21 = .ok (.aload_n 0, 1) := by decide +kernel
theorem d_M_set_22 : decode b_M_set 22 = .ok (.iconst 0, 1) := by decide +kernel
theorem d_M_set_23 : decode b_M_set 23 = .ok (.lload_n 2, 1) := by decide +kernel
theorem d_M_set_24 : decode b_M_set 24 = .ok (.invokevirtual 76, 3) := by decide +kernel
theorem d_M_set_27 : decode b_M_set 27 = .ok (.aload_n 0, 1) := by decide +kernel
theorem d_M_set_28 : decode b_M_set 28 = .ok (.iload_n 1, 1) := by decide +kernel
theorem d_M_set_29 : decode b_M_set 29 = .ok (.iconst 0, 1) := by decide +kernel
theorem d_M_set_30 : decode b_M_set 30 = .ok (.lload_n 2, 1) := by decide +kernel
theorem d_M_set_31 : decode b_M_set 31 = .ok (.lconst 0, 1) := by decide +kernel
theorem d_M_set_32 : decode b_M_set 32 = .ok (.lcmp, 1) := by decide +kernel
theorem d_M_set_33 : decode b_M_set 33 = .ok (.ifCond .ge 7, 3) := by decide +kernel
theorem d_M_set_36 : decode b_M_set 36 = .ok (.iconst (-1), 1) := by decide +kernel
theorem d_M_set_37 : decode b_M_set 37 = .ok (.goto 4, 3) := by decide +kernel
theorem d_M_set_40 : decode b_M_set 40 = .ok (.iconst 1, 1) := by decide +kernel
theorem d_M_set_41 : decode b_M_set 41 = .ok (.iconst 2, 1) := by decide +kernel
theorem d_M_set_42 : decode b_M_set 42 = .ok (.invokevirtual 80, 3) := by decide +kernel
theorem d_M_set_45 : decode b_M_set 45 = .ok (.ireturn, 1) := by decide +kernel
theorem d_M_push_0 : decode b_M_push 0 = .ok (.aload_n 0, 1) := by decide +kernel
theorem d_M_push_1 : decode b_M_push 1 = .ok (.iload_n 1, 1) := by decide +kernel
theorem d_M_push_2 : decode b_M_push 2 = .ok (.invokestatic 36, 3) := by decide +kernel
theorem d_M_push_5 : decode b_M_push 5 = .ok (.ifCond .eq 7, 3) := by decide +kernel
theorem d_M_push_8 : decode b_M_push 8 = .ok (.iconst 0, 1) := by decide +kernel
theorem d_M_push_9 : decode b_M_push 9 = .ok (.goto 4, 3) := by decide +kernel
theorem d_M_push_12 : decode b_M_push 12 = .ok (.iconst 1, 1) := by decide +kernel
theorem d_M_push_13 : decode b_M_push 13 = .ok (.invokevirtual 73, 3) := by decide +kernel
theorem d_M_push_16 : decode b_M_push 16 = .ok (.ifCond .eq 5, 3) := by decide +kernel
theorem d_M_push_19 : decode b_M_push 19 = .ok (.iconst 0, 1) := by decide +kernel
theorem d_M_push_20 : decode b_M_push 20 = .ok (.ireturn, 1) := by decide +kernel
theorem d_M_push_21 : decode b_M_push 21 = .ok (.aload_n 0, 1) := by decide +kernel
theorem d_M_push_22 : decode b_M_push 22 = .ok (.iconst 0, 1) := by decide +kernel
theorem d_M_push_23 : decode b_M_push 23 = .ok (.iload_n 1, 1) := by decide +kernel
theorem d_M_push_24 : decode b_M_push 24 = .ok (.invokevirtual 84, 3) := by decide +kernel
theorem d_M_push_27 : decode b_M_push 27 = .ok (.aload_n 0, 1) := by decide +kernel
theorem d_M_push_28 : decode b_M_push 28 = .ok (.iconst 0, 1) := by decide +kernel
theorem d_M_push_29 : decode b_M_push 29 = .ok (.ldc 65, 2) := by decide +kernel
theorem d_M_push_31 : decode b_M_push 31 = .ok (.invokevirtual 87, 3) := by decide +kernel
theorem d_M_push_34 : decode b_M_push 34 = .ok (.aload_n 0, 1) := by decide +kernel
theorem d_M_push_35 : decode b_M_push 35 = .ok (.iconst 0, 1) := by decide +kernel
theorem d_M_push_36 : decode b_M_push 36 = .ok (.ldc 65, 2) := by decide +kernel
theorem d_M_push_38 : decode b_M_push 38 = .ok (.invokevirtual 87, 3) := by decide +kernel
theorem d_M_push_41 : decode b_M_push 41 = .ok (.aload_n 0, 1) := by decide +kernel
theorem d_M_push_42 : decode b_M_push 42 = .ok (.iconst 4, 1) := by decide +kernel
theorem d_M_push_43 : decode b_M_push 43 = .ok (.iload_n 2, 1) := by decide +kernel
theorem d_M_push_44 : decode b_M_push 44 = .ok (.i2l, 1) := by decide +kernel
theorem d_M_push_45 : decode b_M_push 45 = .ok (.ldc2_w 90, 3) := by decide +kernel
theorem d_M_push_48 : decode b_M_push 48 = .ok (.land, 1) := by decide +kernel
theorem d_M_push_49 : decode b_M_push 49 = .ok (.invokevirtual 76, 3) := by decide +kernel
theorem d_M_push_52 : decode b_M_push 52 = .ok (.aload_n 0, 1) := by decide +kernel
theorem d_M_push_53 : decode b_M_push 53 = .ok (.iconst 0, 1) := by decide +kernel
theorem d_M_push_54 : decode b_M_push 54 = .ok (.iconst 4, 1) := by decide +kernel
theorem d_M_push_55 : decode b_M_push 55 = .ok (.invokevirtual 92, 3) := by decide +kernel
theorem d_M_push_58 : decode b_M_push 58 = .ok (.aload_n 0, 1) := by decide +kernel
theorem d_M_push_59 : decode b_M_push 59 = .ok (.iload_n 1, 1) := by decide +kernel
theorem d_M_push_60 : decode b_M_push 60 = .ok (.iconst 0, 1) := by decide +kernel
theorem d_M_push_61 : decode b_M_push 61 = .ok (.aload_n 0, 1) := by decide +kernel
theorem d_M_push_62 : decode b_M_push 62 = .ok (.getfield 23, 3) := by decide +kernel
theorem d_M_push_65 : decode b_M_push 65 = .ok (.iload_n 1, 1) := by decide +kernel
theorem d_M_push_66 : decode b_M_push 66 = .ok (.iaload, 1) := by decide +kernel
theorem d_M_push_67 : decode b_M_push 67 = .ok (.ifCond .ge 7, 3) := by decide +kernel
theorem d_M_push_70 : decode b_M_push 70 = .ok (.iconst (-1), 1) := by decide +kernel
theorem d_M_push_71 : decode b_M_push 71 = .ok (.goto 4, 3) := by decide +kernel
theorem d_M_push_74 : decode b_M_push 74 = .ok (.iconst 1, 1) := by decide +kernel
theorem d_M_push_75 : decode b_M_push 75 = .ok (.iconst 2, 1) := by decide +kernel
theorem d_M_push_76 : decode b_M_push 76 = .ok (.invokevirtual 80, 3) := by decide +kernel
theorem d_M_push_79 : decode b_M_push 79 = .ok (.ireturn, 1) := by decide +kernel
theorem d_M_copy_0 : decode b_M_copy 0 = .ok (.aload_n 0, 1) := by decide +kernel
theorem d_M_copy_1 : decode b_M_copy 1 = .ok (.iload_n 1, 1) := by decide +kernel
theorem d_M_copy_2 : decode b_M_copy 2 = .ok (.iload_n 2, 1) := by decide +kernel
theorem d_M_copy_3 : decode b_M_copy 3 = .ok (.iload_n 2, 1) := by decide +kernel
theorem d_M_copy_4 : decode b_M_copy 4 = .ok (.invokestatic 95, 3) := by decide +kernel
theorem d_M_copy_7 : decode b_M_copy 7 = .ok (.ifCond .eq 7, 3) := by decide +kernel
theorem d_M_copy_10 : decode b_M_copy 10 = .ok (.iconst 0, 1) := by decide +kernel
theorem d_M_copy_11 : decode b_M_copy 11 = .ok (.goto 4, 3) := by decide +kernel
theorem d_M_copy_14 : decode b_M_copy 14 = .ok (.iconst 1, 1) := by decide +kernel
theorem d_M_copy_15 : decode b_M_copy 15 = .ok (.invokevirtual 73, 3) := by decide +kernel
theorem d_M_copy_18 : decode b_M_copy 18 = .ok (.ifCond .eq 5, 3) := by decide +kernel
theorem d_M_copy_21 : decode b_M_copy 21 = .ok (.iconst 0, 1) := by decide +kernel
theorem d_M_copy_22 : decode b_M_copy 22 = .ok (.ireturn, 1) := by decide +kernel
theorem d_M_copy_23 : decode b_M_copy 23 = .ok (.aload_n 0, 1) := by decide +kernel
theorem d_M_copy_24 : decode b_M_copy 24 = .ok (.iconst 0, 1) := by decide +kernel
theorem d_M_copy_25 : decode b_M_copy 25 = .ok (.iload_n 2, 1) := by decide +kernel
theorem d_M_copy_26 : decode b_M_copy 26 = .ok (.invokevirtual 84, 3) := by decide +kernel
theorem d_M_copy_29 : decode b_M_copy 29 = .ok (.aload_n 0, 1) := by decide +kernel
theorem d_M_copy_30 : decode b_M_copy 30 = .ok (.iload_n 1, 1) := by decide +kernel
theorem d_M_copy_31 : decode b_M_copy 31 = .ok (.iconst 0, 1) := by decide +kernel
theorem d_M_copy_32 : decode b_M_copy 32 = .ok (.aload_n 0, 1) := by decide +kernel
theorem d_M_copy_33 : decode b_M_copy 33 = .ok (.getfield 23, 3) := by decide +kernel
theorem d_M_copy_36 : decode b_M_copy 36 = .ok (.iload_n 2, 1) := by decide +kernel
theorem d_M_copy_37 : decode b_M_copy 37 = .ok (.iaload, 1) := by decide +kernel
theorem d_M_copy_38 : decode b_M_copy 38 = .ok (.iconst 2, 1) := by decide +kernel
theorem d_M_copy_39 : decode b_M_copy 39 = .ok (.invokevirtual 80, 3) := by decide +kernel
theorem d_M_copy_42 : decode b_M_copy 42 = .ok (.ireturn, 1) := by decide +kernel
theorem d_M_swap_0 : decode b_M_swap 0 = .ok (.aload_n 0, 1) := by decide +kernel
theorem d_M_swap_1 : decode b_M_swap 1 = .ok (.iload_n 1, 1) := by decide +kernel
theorem d_M_swap_2 : decode b_M_swap 2 = .ok (.iload_n 2, 1) := by decide +kernel
theorem d_M_swap_3 : decode b_M_swap 3 = .ok (.iload_n 2, 1) := by decide +kernel
theorem d_M_swap_4 : decode b_M_swap 4 = .ok (.invokestatic 95, 3) := by decide +kernel
theorem d_M_swap_7 : decode b_M_swap 7 = .ok (.ifCond .eq 7, 3) := by decide +kernel
theorem d_M_swap_10 : decode b_M_swap 10 = .ok (.iconst 0, 1) := by decide +kernel
theorem d_M_swap_11 : decode b_M_swap 11 = .ok (.goto 4, 3) := by decide +kernel
theorem d_M_swap_14 : decode b_M_swap 14 = .ok (.iconst 1, 1) := by decide +kernel
theorem d_M_swap_15 : decode b_M_swap 15 = .ok (.invokevirtual 73, 3) := by decide +kernel
theorem d_M_swap_18 : decode b_M_swap 18 = .ok (.ifCond .eq 5, 3) := by decide +kernel
theorem d_M_swap_21 : decode b_M_swap 21 = .ok (.iconst 0, 1) := by decide +kernel
theorem d_M_swap_22 : decode b_M_swap 22 = .ok (.ireturn, 1) := by decide +kernel
theorem d_M_swap_23 : decode b_M_swap 23 = .ok (.aload_n 0, 1) := by decide +kernel
theorem d_M_swap_24 : decode b_M_swap 24 = .ok (.iconst 0, 1) := by decide +kernel
theorem d_M_swap_25 : decode b_M_swap 25 = .ok (.iload_n 1, 1) := by decide +kernel
theorem d_M_swap_26 : decode b_M_swap 26 = .ok (.invokevirtual 84, 3) := by decide +kernel
theorem d_M_swap_29 : decode b_M_swap 29 = .ok (.aload_n 0, 1) := by decide +kernel
theorem d_M_swap_30 : decode b_M_swap 30 = .ok (.iconst 1, 1) := by decide +kernel
theorem d_M_swap_31 : decode b_M_swap 31 = .ok (.iload_n 2, 1) := by decide +kernel
theorem d_M_swap_32 : decode b_M_swap 32 = .ok (.invokevirtual 84, 3) := by decide +kernel
theorem d_M_swap_35 : decode b_M_swap 35 = .ok (.aload_n 0, 1) := by decide +kernel
theorem d_M_swap_36 : decode b_M_swap 36 = .ok (.getfield 23, 3) := by decide +kernel
theorem d_M_swap_39 : decode b_M_swap 39 = .ok (.iload_n 1, 1) := by decide +kernel
theorem d_M_swap_40 : decode b_M_swap 40 = .ok (.iaload, 1) := by decide +kernel
theorem d_M_swap_41 : decode b_M_swap 41 = .ok (.istore_n 3, 1) := by decide +kernel
theorem d_M_swap_42 : decode b_M_swap 42 = .ok (.aload_n 0, 1) := by decide +kernel
theorem d_M_swap_43 : decode b_M_swap 43 = .ok (.iload_n 1, 1) := by decide +kernel
theorem d_M_swap_44 : decode b_M_swap 44 = .ok (.iconst 1, 1) := by decide +kernel
theorem d_M_swap_45 : decode b_M_swap 45 = .ok (.aload_n 0, 1) := by decide +kernel
theorem d_M_swap_46 : decode b_M_swap 46 = .ok (.getfield 23, 3) := by decide +kernel
theorem d_M_swap_49 : decode b_M_swap 49 = .ok (.iload_n 2, 1) := by decide +kernel
theorem d_M_swap_50 : decode b_M_swap 50 = .ok (.iaload, 1) := by decide +kernel
theorem d_M_swap_51 : decode b_M_swap 51 = .ok (.iconst 2, 1) := by decide +kernel
theorem d_M_swap_52 : decode b_M_swap 52 = .ok (.invokevirtual 80, 3) := by decide +kernel
theorem d_M_swap_55 : decode b_M_swap 55 = .ok (.pop, 1) := by decide +kernel
theorem d_M_swap_56 : decode b_M_swap 56 = .ok (.aload_n 0, 1) := by decide +kernel
theorem d_M_swap_57 : decode b_M_swap 57 = .ok (.iload_n 2, 1) := by decide +kernel
theorem d_M_swap_58 : decode b_M_swap 58 = .ok (.iconst 0, 1) := by decide +kernel
theorem d_M_swap_59 : decode b_M_swap 59 = .ok (.iload_n 3, 1) := by decide +kernel
theorem d_M_swap_60 : decode b_M_swap 60 = .ok (.iconst 2, 1) := by decide +kernel
theorem d_M_swap_61 : decode b_M_swap 61 = .ok (.invokevirtual 80, 3) := by decide +kernel
theorem d_M_swap_64 : decode b_M_swap 64 = .ok (.pop, 1) := by decide +kernel
theorem d_M_swap_65 : decode b_M_swap 65 = .ok (.aload_n 0, 1) := by decide +kernel
theorem d_M_swap_66 : decode b_M_swap 66 = .ok (.iconst 1, 1) := by decide +kernel
theorem d_M_swap_67 : decode b_M_swap 67 = .ok (.invokevirtual 70, 3) := by decide +kernel
theorem d_M_swap_70 : decode b_M_swap 70 = .ok (.ireturn, 1) := by decide +kernel
theorem d_M_negate_0 : decode b_M_negate 0 = .ok (.aload_n 0, 1) := by decide +kernel
theorem d_M_negate_1 : decode b_M_negate 1 = .ok (.iload_n 1, 1) := by decide +kernel
theorem d_M_negate_2 : decode b_M_negate 2 = .ok (.invokestatic 36, 3) := by decide +kernel
theorem d_M_negate_5 : decode b_M_negate 5 = .ok (.ifCond .eq 7, 3) := by decide +kernel
theorem d_M_negate_8 : decode b_M_negate 8 = .ok (.iconst 0, 1) := by decide +kernel
theorem d_M_negate_9 : decode b_M_negate 9 = .ok (.goto 4, 3) := by decide +kernel
theorem d_M_negate_12 : decode b_M_negate 12 = .ok (.iconst 1, 1) := by decide +kernel
theorem d_M_negate_13 : decode b_M_negate 13 = .ok (.invokevirtual 73, 3) := by decide +kernel
theorem d_M_negate_16 : decode b_M_negate 16 = .ok (.ifCond .eq 5, 3) := by decide +kernel
theorem d_M_negate_19 : decode b_M_negate 19 = .ok (.iconst 0, 1) := by decide +kernel
theorem d_M_negate_20 : decode b_M_negate 20 = .ok (.ireturn, 1) := by decide +kernel
theorem d_M_negate_21 : decode b_M_negate 21 = .ok (.aload_n 0, 1) := by decide +kernel
theorem d_M_negate_22 : decode b_M_negate 22 = .ok (.getfield 23, 3) := by decide +kernel
theorem d_M_negate_25 : decode b_M_negate 25 = .ok (.iload_n 1, 1) := by decide +kernel
theorem d_M_negate_26 : decode b_M_negate 26 = .ok (.aload_n 0, 1) := by decide +kernel
theorem d_M_negate_27 : decode b_M_negate 27 = .ok (.getfield 23, 3) := by decide +kernel
theorem d_M_negate_30 : decode b_M_negate 30 = .ok (.iload_n 1, 1) := by decide +kernel
theorem d_M_negate_31 : decode b_M_negate 31 = .ok (.iaload, 1) := by decide +kernel
theorem d_M_negate_32 : decode b_M_negate 32 = .ok (.ineg, 1) := by decide +kernel
theorem d_M_negate_33 : decode b_M_negate 33 = .ok (.iastore, 1) := by decide +kernel
theorem d_M_negate_34 : decode b_M_negate 34 = .ok (.aload_n 0, 1) := by decide +kernel
theorem d_M_negate_35 : decode b_M_negate 35 = .ok (.iconst 0, 1) := by decide +kernel
theorem d_M_negate_36 : decode b_M_negate 36 = .ok (.iload_n 1, 1) := by decide +kernel
theorem d_M_negate_37 : decode b_M_negate 37 = .ok (.invokevirtual 84, 3) := by decide +kernel
theorem d_M_negate_40 : decode b_M_negate 40 = .ok (.aload_n 0, 1) := by decide +kernel
theorem d_M_negate_41 : decode b_M_negate 41 = .ok (.iconst 0, 1) := by decide +kernel
theorem d_M_negate_42 : decode b_M_negate 42 = .ok (.invokevirtual 70, 3) := by decide +kernel
theorem d_M_negate_45 : decode b_M_negate 45 = .ok (.ireturn, 1) := by decide +kernel
theorem d_M_sum_0 : decode b_M_sum 0 = .ok (.iload_n 1, 1) := by decide +kernel
theorem d_M_sum_1 : decode b_M_sum 1 = .ok (.ifCond .eq 12, 3) := by decide +kernel
theorem d_M_sum_4 : decode b_M_sum 4 = .ok (.iload_n 2, 1) := by decide +kernel
theorem d_M_sum_5 : decode b_M_sum 5 = .ok (.ifCond .eq 8, 3) := by decide +kernel
theorem d_M_sum_8 : decode b_M_sum 8 = .ok (.iload_n 1, 1) := by decide +kernel
theorem d_M_sum_9 : decode b_M_sum 9 = .ok (.iload_n 2, 1) := by decide +kernel
theorem d_M_sum_10 : decode b_M_sum 10 = .ok (.if_icmp .ne 19, 3) := by decide +kernel
theorem d_M_sum_13 : decode b_M_sum 13 = .ok (.aload_n 0, 1) := by decide +kernel
theorem d_M_sum_14 : decode b_M_sum 14 = .ok (.iconst 0, 1) := by decide +kernel
theorem d_M_sum_15 : decode b_M_sum 15 = .ok (.iconst 1, 1) := by decide +kernel
theorem d_M_sum_16 : decode b_M_sum 16 = .ok (.invokevirtual 92, 3) := by decide +kernel
theorem d_M_sum_19 : decode b_M_sum 19 = .ok (.iload_n 1, 1) := by decide +kernel
theorem d_M_sum_20 : decode b_M_sum 20 = .ok (.ifCond .ne 7, 3) := by decide +kernel
theorem d_M_sum_23 : decode b_M_sum 23 = .ok (.iload_n 2, 1) := by decide +kernel
theorem d_M_sum_24 : decode b_M_sum 24 = .ok (.goto 4, 3) := by decide +kernel
theorem d_M_sum_27 : decode b_M_sum 27 = .ok (.iload_n 1, 1) := by decide +kernel
theorem d_M_sum_28 : decode b_M_sum 28 = .ok (.ireturn, 1) := by decide +kernel
theorem d_M_sum_29 : decode b_M_sum 29 = .ok (.aload_n 0, 1) := by decide +kernel
theorem d_M_sum_30 : decode b_M_sum 30 = .ok (.iconst 0, 1) := by decide +kernel
theorem d_M_sum_31 : decode b_M_sum 31 = .ok (.iconst 1, 1) := by decide +kernel
theorem d_M_sum_32 : decode b_M_sum 32 = .ok (.invokevirtual 99, 3) := by decide +kernel
theorem d_M_sum_35 : decode b_M_sum 35 = .ok (.istore_n 3, 1) := by decide +kernel
theorem d_M_sum_36 : decode b_M_sum 36 = .ok (.iload_n 3, 1) := by decide +kernel
theorem d_M_sum_37 : decode b_M_sum 37 = .ok (.ifCond .ge 17, 3) := by decide +kernel
theorem d_M_sum_40 : decode b_M_sum 40 = .ok (.aload_n 0, 1) := by decide +kernel
theorem d_M_sum_41 : decode b_M_sum 41 = .ok (.iconst 1, 1) := by decide +kernel
theorem d_M_sum_42 : decode b_M_sum 42 = .ok (.iconst 0, 1) := by decide +kernel
theorem d_M_sum_43 : decode b_M_sum 43 = .ok (.invokevirtual 102, 3) := by decide +kernel
theorem d_M_sum_46 : decode b_M_sum 46 = .ok (.aload_n 0, 1) := by decide +kernel
theorem d_M_sum_47 : decode b_M_sum 47 = .ok (.iconst 0, 1) := by decide +kernel
theorem d_M_sum_48 : decode b_M_sum 48 = .ok (.iconst 1, 1) := by decide +kernel
theorem d_M_sum_49 : decode b_M_sum 49 = .ok (.invokevirtual 62, 3) := by decide +kernel
theorem d_M_sum_52 : decode b_M_sum 52 = .ok (.iload_n 2, 1) := by decide +kernel
theorem d_M_sum_53 : decode b_M_sum 53 = .ok (.ireturn, 1) := by decide +kernel
theorem d_M_sum_54 : decode b_M_sum 54 = .ok (.aload_n 0, 1) := by decide +kernel
theorem d_M_sum_55 : decode b_M_sum 55 = .ok (.iconst 0, 1) := by decide +kernel
theorem d_M_sum_56 : decode b_M_sum 56 = .ok (.iconst 1, 1) := by decide +kernel
theorem d_M_sum_57 : decode b_M_sum 57 = .ok (.invokevirtual 102, 3) := by decide +kernel
theorem d_M_sum_60 : decode b_M_sum 60 = .ok (.iload_n 3, 1) := by decide +kernel
theorem d_M_sum_61 : decode b_M_sum 61 = .ok (.ifCond .ne 7, 3) := by decide +kernel
theorem d_M_sum_64 : decode b_M_sum 64 = .ok (.iconst 0, 1) := by decide +kernel
theorem d_M_sum_65 : decode b_M_sum 65 = .ok (.goto 4, 3) := by decide +kernel
theorem d_M_sum_68 : decode b_M_sum 68 = .ok (.iload_n 1, 1) := by decide +kernel
theorem d_M_sum_69 : decode b_M_sum 69 = .ok (.ireturn, 1) := by decide +kernel
theorem d_M_add_0 : decode b_M_add 0 = .ok (.aload_n 0, 1) := by decide +kernel
theorem d_M_add_1 : decode b_M_add 1 = .ok (.iload_n 1, 1) := by decide +kernel
theorem d_M_add_2 : decode b_M_add 2 = .ok (.iload_n 2, 1) := by decide +kernel
theorem d_M_add_3 : decode b_M_add 3 = .ok (.iload_n 3, 1) := by decide +kernel
theorem d_M_add_4 : decode b_M_add 4 = .ok (.invokestatic 95, 3) := by decide +kernel
theorem d_M_add_7 : decode b_M_add 7 = .ok (.ifCond .eq 7, 3) := by decide +kernel
theorem d_M_add_10 : decode b_M_add 10 = .ok (.iconst 0, 1) := by decide +kernel
theorem d_M_add_11 : decode b_M_add 11 = .ok (.goto 4, 3) := by decide +kernel
theorem d_M_add_14 : decode b_M_add 14 = .ok (.iconst 1, 1) := by decide +kernel
theorem d_M_add_15 : decode b_M_add 15 = .ok (.invokevirtual 73, 3) := by decide +kernel
theorem d_M_add_18 : decode b_M_add 18 = .ok (.ifCond .eq 5, 3) := by decide +kernel
theorem d_M_add_21 : decode b_M_add 21 = .ok (.iconst 0, 1) := by decide +kernel
theorem d_M_add_22 : decode b_M_add 22 = .ok (.ireturn, 1) := by decide +kernel
theorem d_M_add_23 : decode b_M_add 23 = .ok (.aload_n 0, 1) := by decide +kernel
theorem d_M_add_24 : decode b_M_add 24 = .ok (.iconst 0, 1) := by decide +kernel
theorem d_M_add_25 : decode b_M_add 25 = .ok (.iload_n 2, 1) := by decide +kernel
theorem d_M_add_26 : decode b_M_add 26 = .ok (.invokevirtual 84, 3) := by decide +kernel
theorem d_M_add_29 : decode b_M_add 29 = .ok (.aload_n 0, 1) := by decide +kernel
theorem d_M_add_30 : decode b_M_add 30 = .ok (.iconst 1, 1) := by decide +kernel
theorem d_M_add_31 : decode b_M_add 31 = .ok (.iload_n 3, 1) := by decide +kernel
theorem d_M_add_32 : decode b_M_add 32 = .ok (.invokevirtual 84, 3) := by decide +kernel
theorem d_M_add_35 : decode b_M_add 35 = .ok (.aload_n 0, 1) := by decide +kernel
theorem d_M_add_36 : decode b_M_add 36 = .ok (.aload_n 0, 1) := by decide +kernel
theorem d_M_add_37 : decode b_M_add 37 = .ok (.getfield 23, 3) := by decide +kernel
theorem d_M_add_40 : decode b_M_add 40 = .ok (.iload_n 2, 1) := by decide +kernel
theorem d_M_add_41 : decode b_M_add 41 = .ok (.iaload, 1) := by decide +kernel
theorem d_M_add_42 : decode b_M_add 42 = .ok (.aload_n 0, 1) := by decide +kernel
theorem d_M_add_43 : decode b_M_add 43 = .ok (.getfield 23, 3) := by decide +kernel
theorem d_M_add_46 : decode b_M_add 46 = .ok (.iload_n 3, 1) := by decide +kernel
theorem d_M_add_47 : decode b_M_add 47 = .ok (.iaload, 1) := by decide +kernel
theorem d_M_add_48 : decode b_M_add 48 = .ok (.invokevirtual 105, 3) := by decide +kernel
theorem d_M_add_51 : decode b_M_add 51 = .ok (.istore 4, 2) := by decide +kernel
theorem d_M_add_53 : decode b_M_add 53 = .ok (.aload_n 0, 1) := by decide +kernel
theorem d_M_add_54 : decode b_M_add 54 = .ok (.iload_n 1, 1) := by decide +kernel
theorem d_M_add_55 : decode b_M_add 55 = .ok (.iconst 0, 1) := by decide +kernel
theorem d_M_add_56 : decode b_M_add 56 = .ok (.iload 4, 2) := by decide +kernel
theorem d_M_add_58 : decode b_M_add 58 = .ok (.iconst 2, 1) := by decide +kernel
theorem d_M_add_59 : decode b_M_add 59 = .ok (.invokevirtual 80, 3) := by decide +kernel
theorem d_M_add_62 : decode b_M_add 62 = .ok (.ireturn, 1) := by decide +kernel
theorem d_M_subtract_0 : decode b_M_subtract 0 = .ok (.aload_n 0, 1) := by decide +kernel
theorem d_M_subtract_1 : decode b_M_subtract 1 = .ok (.iload_n 1, 1) := by decide +kernel
theorem d_M_subtract_2 : decode b_M_subtract 2 = .ok (.iload_n 2, 1) := by decide +kernel
theorem d_M_subtract_3 : decode b_M_subtract 3 = .ok (.iload_n 3, 1) := by decide +kernel
theorem d_M_subtract_4 : decode b_M_subtract 4 = .ok (.invokestatic 95, 3) := by decide +kernel
theorem d_M_subtract_7 : decode b_M_subtract 7 = .ok (.ifCond .eq 7, 3) := by decide +kernel
