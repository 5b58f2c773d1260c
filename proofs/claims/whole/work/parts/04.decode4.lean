theorem dX11_dither_83 : decode cX11_dither 83 = .ok (.getfield 141, 3) := by decide +kernel
theorem dX11_dither_86 : decode cX11_dither 86 = .ok (.if_icmp .ge 217, 3) := by decide +kernel
theorem dX11_dither_89 : decode cX11_dither 89 = .ok (.iconst 0, 1) := by decide +kernel
theorem dX11_dither_90 : decode cX11_dither 90 = .ok (.istore 4, 2) := by decide +kernel
theorem dX11_dither_92 : decode cX11_dither 92 = .ok (.iload 4, 2) := by decide +kernel
theorem dX11_dither_94 : decode cX11_dither 94 = .ok (.aload_n 0, 1) := by decide +kernel
theorem dX11_dither_95 : decode cX11_dither 95 = .ok (.getfield 138, 3) := by decide +kernel
theorem dX11_dither_98 : decode cX11_dither 98 = .ok (.if_icmp .ge 199, 3) := by decide +kernel
theorem dX11_dither_101 : decode cX11_dither 101 = .ok (.aload_n 0, 1) := by decide +kernel
theorem dX11_dither_102 : decode cX11_dither 102 = .ok (.getfield 50, 3) := by decide +kernel
theorem dX11_dither_105 : decode cX11_dither 105 = .ok (.iload_n 3, 1) := by decide +kernel
theorem dX11_dither_106 : decode cX11_dither 106 = .ok (.aload_n 0, 1) := by decide +kernel
theorem dX11_dither_107 : decode cX11_dither 107 = .ok (.getfield 138, 3) := by decide +kernel
theorem dX11_dither_110 : decode cX11_dither 110 = .ok (.imul, 1) := by decide +kernel
theorem dX11_dither_111 : decode cX11_dither 111 = .ok (.iload 4, 2) := by decide +kernel
theorem dX11_dither_113 : decode cX11_dither 113 = .ok (.iadd, 1) := by decide +kernel
theorem dX11_dither_114 : decode cX11_dither 114 = .ok (.iaload, 1) := by decide +kernel
theorem dX11_dither_115 : decode cX11_dither 115 = .ok (.istore 5, 2) := by decide +kernel
theorem dX11_dither_117 : decode cX11_dither 117 = .ok (.iload 5, 2) := by decide +kernel
theorem dX11_dither_119 : decode cX11_dither 119 = .ok (.i2l, 1) := by decide +kernel
theorem dX11_dither_120 : decode cX11_dither 120 = .ok (.iload_n 2, 1) := by decide +kernel
theorem dX11_dither_121 : decode cX11_dither 121 = .ok (.iconst 1, 1) := by decide +kernel
theorem dX11_dither_122 : decode cX11_dither 122 = .ok (.isub, 1) := by decide +kernel
theorem dX11_dither_123 : decode cX11_dither 123 = .ok (.i2l, 1) := by decide +kernel
theorem dX11_dither_124 : decode cX11_dither 124 = .ok (.lmul, 1) := by decide +kernel
theorem dX11_dither_125 : decode cX11_dither 125 = .ok (.ldc2_w 136, 3) := by decide +kernel
theorem dX11_dither_128 : decode cX11_dither 128 = .ok (.invokestatic 190, 3) := by decide +kernel
theorem dX11_dither_131 : decode cX11_dither 131 = .ok (.lstore 6, 2) := by decide +kernel
theorem dX11_dither_133 : decode cX11_dither 133 = .ok (.lload 6, 2) := by decide +kernel
theorem dX11_dither_135 : decode cX11_dither 135 = .ok (.lconst 0, 1) := by decide +kernel
theorem dX11_dither_136 : decode cX11_dither 136 = .ok (.lcmp, 1) := by decide +kernel
theorem dX11_dither_137 : decode cX11_dither 137 = .ok (.ifCond .ge 7, 3) := by decide +kernel
theorem dX11_dither_140 : decode cX11_dither 140 = .ok (.lconst 0, 1) := by decide +kernel
theorem dX11_dither_141 : decode cX11_dither 141 = .ok (.goto 22, 3) := by decide +kernel
theorem dX11_dither_144 : decode cX11_dither 144 = .ok (.lload 6, 2) := by decide +kernel
theorem dX11_dither_146 : decode cX11_dither 146 = .ok (.iload_n 2, 1) := by decide +kernel
theorem dX11_dither_147 : decode cX11_dither 147 = .ok (.iconst 1, 1) := by decide +kernel
theorem dX11_dither_148 : decode cX11_dither 148 = .ok (.isub, 1) := by decide +kernel
theorem dX11_dither_149 : decode cX11_dither 149 = .ok (.i2l, 1) := by decide +kernel
theorem dX11_dither_150 : decode cX11_dither 150 = .ok (.lcmp, 1) := by decide +kernel
theorem dX11_dither_151 : decode cX11_dither 151 = .ok (.ifCond .le 10, 3) := by decide +kernel
theorem dX11_dither_154 : decode cX11_dither 154 = .ok (.iload_n 2, 1) := by decide +kernel
theorem dX11_dither_155 : decode cX11_dither 155 = .ok (.iconst 1, 1) := by decide +kernel
theorem dX11_dither_156 : decode cX11_dither 156 = .ok (.isub, 1) := by decide +kernel
theorem dX11_dither_157 : decode cX11_dither 157 = .ok (.i2l, 1) := by decide +kernel
theorem dX11_dither_158 : decode cX11_dither 158 = .ok (.goto 5, 3) := by decide +kernel
theorem dX11_dither_161 : decode cX11_dither 161 = .ok (.lload 6, 2) := by decide +kernel
theorem dX11_dither_163 : decode cX11_dither 163 = .ok (.lstore 6, 2) := by decide +kernel
theorem dX11_dither_165 : decode cX11_dither 165 = .ok (.ldc2_w 136, 3) := by decide +kernel
theorem dX11_dither_168 : decode cX11_dither 168 = .ok (.lload 6, 2) := by decide +kernel
theorem dX11_dither_170 : decode cX11_dither 170 = .ok (.lmul, 1) := by decide +kernel
theorem dX11_dither_171 : decode cX11_dither 171 = .ok (.iload_n 2, 1) := by decide +kernel
theorem dX11_dither_172 : decode cX11_dither 172 = .ok (.iconst 1, 1) := by decide +kernel
theorem dX11_dither_173 : decode cX11_dither 173 = .ok (.isub, 1) := by decide +kernel
theorem dX11_dither_174 : decode cX11_dither 174 = .ok (.i2l, 1) := by decide +kernel
theorem dX11_dither_175 : decode cX11_dither 175 = .ok (.ldiv, 1) := by decide +kernel
theorem dX11_dither_176 : decode cX11_dither 176 = .ok (.l2i, 1) := by decide +kernel
theorem dX11_dither_177 : decode cX11_dither 177 = .ok (.istore 8, 2) := by decide +kernel
theorem dX11_dither_179 : decode cX11_dither 179 = .ok (.iload 5, 2) := by decide +kernel
theorem dX11_dither_181 : decode cX11_dither 181 = .ok (.iload 8, 2) := by decide +kernel
theorem dX11_dither_183 : decode cX11_dither 183 = .ok (.isub, 1) := by decide +kernel
theorem dX11_dither_184 : decode cX11_dither 184 = .ok (.istore 9, 2) := by decide +kernel
theorem dX11_dither_186 : decode cX11_dither 186 = .ok (.aload_n 0, 1) := by decide +kernel
theorem dX11_dither_187 : decode cX11_dither 187 = .ok (.getfield 50, 3) := by decide +kernel
theorem dX11_dither_190 : decode cX11_dither 190 = .ok (.iload_n 3, 1) := by decide +kernel
theorem dX11_dither_191 : decode cX11_dither 191 = .ok (.aload_n 0, 1) := by decide +kernel
theorem dX11_dither_192 : decode cX11_dither 192 = .ok (.getfield 138, 3) := by decide +kernel
theorem dX11_dither_195 : decode cX11_dither 195 = .ok (.imul, 1) := by decide +kernel
theorem dX11_dither_196 : decode cX11_dither 196 = .ok (.iload 4, 2) := by decide +kernel
theorem dX11_dither_198 : decode cX11_dither 198 = .ok (.iadd, 1) := by decide +kernel
theorem dX11_dither_199 : decode cX11_dither 199 = .ok (.iload 8, 2) := by decide +kernel
theorem dX11_dither_201 : decode cX11_dither 201 = .ok (.iastore, 1) := by decide +kernel
theorem dX11_dither_202 : decode cX11_dither 202 = .ok (.aload_n 0, 1) := by decide +kernel
theorem dX11_dither_203 : decode cX11_dither 203 = .ok (.iload 4, 2) := by decide +kernel
theorem dX11_dither_205 : decode cX11_dither 205 = .ok (.iconst 1, 1) := by decide +kernel
theorem dX11_dither_206 : decode cX11_dither 206 = .ok (.iadd, 1) := by decide +kernel
theorem dX11_dither_207 : decode cX11_dither 207 = .ok (.iload_n 3, 1) := by decide +kernel
theorem dX11_dither_208 : decode cX11_dither 208 = .ok (.bipush 7, 2) := by decide +kernel
theorem dX11_dither_210 : decode cX11_dither 210 = .ok (.iload 9, 2) := by decide +kernel
theorem dX11_dither_212 : decode cX11_dither 212 = .ok (.imul, 1) := by decide +kernel
theorem dX11_dither_213 : decode cX11_dither 213 = .ok (.bipush 16, 2) := by decide +kernel
theorem dX11_dither_215 : decode cX11_dither 215 = .ok (.idiv, 1) := by decide +kernel
theorem dX11_dither_216 : decode cX11_dither 216 = .ok (.invokevirtual 234, 3) := by decide +kernel
theorem dX11_dither_219 : decode cX11_dither 219 = .ok (.aload_n 0, 1) := by decide +kernel
theorem dX11_dither_220 : decode cX11_dither 220 = .ok (.iload 4, 2) := by decide +kernel
theorem dX11_dither_222 : decode cX11_dither 222 = .ok (.iconst 1, 1) := by decide +kernel
theorem dX11_dither_223 : decode cX11_dither 223 = .ok (.isub, 1) := by decide +kernel
theorem dX11_dither_224 : decode cX11_dither 224 = .ok (.iload_n 3, 1) := by decide +kernel
theorem dX11_dither_225 : decode cX11_dither 225 = .ok (.iconst 1, 1) := by decide +kernel
theorem dX11_dither_226 : decode cX11_dither 226 = .ok (.iadd, 1) := by decide +kernel
theorem dX11_dither_227 : decode cX11_dither 227 = .ok (.iconst 3, 1) := by decide +kernel
theorem dX11_dither_228 : decode cX11_dither 228 = .ok (.iload 9, 2) := by decide +kernel
theorem dX11_dither_230 : decode cX11_dither 230 = .ok (.imul, 1) := by decide +kernel
theorem dX11_dither_231 : decode cX11_dither 231 = .ok (.bipush 16, 2) := by decide +kernel
theorem dX11_dither_233 : decode cX11_dither 233 = .ok (.idiv, 1) := by decide +kernel
theorem dX11_dither_234 : decode cX11_dither 234 = .ok (.invokevirtual 234, 3) := by decide +kernel
theorem dX11_dither_237 : decode cX11_dither 237 = .ok (.aload_n 0, 1) := by decide +kernel
theorem dX11_dither_238 : decode cX11_dither 238 = .ok (.iload 4, 2) := by decide +kernel
theorem dX11_dither_240 : decode cX11_dither 240 = .ok (.iload_n 3, 1) := by decide +kernel
theorem dX11_dither_241 : decode cX11_dither 241 = .ok (.iconst 1, 1) := by decide +kernel
theorem dX11_dither_242 : decode cX11_dither 242 = .ok (.iadd, 1) := by decide +kernel
theorem dX11_dither_243 : decode cX11_dither 243 = .ok (.iconst 5, 1) := by decide +kernel
theorem dX11_dither_244 : decode cX11_dither 244 = .ok (.iload 9, 2) := by decide +kernel
theorem dX11_dither_246 : decode cX11_dither 246 = .ok (.imul, 1) := by decide +kernel
theorem dX11_dither_247 : decode cX11_dither 247 = .ok (.bipush 16, 2) := by decide +kernel
theorem dX11_dither_249 : decode cX11_dither 249 = .ok (.idiv, 1) := by decide +kernel
theorem dX11_dither_250 : decode cX11_dither 250 = .ok (.invokevirtual 234, 3) := by decide +kernel
theorem dX11_dither_253 : decode cX11_dither 253 = .ok (.aload_n 0, 1) := by decide +kernel
theorem dX11_dither_254 : decode cX11_dither 254 = .ok (.iload 4, 2) := by decide +kernel
theorem dX11_dither_256 : decode cX11_dither 256 = .ok (.iconst 1, 1) := by decide +kernel
theorem dX11_dither_257 : decode cX11_dither 257 = .ok (.iadd, 1) := by decide +kernel
theorem dX11_dither_258 : decode cX11_dither 258 = .ok (.iload_n 3, 1) := by decide +kernel
theorem dX11_dither_259 : decode cX11_dither 259 = .ok (.iconst 1, 1) := by decide +kernel
theorem dX11_dither_260 : decode cX11_dither 260 = .ok (.iadd, 1) := by decide +kernel
theorem dX11_dither_261 : decode cX11_dither 261 = .ok (.iload 9, 2) := by decide +kernel
theorem dX11_dither_263 : decode cX11_dither 263 = .ok (.bipush 7, 2) := by decide +kernel
theorem dX11_dither_265 : decode cX11_dither 265 = .ok (.iload 9, 2) := by decide +kernel
theorem dX11_dither_267 : decode cX11_dither 267 = .ok (.imul, 1) := by decide +kernel
theorem dX11_dither_268 : decode cX11_dither 268 = .ok (.bipush 16, 2) := by decide +kernel
theorem dX11_dither_270 : decode cX11_dither 270 = .ok (.idiv, 1) := by decide +kernel
theorem dX11_dither_271 : decode cX11_dither 271 = .ok (.isub, 1) := by decide +kernel
theorem dX11_dither_272 : decode cX11_dither 272 = .ok (.iconst 3, 1) := by decide +kernel
theorem dX11_dither_273 : decode cX11_dither 273 = .ok (.iload 9, 2) := by decide +kernel
theorem dX11_dither_275 : decode cX11_dither 275 = .ok (.imul, 1) := by decide +kernel
theorem dX11_dither_276 : decode cX11_dither 276 = .ok (.bipush 16, 2) := by decide +kernel
theorem dX11_dither_278 : decode cX11_dither 278 = .ok (.idiv, 1) := by decide +kernel
theorem dX11_dither_279 : decode cX11_dither 279 = .ok (.isub, 1) := by decide +kernel
theorem dX11_dither_280 : decode cX11_dither 280 = .ok (.iconst 5, 1) := by decide +kernel
theorem dX11_dither_281 : decode cX11_dither 281 = .ok (.iload 9, 2) := by decide +kernel
theorem dX11_dither_283 : decode cX11_dither 283 = .ok (.imul, 1) := by decide +kernel
theorem dX11_dither_284 : decode cX11_dither 284 = .ok (.bipush 16, 2) := by decide +kernel
theorem dX11_dither_286 : decode cX11_dither 286 = .ok (.idiv, 1) := by decide +kernel
theorem dX11_dither_287 : decode cX11_dither 287 = .ok (.isub, 1) := by decide +kernel
theorem dX11_dither_288 : decode cX11_dither 288 = .ok (.invokevirtual 234, 3) := by decide +kernel
theorem dX11_dither_291 : decode cX11_dither 291 = .ok (.iinc 4 1, 3) := by decide +kernel
theorem dX11_dither_294 : decode cX11_dither 294 = .ok (.goto (-202), 3) := by decide +kernel
theorem dX11_dither_297 : decode cX11_dither 297 = .ok (.iinc 3 1, 3) := by decide +kernel
theorem dX11_dither_300 : decode cX11_dither 300 = .ok (.goto (-219), 3) := by decide +kernel
theorem dX11_dither_303 : decode cX11_dither 303 = .ok (.aload_n 0, 1) := by decide +kernel
theorem dX11_dither_304 : decode cX11_dither 304 = .ok (.iload_n 1, 1) := by decide +kernel
theorem dX11_dither_305 : decode cX11_dither 305 = .ok (.invokevirtual 207, 3) := by decide +kernel
theorem dX11_dither_308 : decode cX11_dither 308 = .ok (.ireturn, 1) := by decide +kernel
theorem dX11_even_0 : decode cX11_even 0 = .ok (.iload_n 1, 1) := by decide +kernel
theorem dX11_even_1 : decode cX11_even 1 = .ok (.invokestatic 101, 3) := by decide +kernel
theorem dX11_even_4 : decode cX11_even 4 = .ok (.ifCond .ne 6, 3) := by decide +kernel
theorem dX11_even_7 : decode cX11_even 7 = .ok (.ldc 109, 2) := by decide +kernel
theorem dX11_even_9 : decode cX11_even 9 = .ok (.ireturn, 1) := by decide +kernel
theorem dX11_even_10 : decode cX11_even 10 = .ok (.aload_n 0, 1) := by decide +kernel
theorem dX11_even_11 : decode cX11_even 11 = .ok (.iload_n 1, 1) := by decide +kernel
theorem dX11_even_12 : decode cX11_even 12 = .ok (.invokevirtual 117, 3) := by decide +kernel
theorem dX11_even_15 : decode cX11_even 15 = .ok (.ifCond .eq 11, 3) := by decide +kernel
theorem dX11_even_18 : decode cX11_even 18 = .ok (.aload_n 0, 1) := by decide +kernel
theorem dX11_even_19 : decode cX11_even 19 = .ok (.iload_n 1, 1) := by decide +kernel
theorem dX11_even_20 : decode cX11_even 20 = .ok (.invokevirtual 124, 3) := by decide +kernel
theorem dX11_even_23 : decode cX11_even 23 = .ok (.ifCond .eq 6, 3) := by decide +kernel
theorem dX11_even_26 : decode cX11_even 26 = .ok (.ldc 96, 2) := by decide +kernel
theorem dX11_even_28 : decode cX11_even 28 = .ok (.ireturn, 1) := by decide +kernel
theorem dX11_even_29 : decode cX11_even 29 = .ok (.aload_n 0, 1) := by decide +kernel
theorem dX11_even_30 : decode cX11_even 30 = .ok (.invokevirtual 110, 3) := by decide +kernel
theorem dX11_even_33 : decode cX11_even 33 = .ok (.aload_n 0, 1) := by decide +kernel
theorem dX11_even_34 : decode cX11_even 34 = .ok (.iload_n 1, 1) := by decide +kernel
theorem dX11_even_35 : decode cX11_even 35 = .ok (.invokevirtual 153, 3) := by decide +kernel
theorem dX11_even_38 : decode cX11_even 38 = .ok (.aload_n 0, 1) := by decide +kernel
theorem dX11_even_39 : decode cX11_even 39 = .ok (.getfield 138, 3) := by decide +kernel
theorem dX11_even_42 : decode cX11_even 42 = .ok (.aload_n 0, 1) := by decide +kernel
theorem dX11_even_43 : decode cX11_even 43 = .ok (.getfield 141, 3) := by decide +kernel
theorem dX11_even_46 : decode cX11_even 46 = .ok (.imul, 1) := by decide +kernel
theorem dX11_even_47 : decode cX11_even 47 = .ok (.istore_n 2, 1) := by decide +kernel
theorem dX11_even_48 : decode cX11_even 48 = .ok (.aload_n 0, 1) := by decide +kernel
theorem dX11_even_49 : decode cX11_even 49 = .ok (.iload_n 1, 1) := by decide +kernel
theorem dX11_even_50 : decode cX11_even 50 = .ok (.iconst 3, 1) := by decide +kernel
theorem dX11_even_51 : decode cX11_even 51 = .ok (.invokevirtual 238, 3) := by decide +kernel
theorem dX11_even_54 : decode cX11_even 54 = .ok (.istore_n 3, 1) := by decide +kernel
theorem dX11_even_55 : decode cX11_even 55 = .ok (.aload_n 0, 1) := by decide +kernel
theorem dX11_even_56 : decode cX11_even 56 = .ok (.iload_n 3, 1) := by decide +kernel
theorem dX11_even_57 : decode cX11_even 57 = .ok (.invokevirtual 242, 3) := by decide +kernel
theorem dX11_even_60 : decode cX11_even 60 = .ok (.istore 4, 2) := by decide +kernel
theorem dX11_even_62 : decode cX11_even 62 = .ok (.iconst 0, 1) := by decide +kernel
theorem dX11_even_63 : decode cX11_even 63 = .ok (.istore 5, 2) := by decide +kernel
theorem dX11_even_65 : decode cX11_even 65 = .ok (.iload 5, 2) := by decide +kernel
theorem dX11_even_67 : decode cX11_even 67 = .ok (.iload_n 2, 1) := by decide +kernel
theorem dX11_even_68 : decode cX11_even 68 = .ok (.if_icmp .ge 60, 3) := by decide +kernel
theorem dX11_even_71 : decode cX11_even 71 = .ok (.aload_n 0, 1) := by decide +kernel
theorem dX11_even_72 : decode cX11_even 72 = .ok (.getfield 50, 3) := by decide +kernel
theorem dX11_even_75 : decode cX11_even 75 = .ok (.iload 5, 2) := by decide +kernel
theorem dX11_even_77 : decode cX11_even 77 = .ok (.iload 4, 2) := by decide +kernel
theorem dX11_even_79 : decode cX11_even 79 = .ok (.iload_n 2, 1) := by decide +kernel
theorem dX11_even_80 : decode cX11_even 80 = .ok (.if_icmp .ne 13, 3) := by decide +kernel
theorem dX11_even_83 : decode cX11_even 83 = .ok (.aload_n 0, 1) := by decide +kernel
theorem dX11_even_84 : decode cX11_even 84 = .ok (.getfield 35, 3) := by decide +kernel
theorem dX11_even_87 : decode cX11_even 87 = .ok (.iload 5, 2) := by decide +kernel
theorem dX11_even_89 : decode cX11_even 89 = .ok (.iaload, 1) := by decide +kernel
theorem dX11_even_90 : decode cX11_even 90 = .ok (.goto 31, 3) := by decide +kernel
theorem dX11_even_93 : decode cX11_even 93 = .ok (.aload_n 0, 1) := by decide +kernel
theorem dX11_even_94 : decode cX11_even 94 = .ok (.aload_n 0, 1) := by decide +kernel
theorem dX11_even_95 : decode cX11_even 95 = .ok (.getfield 35, 3) := by decide +kernel
theorem dX11_even_98 : decode cX11_even 98 = .ok (.iload 5, 2) := by decide +kernel
theorem dX11_even_100 : decode cX11_even 100 = .ok (.iaload, 1) := by decide +kernel
theorem dX11_even_101 : decode cX11_even 101 = .ok (.invokevirtual 242, 3) := by decide +kernel
theorem dX11_even_104 : decode cX11_even 104 = .ok (.iload 4, 2) := by decide +kernel
theorem dX11_even_106 : decode cX11_even 106 = .ok (.isub, 1) := by decide +kernel
theorem dX11_even_107 : decode cX11_even 107 = .ok (.i2l, 1) := by decide +kernel
theorem dX11_even_108 : decode cX11_even 108 = .ok (.ldc2_w 136, 3) := by decide +kernel
theorem dX11_even_111 : decode cX11_even 111 = .ok (.lmul, 1) := by decide +kernel
theorem dX11_even_112 : decode cX11_even 112 = .ok (.iload_n 2, 1) := by decide +kernel
theorem dX11_even_113 : decode cX11_even 113 = .ok (.iload 4, 2) := by decide +kernel
theorem dX11_even_115 : decode cX11_even 115 = .ok (.isub, 1) := by decide +kernel
theorem dX11_even_116 : decode cX11_even 116 = .ok (.i2l, 1) := by decide +kernel
theorem dX11_even_117 : decode cX11_even 117 = .ok (.invokestatic 190, 3) := by decide +kernel
theorem dX11_even_120 : decode cX11_even 120 = .ok (.l2i, 1) := by decide +kernel
theorem dX11_even_121 : decode cX11_even 121 = .ok (.iastore, 1) := by decide +kernel
theorem dX11_even_122 : decode cX11_even 122 = .ok (.iinc 5 1, 3) := by decide +kernel
theorem dX11_even_125 : decode cX11_even 125 = .ok (.goto (-60), 3) := by decide +kernel
theorem dX11_even_128 : decode cX11_even 128 = .ok (.aload_n 0, 1) := by decide +kernel
theorem dX11_even_129 : decode cX11_even 129 = .ok (.iload_n 1, 1) := by decide +kernel
theorem dX11_even_130 : decode cX11_even 130 = .ok (.invokevirtual 207, 3) := by decide +kernel
theorem dX11_even_133 : decode cX11_even 133 = .ok (.ireturn, 1) := by decide +kernel
theorem dX11_upTo_0 : decode cX11_upTo 0 = .ok (.iconst 0, 1) := by decide +kernel
theorem dX11_upTo_1 : decode cX11_upTo 1 = .ok (.istore_n 2, 1) := by decide +kernel
theorem dX11_upTo_2 : decode cX11_upTo 2 = .ok (.iconst 0, 1) := by decide +kernel
theorem dX11_upTo_3 : decode cX11_upTo 3 = .ok (.istore_n 3, 1) := by decide +kernel
theorem dX11_upTo_4 : decode cX11_upTo 4 = .ok (.iload_n 3, 1) := by decide +kernel
theorem dX11_upTo_5 : decode cX11_upTo 5 = .ok (.aload_n 0, 1) := by decide +kernel
theorem dX11_upTo_6 : decode cX11_upTo 6 = .ok (.getfield 138, 3) := by decide +kernel
theorem dX11_upTo_9 : decode cX11_upTo 9 = .ok (.aload_n 0, 1) := by decide +kernel
theorem dX11_upTo_10 : decode cX11_upTo 10 = .ok (.getfield 141, 3) := by decide +kernel
theorem dX11_upTo_13 : decode cX11_upTo 13 = .ok (.imul, 1) := by decide +kernel
theorem dX11_upTo_14 : decode cX11_upTo 14 = .ok (.if_icmp .ge 27, 3) := by decide +kernel
theorem dX11_upTo_17 : decode cX11_upTo 17 = .ok (.iload_n 2, 1) := by decide +kernel
theorem dX11_upTo_18 : decode cX11_upTo 18 = .ok (.aload_n 0, 1) := by decide +kernel
theorem dX11_upTo_19 : decode cX11_upTo 19 = .ok (.getfield 35, 3) := by decide +kernel
theorem dX11_upTo_22 : decode cX11_upTo 22 = .ok (.iload_n 3, 1) := by decide +kernel
theorem dX11_upTo_23 : decode cX11_upTo 23 = .ok (.iaload, 1) := by decide +kernel
theorem dX11_upTo_24 : decode cX11_upTo 24 = .ok (.iload_n 1, 1) := by decide +kernel
theorem dX11_upTo_25 : decode cX11_upTo 25 = .ok (.if_icmp .gt 7, 3) := by decide +kernel
theorem dX11_upTo_28 : decode cX11_upTo 28 = .ok (.iconst 1, 1) := by decide +kernel
theorem dX11_upTo_29 : decode cX11_upTo 29 = .ok (.goto 4, 3) := by decide +kernel
theorem dX11_upTo_32 : decode cX11_upTo 32 = .ok (.iconst 0, 1) := by decide +kernel
theorem dX11_upTo_33 : decode cX11_upTo 33 = .ok (.iadd, 1) := by decide +kernel
theorem dX11_upTo_34 : decode cX11_upTo 34 = .ok (.istore_n 2, 1) := by decide +kernel
theorem dX11_upTo_35 : decode cX11_upTo 35 = .ok (.iinc 3 1, 3) := by decide +kernel
theorem dX11_upTo_38 : decode cX11_upTo 38 = .ok (.goto (-34), 3) := by decide +kernel
theorem dX11_upTo_41 : decode cX11_upTo 41 = .ok (.iload_n 2, 1) := by decide +kernel
theorem dX11_upTo_42 : decode cX11_upTo 42 = .ok (.ireturn, 1) := by decide +kernel
theorem dX11_between_0 : decode cX11_between 0 = .ok (.iload_n 0, 1) := by decide +kernel
theorem dX11_between_1 : decode cX11_between 1 = .ok (.iload_n 1, 1) := by decide +kernel
theorem dX11_between_2 : decode cX11_between 2 = .ok (.if_icmp .ge 9, 3) := by decide +kernel
theorem dX11_between_5 : decode cX11_between 5 = .ok (.iload_n 1, 1) := by decide +kernel
theorem dX11_between_6 : decode cX11_between 6 = .ok (.iload_n 0, 1) := by decide +kernel
theorem dX11_between_7 : decode cX11_between 7 = .ok (.isub, 1) := by decide +kernel
theorem dX11_between_8 : decode cX11_between 8 = .ok (.goto 6, 3) := by decide +kernel
theorem dX11_between_11 : decode cX11_between 11 = .ok (.iload_n 0, 1) := by decide +kernel
theorem dX11_between_12 : decode cX11_between 12 = .ok (.iload_n 1, 1) := by decide +kernel
theorem dX11_between_13 : decode cX11_between 13 = .ok (.isub, 1) := by decide +kernel
theorem dX11_between_14 : decode cX11_between 14 = .ok (.ireturn, 1) := by decide +kernel
theorem dX11_energyAt_0 : decode cX11_energyAt 0 = .ok (.aload_n 0, 1) := by decide +kernel
theorem dX11_energyAt_1 : decode cX11_energyAt 1 = .ok (.iload_n 1, 1) := by decide +kernel
theorem dX11_energyAt_2 : decode cX11_energyAt 2 = .ok (.iconst 1, 1) := by decide +kernel
theorem dX11_energyAt_3 : decode cX11_energyAt 3 = .ok (.isub, 1) := by decide +kernel
theorem dX11_energyAt_4 : decode cX11_energyAt 4 = .ok (.iload_n 2, 1) := by decide +kernel
theorem dX11_energyAt_5 : decode cX11_energyAt 5 = .ok (.iconst 0, 1) := by decide +kernel
theorem dX11_energyAt_6 : decode cX11_energyAt 6 = .ok (.invokevirtual 156, 3) := by decide +kernel
theorem dX11_energyAt_9 : decode cX11_energyAt 9 = .ok (.aload_n 0, 1) := by decide +kernel
theorem dX11_energyAt_10 : decode cX11_energyAt 10 = .ok (.iload_n 1, 1) := by decide +kernel
theorem dX11_energyAt_11 : decode cX11_energyAt 11 = .ok (.iconst 1, 1) := by decide +kernel
theorem dX11_energyAt_12 : decode cX11_energyAt 12 = .ok (.iadd, 1) := by decide +kernel
theorem dX11_energyAt_13 : decode cX11_energyAt 13 = .ok (.iload_n 2, 1) := by decide +kernel
theorem dX11_energyAt_14 : decode cX11_energyAt 14 = .ok (.iconst 0, 1) := by decide +kernel
theorem dX11_energyAt_15 : decode cX11_energyAt 15 = .ok (.invokevirtual 156, 3) := by decide +kernel
theorem dX11_energyAt_18 : decode cX11_energyAt 18 = .ok (.invokestatic 245, 3) := by decide +kernel
theorem dX11_energyAt_21 : decode cX11_energyAt 21 = .ok (.aload_n 0, 1) := by decide +kernel
theorem dX11_energyAt_22 : decode cX11_energyAt 22 = .ok (.iload_n 1, 1) := by decide +kernel
theorem dX11_energyAt_23 : decode cX11_energyAt 23 = .ok (.iload_n 2, 1) := by decide +kernel
theorem dX11_energyAt_24 : decode cX11_energyAt 24 = .ok (.iconst 1, 1) := by decide +kernel
theorem dX11_energyAt_25 : decode cX11_energyAt 25 = .ok (.isub, 1) := by decide +kernel
theorem dX11_energyAt_26 : decode cX11_energyAt 26 = .ok (.iconst 0, 1) := by decide +kernel
theorem dX11_energyAt_27 : decode cX11_energyAt 27 = .ok (.invokevirtual 156, 3) := by decide +kernel
theorem dX11_energyAt_30 : decode cX11_energyAt 30 = .ok (.aload_n 0, 1) := by decide +kernel
theorem dX11_energyAt_31 : decode cX11_energyAt 31 = .ok (.iload_n 1, 1) := by decide +kernel
theorem dX11_energyAt_32 : decode cX11_energyAt 32 = .ok (.iload_n 2, 1) := by decide +kernel
theorem dX11_energyAt_33 : decode cX11_energyAt 33 = .ok (.iconst 1, 1) := by decide +kernel
theorem dX11_energyAt_34 : decode cX11_energyAt 34 = .ok (.iadd, 1) := by decide +kernel
theorem dX11_energyAt_35 : decode cX11_energyAt 35 = .ok (.iconst 0, 1) := by decide +kernel
theorem dX11_energyAt_36 : decode cX11_energyAt 36 = .ok (.invokevirtual 156, 3) := by decide +kernel
theorem dX11_energyAt_39 : decode cX11_energyAt 39 = .ok (.invokestatic 245, 3) := by decide +kernel
theorem dX11_energyAt_42 : decode cX11_energyAt 42 = .ok (.iadd, 1) := by decide +kernel
theorem dX11_energyAt_43 : decode cX11_energyAt 43 = .ok (.ireturn, 1) := by decide +kernel
theorem dX11_energy_0 : decode cX11_energy 0 = .ok (.iload_n 1, 1) := by decide +kernel
theorem dX11_energy_1 : decode cX11_energy 1 = .ok (.invokestatic 101, 3) := by decide +kernel
theorem dX11_energy_4 : decode cX11_energy 4 = .ok (.ifCond .ne 6, 3) := by decide +kernel
theorem dX11_energy_7 : decode cX11_energy 7 = .ok (.ldc 109, 2) := by decide +kernel
theorem dX11_energy_9 : decode cX11_energy 9 = .ok (.ireturn, 1) := by decide +kernel
theorem dX11_energy_10 : decode cX11_energy 10 = .ok (.aload_n 0, 1) := by decide +kernel
theorem dX11_energy_11 : decode cX11_energy 11 = .ok (.iload_n 1, 1) := by decide +kernel
theorem dX11_energy_12 : decode cX11_energy 12 = .ok (.invokevirtual 117, 3) := by decide +kernel
theorem dX11_energy_15 : decode cX11_energy 15 = .ok (.ifCond .eq 13, 3) := by decide +kernel
theorem dX11_energy_18 : decode cX11_energy 18 = .ok (.aload_n 0, 1) := by decide +kernel
theorem dX11_energy_19 : decode cX11_energy 19 = .ok (.iload_n 1, 1) := by decide +kernel
theorem dX11_energy_20 : decode cX11_energy 20 = .ok (.iload_n 2, 1) := by decide +kernel
theorem dX11_energy_21 : decode cX11_energy 21 = .ok (.iload_n 3, 1) := by decide +kernel
theorem dX11_energy_22 : decode cX11_energy 22 = .ok (.invokevirtual 120, 3) := by decide +kernel
theorem dX11_energy_25 : decode cX11_energy 25 = .ok (.ifCond .ne 6, 3) := by decide +kernel
theorem dX11_energy_28 : decode cX11_energy 28 = .ok (.ldc 96, 2) := by decide +kernel
theorem dX11_energy_30 : decode cX11_energy 30 = .ok (.ireturn, 1) := by decide +kernel
theorem dX11_energy_31 : decode cX11_energy 31 = .ok (.aload_n 0, 1) := by decide +kernel
theorem dX11_energy_32 : decode cX11_energy 32 = .ok (.iload_n 1, 1) := by decide +kernel
theorem dX11_energy_33 : decode cX11_energy 33 = .ok (.invokevirtual 153, 3) := by decide +kernel
theorem dX11_energy_36 : decode cX11_energy 36 = .ok (.aload_n 0, 1) := by decide +kernel
theorem dX11_energy_37 : decode cX11_energy 37 = .ok (.iload_n 2, 1) := by decide +kernel
theorem dX11_energy_38 : decode cX11_energy 38 = .ok (.iload_n 3, 1) := by decide +kernel
theorem dX11_energy_39 : decode cX11_energy 39 = .ok (.invokevirtual 248, 3) := by decide +kernel
theorem dX11_energy_42 : decode cX11_energy 42 = .ok (.ireturn, 1) := by decide +kernel
theorem dX11_leastIn_0 : decode cX11_leastIn 0 = .ok (.iload_n 2, 1) := by decide +kernel
theorem dX11_leastIn_1 : decode cX11_leastIn 1 = .ok (.ifCond .ge 7, 3) := by decide +kernel
theorem dX11_leastIn_4 : decode cX11_leastIn 4 = .ok (.iconst 0, 1) := by decide +kernel
theorem dX11_leastIn_5 : decode cX11_leastIn 5 = .ok (.goto 4, 3) := by decide +kernel
theorem dX11_leastIn_8 : decode cX11_leastIn 8 = .ok (.iload_n 2, 1) := by decide +kernel
theorem dX11_leastIn_9 : decode cX11_leastIn 9 = .ok (.istore 4, 2) := by decide +kernel
theorem dX11_leastIn_11 : decode cX11_leastIn 11 = .ok (.iload 4, 2) := by decide +kernel
theorem dX11_leastIn_13 : decode cX11_leastIn 13 = .ok (.iconst 1, 1) := by decide +kernel
theorem dX11_leastIn_14 : decode cX11_leastIn 14 = .ok (.iadd, 1) := by decide +kernel
theorem dX11_leastIn_15 : decode cX11_leastIn 15 = .ok (.istore 5, 2) := by decide +kernel
theorem dX11_leastIn_17 : decode cX11_leastIn 17 = .ok (.iload 5, 2) := by decide +kernel
theorem dX11_leastIn_19 : decode cX11_leastIn 19 = .ok (.iload_n 3, 1) := by decide +kernel
theorem dX11_leastIn_20 : decode cX11_leastIn 20 = .ok (.if_icmp .gt 58, 3) := by decide +kernel
theorem dX11_leastIn_23 : decode cX11_leastIn 23 = .ok (.iload 5, 2) := by decide +kernel
theorem dX11_leastIn_25 : decode cX11_leastIn 25 = .ok (.aload_n 0, 1) := by decide +kernel
theorem dX11_leastIn_26 : decode cX11_leastIn 26 = .ok (.getfield 138, 3) := by decide +kernel
theorem dX11_leastIn_29 : decode cX11_leastIn 29 = .ok (.if_icmp .ge 49, 3) := by decide +kernel
theorem dX11_leastIn_32 : decode cX11_leastIn 32 = .ok (.aload_n 0, 1) := by decide +kernel
theorem dX11_leastIn_33 : decode cX11_leastIn 33 = .ok (.getfield 60, 3) := by decide +kernel
theorem dX11_leastIn_36 : decode cX11_leastIn 36 = .ok (.iload_n 1, 1) := by decide +kernel
theorem dX11_leastIn_37 : decode cX11_leastIn 37 = .ok (.aload_n 0, 1) := by decide +kernel
theorem dX11_leastIn_38 : decode cX11_leastIn 38 = .ok (.getfield 138, 3) := by decide +kernel
theorem dX11_leastIn_41 : decode cX11_leastIn 41 = .ok (.imul, 1) := by decide +kernel
theorem dX11_leastIn_42 : decode cX11_leastIn 42 = .ok (.iload 5, 2) := by decide +kernel
theorem dX11_leastIn_44 : decode cX11_leastIn 44 = .ok (.iadd, 1) := by decide +kernel
theorem dX11_leastIn_45 : decode cX11_leastIn 45 = .ok (.iaload, 1) := by decide +kernel
theorem dX11_leastIn_46 : decode cX11_leastIn 46 = .ok (.aload_n 0, 1) := by decide +kernel
theorem dX11_leastIn_47 : decode cX11_leastIn 47 = .ok (.getfield 60, 3) := by decide +kernel
theorem dX11_leastIn_50 : decode cX11_leastIn 50 = .ok (.iload_n 1, 1) := by decide +kernel
theorem dX11_leastIn_51 : decode cX11_leastIn 51 = .ok (.aload_n 0, 1) := by decide +kernel
theorem dX11_leastIn_52 : decode cX11_leastIn 52 = .ok (.getfield 138, 3) := by decide +kernel
theorem dX11_leastIn_55 : decode cX11_leastIn 55 = .ok (.imul, 1) := by decide +kernel
theorem dX11_leastIn_56 : decode cX11_leastIn 56 = .ok (.iload 4, 2) := by decide +kernel
theorem dX11_leastIn_58 : decode cX11_leastIn 58 = .ok (.iadd, 1) := by decide +kernel
theorem dX11_leastIn_59 : decode cX11_leastIn 59 = .ok (.iaload, 1) := by decide +kernel
theorem dX11_leastIn_60 : decode cX11_leastIn 60 = .ok (.if_icmp .ge 8, 3) := by decide +kernel
theorem dX11_leastIn_63 : decode cX11_leastIn 63 = .ok (.iload 5, 2) := by decide +kernel
theorem dX11_leastIn_65 : decode cX11_leastIn 65 = .ok (.goto 5, 3) := by decide +kernel
theorem dX11_leastIn_68 : decode cX11_leastIn 68 = .ok (.iload 4, 2) := by decide +kernel
theorem dX11_leastIn_70 : decode cX11_leastIn 70 = .ok (.istore 4, 2) := by decide +kernel
theorem dX11_leastIn_72 : decode cX11_leastIn 72 = .ok (.iinc 5 1, 3) := by decide +kernel
theorem dX11_leastIn_75 : decode cX11_leastIn 75 = .ok (.goto (-58), 3) := by decide +kernel
theorem dX11_leastIn_78 : decode cX11_leastIn 78 = .ok (.iload 4, 2) := by decide +kernel
theorem dX11_leastIn_80 : decode cX11_leastIn 80 = .ok (.ireturn, 1) := by decide +kernel
theorem dX11_laySeam_0 : decode cX11_laySeam 0 = .ok (.aload_n 0, 1) := by decide +kernel
theorem dX11_laySeam_1 : decode cX11_laySeam 1 = .ok (.iload_n 1, 1) := by decide +kernel
theorem dX11_laySeam_2 : decode cX11_laySeam 2 = .ok (.invokevirtual 153, 3) := by decide +kernel
theorem dX11_laySeam_5 : decode cX11_laySeam 5 = .ok (.iconst 0, 1) := by decide +kernel
theorem dX11_laySeam_6 : decode cX11_laySeam 6 = .ok (.istore_n 2, 1) := by decide +kernel
theorem dX11_laySeam_7 : decode cX11_laySeam 7 = .ok (.iload_n 2, 1) := by decide +kernel
theorem dX11_laySeam_8 : decode cX11_laySeam 8 = .ok (.aload_n 0, 1) := by decide +kernel
theorem dX11_laySeam_9 : decode cX11_laySeam 9 = .ok (.getfield 141, 3) := by decide +kernel
theorem dX11_laySeam_12 : decode cX11_laySeam 12 = .ok (.if_icmp .ge 84, 3) := by decide +kernel
theorem dX11_laySeam_15 : decode cX11_laySeam 15 = .ok (.iconst 0, 1) := by decide +kernel
theorem dX11_laySeam_16 : decode cX11_laySeam 16 = .ok (.istore_n 3, 1) := by decide +kernel
theorem dX11_laySeam_17 : decode cX11_laySeam 17 = .ok (.iload_n 3, 1) := by decide +kernel
theorem dX11_laySeam_18 : decode cX11_laySeam 18 = .ok (.aload_n 0, 1) := by decide +kernel
theorem dX11_laySeam_19 : decode cX11_laySeam 19 = .ok (.getfield 138, 3) := by decide +kernel
theorem dX11_laySeam_22 : decode cX11_laySeam 22 = .ok (.if_icmp .ge 68, 3) := by decide +kernel
theorem dX11_laySeam_25 : decode cX11_laySeam 25 = .ok (.iload_n 2, 1) := by decide +kernel
theorem dX11_laySeam_26 : decode cX11_laySeam 26 = .ok (.ifCond .ne 7, 3) := by decide +kernel
theorem dX11_laySeam_29 : decode cX11_laySeam 29 = .ok (.iconst 0, 1) := by decide +kernel
theorem dX11_laySeam_30 : decode cX11_laySeam 30 = .ok (.goto 30, 3) := by decide +kernel
theorem dX11_laySeam_33 : decode cX11_laySeam 33 = .ok (.aload_n 0, 1) := by decide +kernel
theorem dX11_laySeam_34 : decode cX11_laySeam 34 = .ok (.getfield 60, 3) := by decide +kernel
theorem dX11_laySeam_37 : decode cX11_laySeam 37 = .ok (.iload_n 2, 1) := by decide +kernel
theorem dX11_laySeam_38 : decode cX11_laySeam 38 = .ok (.iconst 1, 1) := by decide +kernel
theorem dX11_laySeam_39 : decode cX11_laySeam 39 = .ok (.isub, 1) := by decide +kernel
theorem dX11_laySeam_40 : decode cX11_laySeam 40 = .ok (.aload_n 0, 1) := by decide +kernel
theorem dX11_laySeam_41 : decode cX11_laySeam 41 = .ok (.getfield 138, 3) := by decide +kernel
theorem dX11_laySeam_44 : decode cX11_laySeam 44 = .ok (.imul, 1) := by decide +kernel
theorem dX11_laySeam_45 : decode cX11_laySeam 45 = .ok (.aload_n 0, 1) := by decide +kernel
theorem dX11_laySeam_46 : decode cX11_laySeam 46 = .ok (.iload_n 2, 1) := by decide +kernel
theorem dX11_laySeam_47 : decode cX11_laySeam 47 = .ok (.iconst 1, 1) := by decide +kernel
theorem dX11_laySeam_48 : decode cX11_laySeam 48 = .ok (.isub, 1) := by decide +kernel
theorem dX11_laySeam_49 : decode cX11_laySeam 49 = .ok (.iload_n 3, 1) := by decide +kernel
theorem dX11_laySeam_50 : decode cX11_laySeam 50 = .ok (.iconst 1, 1) := by decide +kernel
theorem dX11_laySeam_51 : decode cX11_laySeam 51 = .ok (.isub, 1) := by decide +kernel
theorem dX11_laySeam_52 : decode cX11_laySeam 52 = .ok (.iload_n 3, 1) := by decide +kernel
theorem dX11_laySeam_53 : decode cX11_laySeam 53 = .ok (.iconst 1, 1) := by decide +kernel
theorem dX11_laySeam_54 : decode cX11_laySeam 54 = .ok (.iadd, 1) := by decide +kernel
theorem dX11_laySeam_55 : decode cX11_laySeam 55 = .ok (.invokevirtual 251, 3) := by decide +kernel
theorem dX11_laySeam_58 : decode cX11_laySeam 58 = .ok (.iadd, 1) := by decide +kernel
theorem dX11_laySeam_59 : decode cX11_laySeam 59 = .ok (.iaload, 1) := by decide +kernel
theorem dX11_laySeam_60 : decode cX11_laySeam 60 = .ok (.istore 4, 2) := by decide +kernel
theorem dX11_laySeam_62 : decode cX11_laySeam 62 = .ok (.aload_n 0, 1) := by decide +kernel
theorem dX11_laySeam_63 : decode cX11_laySeam 63 = .ok (.getfield 60, 3) := by decide +kernel
theorem dX11_laySeam_66 : decode cX11_laySeam 66 = .ok (.iload_n 2, 1) := by decide +kernel
theorem dX11_laySeam_67 : decode cX11_laySeam 67 = .ok (.aload_n 0, 1) := by decide +kernel
theorem dX11_laySeam_68 : decode cX11_laySeam 68 = .ok (.getfield 138, 3) := by decide +kernel
theorem dX11_laySeam_71 : decode cX11_laySeam 71 = .ok (.imul, 1) := by decide +kernel
theorem dX11_laySeam_72 : decode cX11_laySeam 72 = .ok (.iload_n 3, 1) := by decide +kernel
theorem dX11_laySeam_73 : decode cX11_laySeam 73 = .ok (.iadd, 1) := by decide +kernel
theorem dX11_laySeam_74 : decode cX11_laySeam 74 = .ok (.aload_n 0, 1) := by decide +kernel
theorem dX11_laySeam_75 : decode cX11_laySeam 75 = .ok (.iload_n 3, 1) := by decide +kernel
theorem dX11_laySeam_76 : decode cX11_laySeam 76 = .ok (.iload_n 2, 1) := by decide +kernel
theorem dX11_laySeam_77 : decode cX11_laySeam 77 = .ok (.invokevirtual 248, 3) := by decide +kernel
theorem dX11_laySeam_80 : decode cX11_laySeam 80 = .ok (.iload 4, 2) := by decide +kernel
theorem dX11_laySeam_82 : decode cX11_laySeam 82 = .ok (.iadd, 1) := by decide +kernel
theorem dX11_laySeam_83 : decode cX11_laySeam 83 = .ok (.iastore, 1) := by decide +kernel
theorem dX11_laySeam_84 : decode cX11_laySeam 84 = .ok (.iinc 3 1, 3) := by decide +kernel
theorem dX11_laySeam_87 : decode cX11_laySeam 87 = .ok (.goto (-70), 3) := by decide +kernel
theorem dX11_laySeam_90 : decode cX11_laySeam 90 = .ok (.iinc 2 1, 3) := by decide +kernel
theorem dX11_laySeam_93 : decode cX11_laySeam 93 = .ok (.goto (-86), 3) := by decide +kernel
theorem dX11_laySeam_96 : decode cX11_laySeam 96 = .ok (.aload_n 0, 1) := by decide +kernel
theorem dX11_laySeam_97 : decode cX11_laySeam 97 = .ok (.aload_n 0, 1) := by decide +kernel
theorem dX11_laySeam_98 : decode cX11_laySeam 98 = .ok (.getfield 141, 3) := by decide +kernel
theorem dX11_laySeam_101 : decode cX11_laySeam 101 = .ok (.iconst 1, 1) := by decide +kernel
theorem dX11_laySeam_102 : decode cX11_laySeam 102 = .ok (.isub, 1) := by decide +kernel
theorem dX11_laySeam_103 : decode cX11_laySeam 103 = .ok (.iconst 0, 1) := by decide +kernel
theorem dX11_laySeam_104 : decode cX11_laySeam 104 = .ok (.aload_n 0, 1) := by decide +kernel
theorem dX11_laySeam_105 : decode cX11_laySeam 105 = .ok (.getfield 138, 3) := by decide +kernel
theorem dX11_laySeam_108 : decode cX11_laySeam 108 = .ok (.iconst 1, 1) := by decide +kernel
theorem dX11_laySeam_109 : decode cX11_laySeam 109 = .ok (.isub, 1) := by decide +kernel
theorem dX11_laySeam_110 : decode cX11_laySeam 110 = .ok (.invokevirtual 251, 3) := by decide +kernel
theorem dX11_laySeam_113 : decode cX11_laySeam 113 = .ok (.istore_n 2, 1) := by decide +kernel
theorem dX11_laySeam_114 : decode cX11_laySeam 114 = .ok (.aload_n 0, 1) := by decide +kernel
theorem dX11_laySeam_115 : decode cX11_laySeam 115 = .ok (.getfield 60, 3) := by decide +kernel
theorem dX11_laySeam_118 : decode cX11_laySeam 118 = .ok (.aload_n 0, 1) := by decide +kernel
theorem dX11_laySeam_119 : decode cX11_laySeam 119 = .ok (.getfield 141, 3) := by decide +kernel
theorem dX11_laySeam_122 : decode cX11_laySeam 122 = .ok (.iconst 1, 1) := by decide +kernel
theorem dX11_laySeam_123 : decode cX11_laySeam 123 = .ok (.isub, 1) := by decide +kernel
theorem dX11_laySeam_124 : decode cX11_laySeam 124 = .ok (.aload_n 0, 1) := by decide +kernel
theorem dX11_laySeam_125 : decode cX11_laySeam 125 = .ok (.getfield 138, 3) := by decide +kernel
theorem dX11_laySeam_128 : decode cX11_laySeam 128 = .ok (.imul, 1) := by decide +kernel
theorem dX11_laySeam_129 : decode cX11_laySeam 129 = .ok (.iload_n 2, 1) := by decide +kernel
theorem dX11_laySeam_130 : decode cX11_laySeam 130 = .ok (.iadd, 1) := by decide +kernel
theorem dX11_laySeam_131 : decode cX11_laySeam 131 = .ok (.iaload, 1) := by decide +kernel
theorem dX11_laySeam_132 : decode cX11_laySeam 132 = .ok (.istore_n 3, 1) := by decide +kernel
theorem dX11_laySeam_133 : decode cX11_laySeam 133 = .ok (.aload_n 0, 1) := by decide +kernel
theorem dX11_laySeam_134 : decode cX11_laySeam 134 = .ok (.getfield 141, 3) := by decide +kernel
theorem dX11_laySeam_137 : decode cX11_laySeam 137 = .ok (.iconst 1, 1) := by decide +kernel
theorem dX11_laySeam_138 : decode cX11_laySeam 138 = .ok (.isub, 1) := by decide +kernel
theorem dX11_laySeam_139 : decode cX11_laySeam 139 = .ok (.istore 4, 2) := by decide +kernel
theorem dX11_laySeam_141 : decode cX11_laySeam 141 = .ok (.iload 4, 2) := by decide +kernel
theorem dX11_laySeam_143 : decode cX11_laySeam 143 = .ok (.ifCond .lt 41, 3) := by decide +kernel
theorem dX11_laySeam_146 : decode cX11_laySeam 146 = .ok (.aload_n 0, 1) := by decide +kernel
theorem dX11_laySeam_147 : decode cX11_laySeam 147 = .ok (.getfield 63, 3) := by decide +kernel
theorem dX11_laySeam_150 : decode cX11_laySeam 150 = .ok (.iload 4, 2) := by decide +kernel
theorem dX11_laySeam_152 : decode cX11_laySeam 152 = .ok (.iload_n 2, 1) := by decide +kernel
theorem dX11_laySeam_153 : decode cX11_laySeam 153 = .ok (.iastore, 1) := by decide +kernel
theorem dX11_laySeam_154 : decode cX11_laySeam 154 = .ok (.iload 4, 2) := by decide +kernel
theorem dX11_laySeam_156 : decode cX11_laySeam 156 = .ok (.ifCond .le 20, 3) := by decide +kernel
theorem dX11_laySeam_159 : decode cX11_laySeam 159 = .ok (.aload_n 0, 1) := by decide +kernel
theorem dX11_laySeam_160 : decode cX11_laySeam 160 = .ok (.iload 4, 2) := by decide +kernel
theorem dX11_laySeam_162 : decode cX11_laySeam 162 = .ok (.iconst 1, 1) := by decide +kernel
theorem dX11_laySeam_163 : decode cX11_laySeam 163 = .ok (.isub, 1) := by decide +kernel
theorem dX11_laySeam_164 : decode cX11_laySeam 164 = .ok (.iload_n 2, 1) := by decide +kernel
theorem dX11_laySeam_165 : decode cX11_laySeam 165 = .ok (.iconst 1, 1) := by decide +kernel
theorem dX11_laySeam_166 : decode cX11_laySeam 166 = .ok (.isub, 1) := by decide +kernel
theorem dX11_laySeam_167 : decode cX11_laySeam 167 = .ok (.iload_n 2, 1) := by decide +kernel
theorem dX11_laySeam_168 : decode cX11_laySeam 168 = .ok (.iconst 1, 1) := by decide +kernel
theorem dX11_laySeam_169 : decode cX11_laySeam 169 = .ok (.iadd, 1) := by decide +kernel
theorem dX11_laySeam_170 : decode cX11_laySeam 170 = .ok (.invokevirtual 251, 3) := by decide +kernel
theorem dX11_laySeam_173 : decode cX11_laySeam 173 = .ok (.goto 4, 3) := by decide +kernel
theorem dX11_laySeam_176 : decode cX11_laySeam 176 = .ok (.iload_n 2, 1) := by decide +kernel
theorem dX11_laySeam_177 : decode cX11_laySeam 177 = .ok (.istore_n 2, 1) := by decide +kernel
theorem dX11_laySeam_178 : decode cX11_laySeam 178 = .ok (.iinc 4 (-1), 3) := by decide +kernel
theorem dX11_laySeam_181 : decode cX11_laySeam 181 = .ok (.goto (-40), 3) := by decide +kernel
theorem dX11_laySeam_184 : decode cX11_laySeam 184 = .ok (.iload_n 3, 1) := by decide +kernel
theorem dX11_laySeam_185 : decode cX11_laySeam 185 = .ok (.ireturn, 1) := by decide +kernel
theorem dX11_seam_0 : decode cX11_seam 0 = .ok (.iload_n 1, 1) := by decide +kernel
theorem dX11_seam_1 : decode cX11_seam 1 = .ok (.invokestatic 101, 3) := by decide +kernel
theorem dX11_seam_4 : decode cX11_seam 4 = .ok (.ifCond .eq 8, 3) := by decide +kernel
theorem dX11_seam_7 : decode cX11_seam 7 = .ok (.iload_n 2, 1) := by decide +kernel
theorem dX11_seam_8 : decode cX11_seam 8 = .ok (.iconst (-1), 1) := by decide +kernel
theorem dX11_seam_9 : decode cX11_seam 9 = .ok (.if_icmp .ge 6, 3) := by decide +kernel
theorem dX11_seam_12 : decode cX11_seam 12 = .ok (.ldc 109, 2) := by decide +kernel
theorem dX11_seam_14 : decode cX11_seam 14 = .ok (.ireturn, 1) := by decide +kernel
theorem dX11_seam_15 : decode cX11_seam 15 = .ok (.aload_n 0, 1) := by decide +kernel
theorem dX11_seam_16 : decode cX11_seam 16 = .ok (.iload_n 1, 1) := by decide +kernel
theorem dX11_seam_17 : decode cX11_seam 17 = .ok (.invokevirtual 117, 3) := by decide +kernel
theorem dX11_seam_20 : decode cX11_seam 20 = .ok (.ifCond .eq 12, 3) := by decide +kernel
theorem dX11_seam_23 : decode cX11_seam 23 = .ok (.iload_n 2, 1) := by decide +kernel
theorem dX11_seam_24 : decode cX11_seam 24 = .ok (.aload_n 0, 1) := by decide +kernel
theorem dX11_seam_25 : decode cX11_seam 25 = .ok (.iload_n 1, 1) := by decide +kernel
theorem dX11_seam_26 : decode cX11_seam 26 = .ok (.invokevirtual 85, 3) := by decide +kernel
theorem dX11_seam_29 : decode cX11_seam 29 = .ok (.if_icmp .lt 6, 3) := by decide +kernel
theorem dX11_seam_32 : decode cX11_seam 32 = .ok (.ldc 96, 2) := by decide +kernel
theorem dX11_seam_34 : decode cX11_seam 34 = .ok (.ireturn, 1) := by decide +kernel
theorem dX11_seam_35 : decode cX11_seam 35 = .ok (.aload_n 0, 1) := by decide +kernel
theorem dX11_seam_36 : decode cX11_seam 36 = .ok (.iload_n 1, 1) := by decide +kernel
theorem dX11_seam_37 : decode cX11_seam 37 = .ok (.invokevirtual 254, 3) := by decide +kernel
theorem dX11_seam_40 : decode cX11_seam 40 = .ok (.istore_n 3, 1) := by decide +kernel
theorem dX11_seam_41 : decode cX11_seam 41 = .ok (.iload_n 2, 1) := by decide +kernel
theorem dX11_seam_42 : decode cX11_seam 42 = .ok (.ifCond .ge 7, 3) := by decide +kernel
theorem dX11_seam_45 : decode cX11_seam 45 = .ok (.iload_n 3, 1) := by decide +kernel
theorem dX11_seam_46 : decode cX11_seam 46 = .ok (.goto 9, 3) := by decide +kernel
theorem dX11_seam_49 : decode cX11_seam 49 = .ok (.aload_n 0, 1) := by decide +kernel
theorem dX11_seam_50 : decode cX11_seam 50 = .ok (.getfield 63, 3) := by decide +kernel
theorem dX11_seam_53 : decode cX11_seam 53 = .ok (.iload_n 2, 1) := by decide +kernel
theorem dX11_seam_54 : decode cX11_seam 54 = .ok (.iaload, 1) := by decide +kernel
theorem dX11_seam_55 : decode cX11_seam 55 = .ok (.ireturn, 1) := by decide +kernel
theorem dX11_seamGoes_0 : decode cX11_seamGoes 0 = .ok (.iload_n 1, 1) := by decide +kernel
theorem dX11_seamGoes_1 : decode cX11_seamGoes 1 = .ok (.invokestatic 101, 3) := by decide +kernel
theorem dX11_seamGoes_4 : decode cX11_seamGoes 4 = .ok (.ifCond .eq 13, 3) := by decide +kernel
theorem dX11_seamGoes_7 : decode cX11_seamGoes 7 = .ok (.iload_n 2, 1) := by decide +kernel
theorem dX11_seamGoes_8 : decode cX11_seamGoes 8 = .ok (.i2l, 1) := by decide +kernel
theorem dX11_seamGoes_9 : decode cX11_seamGoes 9 = .ok (.lconst 0, 1) := by decide +kernel
theorem dX11_seamGoes_10 : decode cX11_seamGoes 10 = .ok (.lconst 1, 1) := by decide +kernel
theorem dX11_seamGoes_11 : decode cX11_seamGoes 11 = .ok (.invokestatic 71, 3) := by decide +kernel
theorem dX11_seamGoes_14 : decode cX11_seamGoes 14 = .ok (.ifCond .ne 6, 3) := by decide +kernel
theorem dX11_seamGoes_17 : decode cX11_seamGoes 17 = .ok (.ldc 109, 2) := by decide +kernel
theorem dX11_seamGoes_19 : decode cX11_seamGoes 19 = .ok (.ireturn, 1) := by decide +kernel
theorem dX11_seamGoes_20 : decode cX11_seamGoes 20 = .ok (.aload_n 0, 1) := by decide +kernel
theorem dX11_seamGoes_21 : decode cX11_seamGoes 21 = .ok (.iload_n 1, 1) := by decide +kernel
theorem dX11_seamGoes_22 : decode cX11_seamGoes 22 = .ok (.invokevirtual 117, 3) := by decide +kernel
theorem dX11_seamGoes_25 : decode cX11_seamGoes 25 = .ok (.ifCond .eq 21, 3) := by decide +kernel
theorem dX11_seamGoes_28 : decode cX11_seamGoes 28 = .ok (.aload_n 0, 1) := by decide +kernel
theorem dX11_seamGoes_29 : decode cX11_seamGoes 29 = .ok (.iload_n 1, 1) := by decide +kernel
theorem dX11_seamGoes_30 : decode cX11_seamGoes 30 = .ok (.invokevirtual 82, 3) := by decide +kernel
theorem dX11_seamGoes_33 : decode cX11_seamGoes 33 = .ok (.iload_n 2, 1) := by decide +kernel
theorem dX11_seamGoes_34 : decode cX11_seamGoes 34 = .ok (.ifCond .ne 7, 3) := by decide +kernel
theorem dX11_seamGoes_37 : decode cX11_seamGoes 37 = .ok (.iconst 1, 1) := by decide +kernel
theorem dX11_seamGoes_38 : decode cX11_seamGoes 38 = .ok (.goto 5, 3) := by decide +kernel
theorem dX11_seamGoes_41 : decode cX11_seamGoes 41 = .ok (.bipush 16, 2) := by decide +kernel
theorem dX11_seamGoes_43 : decode cX11_seamGoes 43 = .ok (.if_icmp .ne 6, 3) := by decide +kernel
theorem dX11_seamGoes_46 : decode cX11_seamGoes 46 = .ok (.ldc 96, 2) := by decide +kernel
theorem dX11_seamGoes_48 : decode cX11_seamGoes 48 = .ok (.ireturn, 1) := by decide +kernel
theorem dX11_seamGoes_49 : decode cX11_seamGoes 49 = .ok (.aload_n 0, 1) := by decide +kernel
theorem dX11_seamGoes_50 : decode cX11_seamGoes 50 = .ok (.invokevirtual 110, 3) := by decide +kernel
theorem dX11_seamGoes_53 : decode cX11_seamGoes 53 = .ok (.aload_n 0, 1) := by decide +kernel
theorem dX11_seamGoes_54 : decode cX11_seamGoes 54 = .ok (.iload_n 1, 1) := by decide +kernel
theorem dX11_seamGoes_55 : decode cX11_seamGoes 55 = .ok (.invokevirtual 254, 3) := by decide +kernel
theorem dX11_seamGoes_58 : decode cX11_seamGoes 58 = .ok (.istore_n 3, 1) := by decide +kernel
theorem dX11_seamGoes_59 : decode cX11_seamGoes 59 = .ok (.aload_n 0, 1) := by decide +kernel
theorem dX11_seamGoes_60 : decode cX11_seamGoes 60 = .ok (.getfield 138, 3) := by decide +kernel
theorem dX11_seamGoes_63 : decode cX11_seamGoes 63 = .ok (.iload_n 2, 1) := by decide +kernel
theorem dX11_seamGoes_64 : decode cX11_seamGoes 64 = .ok (.ifCond .ne 7, 3) := by decide +kernel
theorem dX11_seamGoes_67 : decode cX11_seamGoes 67 = .ok (.iconst (-1), 1) := by decide +kernel
theorem dX11_seamGoes_68 : decode cX11_seamGoes 68 = .ok (.goto 4, 3) := by decide +kernel
theorem dX11_seamGoes_71 : decode cX11_seamGoes 71 = .ok (.iconst 1, 1) := by decide +kernel
theorem dX11_seamGoes_72 : decode cX11_seamGoes 72 = .ok (.iadd, 1) := by decide +kernel
theorem dX11_seamGoes_73 : decode cX11_seamGoes 73 = .ok (.istore 4, 2) := by decide +kernel
theorem dX11_seamGoes_75 : decode cX11_seamGoes 75 = .ok (.aload_n 0, 1) := by decide +kernel
theorem dX11_seamGoes_76 : decode cX11_seamGoes 76 = .ok (.iload_n 1, 1) := by decide +kernel
theorem dX11_seamGoes_77 : decode cX11_seamGoes 77 = .ok (.aload_n 0, 1) := by decide +kernel
theorem dX11_seamGoes_78 : decode cX11_seamGoes 78 = .ok (.iload_n 1, 1) := by decide +kernel
theorem dX11_seamGoes_79 : decode cX11_seamGoes 79 = .ok (.invokevirtual 124, 3) := by decide +kernel
theorem dX11_seamGoes_82 : decode cX11_seamGoes 82 = .ok (.iload 4, 2) := by decide +kernel
theorem dX11_seamGoes_84 : decode cX11_seamGoes 84 = .ok (.aload_n 0, 1) := by decide +kernel
theorem dX11_seamGoes_85 : decode cX11_seamGoes 85 = .ok (.getfield 141, 3) := by decide +kernel
theorem dX11_seamGoes_88 : decode cX11_seamGoes 88 = .ok (.invokevirtual 113, 3) := by decide +kernel
theorem dX11_seamGoes_91 : decode cX11_seamGoes 91 = .ok (.iconst 0, 1) := by decide +kernel
theorem dX11_seamGoes_92 : decode cX11_seamGoes 92 = .ok (.istore 5, 2) := by decide +kernel
theorem dX11_seamGoes_94 : decode cX11_seamGoes 94 = .ok (.iload 5, 2) := by decide +kernel
theorem dX11_seamGoes_96 : decode cX11_seamGoes 96 = .ok (.aload_n 0, 1) := by decide +kernel
theorem dX11_seamGoes_97 : decode cX11_seamGoes 97 = .ok (.getfield 141, 3) := by decide +kernel
theorem dX11_seamGoes_100 : decode cX11_seamGoes 100 = .ok (.if_icmp .ge 105, 3) := by decide +kernel
theorem dX11_seamGoes_103 : decode cX11_seamGoes 103 = .ok (.iconst 0, 1) := by decide +kernel
theorem dX11_seamGoes_104 : decode cX11_seamGoes 104 = .ok (.istore 6, 2) := by decide +kernel
theorem dX11_seamGoes_106 : decode cX11_seamGoes 106 = .ok (.iload 6, 2) := by decide +kernel
theorem dX11_seamGoes_108 : decode cX11_seamGoes 108 = .ok (.iload 4, 2) := by decide +kernel
theorem dX11_seamGoes_110 : decode cX11_seamGoes 110 = .ok (.if_icmp .ge 89, 3) := by decide +kernel
theorem dX11_seamGoes_113 : decode cX11_seamGoes 113 = .ok (.iload_n 2, 1) := by decide +kernel
theorem dX11_seamGoes_114 : decode cX11_seamGoes 114 = .ok (.ifCond .ne 27, 3) := by decide +kernel
theorem dX11_seamGoes_117 : decode cX11_seamGoes 117 = .ok (.iload 6, 2) := by decide +kernel
theorem dX11_seamGoes_119 : decode cX11_seamGoes 119 = .ok (.aload_n 0, 1) := by decide +kernel
theorem dX11_seamGoes_120 : decode cX11_seamGoes 120 = .ok (.getfield 63, 3) := by decide +kernel
theorem dX11_seamGoes_123 : decode cX11_seamGoes 123 = .ok (.iload 5, 2) := by decide +kernel
theorem dX11_seamGoes_125 : decode cX11_seamGoes 125 = .ok (.iaload, 1) := by decide +kernel
theorem dX11_seamGoes_126 : decode cX11_seamGoes 126 = .ok (.if_icmp .ge 8, 3) := by decide +kernel
theorem dX11_seamGoes_129 : decode cX11_seamGoes 129 = .ok (.iload 6, 2) := by decide +kernel
theorem dX11_seamGoes_131 : decode cX11_seamGoes 131 = .ok (.goto 31, 3) := by decide +kernel
theorem dX11_seamGoes_134 : decode cX11_seamGoes 134 = .ok (.iload 6, 2) := by decide +kernel
theorem dX11_seamGoes_136 : decode cX11_seamGoes 136 = .ok (.iconst 1, 1) := by decide +kernel
theorem dX11_seamGoes_137 : decode cX11_seamGoes 137 = .ok (.iadd, 1) := by decide +kernel
theorem dX11_seamGoes_138 : decode cX11_seamGoes 138 = .ok (.goto 24, 3) := by decide +kernel
theorem dX11_seamGoes_141 : decode cX11_seamGoes 141 = .ok (.iload 6, 2) := by decide +kernel
theorem dX11_seamGoes_143 : decode cX11_seamGoes 143 = .ok (.aload_n 0, 1) := by decide +kernel
theorem dX11_seamGoes_144 : decode cX11_seamGoes 144 = .ok (.getfield 63, 3) := by decide +kernel
theorem dX11_seamGoes_147 : decode cX11_seamGoes 147 = .ok (.iload 5, 2) := by decide +kernel
theorem dX11_seamGoes_149 : decode cX11_seamGoes 149 = .ok (.iaload, 1) := by decide +kernel
theorem dX11_seamGoes_150 : decode cX11_seamGoes 150 = .ok (.if_icmp .gt 8, 3) := by decide +kernel
theorem dX11_seamGoes_153 : decode cX11_seamGoes 153 = .ok (.iload 6, 2) := by decide +kernel
theorem dX11_seamGoes_155 : decode cX11_seamGoes 155 = .ok (.goto 7, 3) := by decide +kernel
theorem dX11_seamGoes_158 : decode cX11_seamGoes 158 = .ok (.iload 6, 2) := by decide +kernel
theorem dX11_seamGoes_160 : decode cX11_seamGoes 160 = .ok (.iconst 1, 1) := by decide +kernel
theorem dX11_seamGoes_161 : decode cX11_seamGoes 161 = .ok (.isub, 1) := by decide +kernel
theorem dX11_seamGoes_162 : decode cX11_seamGoes 162 = .ok (.istore 7, 2) := by decide +kernel
theorem dX11_seamGoes_164 : decode cX11_seamGoes 164 = .ok (.aload_n 0, 1) := by decide +kernel
theorem dX11_seamGoes_165 : decode cX11_seamGoes 165 = .ok (.getfield 7, 3) := by decide +kernel
theorem dX11_seamGoes_168 : decode cX11_seamGoes 168 = .ok (.aload_n 0, 1) := by decide +kernel
theorem dX11_seamGoes_169 : decode cX11_seamGoes 169 = .ok (.iload_n 1, 1) := by decide +kernel
theorem dX11_seamGoes_170 : decode cX11_seamGoes 170 = .ok (.iload 6, 2) := by decide +kernel
theorem dX11_seamGoes_172 : decode cX11_seamGoes 172 = .ok (.iload 5, 2) := by decide +kernel
theorem dX11_seamGoes_174 : decode cX11_seamGoes 174 = .ok (.invokevirtual 127, 3) := by decide +kernel
theorem dX11_seamGoes_177 : decode cX11_seamGoes 177 = .ok (.aload_n 0, 1) := by decide +kernel
theorem dX11_seamGoes_178 : decode cX11_seamGoes 178 = .ok (.getfield 35, 3) := by decide +kernel
theorem dX11_seamGoes_181 : decode cX11_seamGoes 181 = .ok (.iload 5, 2) := by decide +kernel
theorem dX11_seamGoes_183 : decode cX11_seamGoes 183 = .ok (.aload_n 0, 1) := by decide +kernel
theorem dX11_seamGoes_184 : decode cX11_seamGoes 184 = .ok (.getfield 138, 3) := by decide +kernel
theorem dX11_seamGoes_187 : decode cX11_seamGoes 187 = .ok (.imul, 1) := by decide +kernel
theorem dX11_seamGoes_188 : decode cX11_seamGoes 188 = .ok (.iload 7, 2) := by decide +kernel
theorem dX11_seamGoes_190 : decode cX11_seamGoes 190 = .ok (.iadd, 1) := by decide +kernel
theorem dX11_seamGoes_191 : decode cX11_seamGoes 191 = .ok (.iaload, 1) := by decide +kernel
theorem dX11_seamGoes_192 : decode cX11_seamGoes 192 = .ok (.iastore, 1) := by decide +kernel
theorem dX11_seamGoes_193 : decode cX11_seamGoes 193 = .ok (.iinc 6 1, 3) := by decide +kernel
theorem dX11_seamGoes_196 : decode cX11_seamGoes 196 = .ok (.goto (-90), 3) := by decide +kernel
theorem dX11_seamGoes_199 : decode cX11_seamGoes 199 = .ok (.iinc 5 1, 3) := by decide +kernel
theorem dX11_seamGoes_202 : decode cX11_seamGoes 202 = .ok (.goto (-108), 3) := by decide +kernel
theorem dX11_seamGoes_205 : decode cX11_seamGoes 205 = .ok (.iload 4, 2) := by decide +kernel
theorem dX11_seamGoes_207 : decode cX11_seamGoes 207 = .ok (.ireturn, 1) := by decide +kernel
theorem dX11_addRun_0 : decode cX11_addRun 0 = .ok (.aload_n 0, 1) := by decide +kernel
theorem dX11_addRun_1 : decode cX11_addRun 1 = .ok (.getfield 66, 3) := by decide +kernel
theorem dX11_addRun_4 : decode cX11_addRun 4 = .ok (.aload_n 0, 1) := by decide +kernel
theorem dX11_addRun_5 : decode cX11_addRun 5 = .ok (.getfield 257, 3) := by decide +kernel
theorem dX11_addRun_8 : decode cX11_addRun 8 = .ok (.iload_n 1, 1) := by decide +kernel
theorem dX11_addRun_9 : decode cX11_addRun 9 = .ok (.sipush 255, 3) := by decide +kernel
theorem dX11_addRun_12 : decode cX11_addRun 12 = .ok (.iand, 1) := by decide +kernel
theorem dX11_addRun_13 : decode cX11_addRun 13 = .ok (.iastore, 1) := by decide +kernel
theorem dX11_addRun_14 : decode cX11_addRun 14 = .ok (.aload_n 0, 1) := by decide +kernel
theorem dX11_addRun_15 : decode cX11_addRun 15 = .ok (.dup, 1) := by decide +kernel
theorem dX11_addRun_16 : decode cX11_addRun 16 = .ok (.getfield 257, 3) := by decide +kernel
theorem dX11_addRun_19 : decode cX11_addRun 19 = .ok (.iconst 1, 1) := by decide +kernel
theorem dX11_addRun_20 : decode cX11_addRun 20 = .ok (.iadd, 1) := by decide +kernel
theorem dX11_addRun_21 : decode cX11_addRun 21 = .ok (.putfield 257, 3) := by decide +kernel
theorem dX11_addRun_24 : decode cX11_addRun 24 = .ok (.return_, 1) := by decide +kernel
theorem dX11_layRuns_0 : decode cX11_layRuns 0 = .ok (.aload_n 0, 1) := by decide +kernel
theorem dX11_layRuns_1 : decode cX11_layRuns 1 = .ok (.iconst 0, 1) := by decide +kernel
theorem dX11_layRuns_2 : decode cX11_layRuns 2 = .ok (.putfield 257, 3) := by decide +kernel
theorem dX11_layRuns_5 : decode cX11_layRuns 5 = .ok (.aload_n 0, 1) := by decide +kernel
theorem dX11_layRuns_6 : decode cX11_layRuns 6 = .ok (.aload_n 0, 1) := by decide +kernel
theorem dX11_layRuns_7 : decode cX11_layRuns 7 = .ok (.iload_n 1, 1) := by decide +kernel
theorem dX11_layRuns_8 : decode cX11_layRuns 8 = .ok (.invokevirtual 124, 3) := by decide +kernel
theorem dX11_layRuns_11 : decode cX11_layRuns 11 = .ok (.invokevirtual 260, 3) := by decide +kernel
theorem dX11_layRuns_14 : decode cX11_layRuns 14 = .ok (.aload_n 0, 1) := by decide +kernel
theorem dX11_layRuns_15 : decode cX11_layRuns 15 = .ok (.aload_n 0, 1) := by decide +kernel
theorem dX11_layRuns_16 : decode cX11_layRuns 16 = .ok (.iload_n 1, 1) := by decide +kernel
theorem dX11_layRuns_17 : decode cX11_layRuns 17 = .ok (.invokevirtual 82, 3) := by decide +kernel
theorem dX11_layRuns_20 : decode cX11_layRuns 20 = .ok (.invokevirtual 260, 3) := by decide +kernel
theorem dX11_layRuns_23 : decode cX11_layRuns 23 = .ok (.aload_n 0, 1) := by decide +kernel
theorem dX11_layRuns_24 : decode cX11_layRuns 24 = .ok (.aload_n 0, 1) := by decide +kernel
theorem dX11_layRuns_25 : decode cX11_layRuns 25 = .ok (.iload_n 1, 1) := by decide +kernel
theorem dX11_layRuns_26 : decode cX11_layRuns 26 = .ok (.invokevirtual 85, 3) := by decide +kernel
theorem dX11_layRuns_29 : decode cX11_layRuns 29 = .ok (.invokevirtual 260, 3) := by decide +kernel
theorem dX11_layRuns_32 : decode cX11_layRuns 32 = .ok (.aload_n 0, 1) := by decide +kernel
theorem dX11_layRuns_33 : decode cX11_layRuns 33 = .ok (.iload_n 1, 1) := by decide +kernel
theorem dX11_layRuns_34 : decode cX11_layRuns 34 = .ok (.invokevirtual 133, 3) := by decide +kernel
theorem dX11_layRuns_37 : decode cX11_layRuns 37 = .ok (.istore_n 2, 1) := by decide +kernel
theorem dX11_layRuns_38 : decode cX11_layRuns 38 = .ok (.iconst 0, 1) := by decide +kernel
theorem dX11_layRuns_39 : decode cX11_layRuns 39 = .ok (.istore_n 3, 1) := by decide +kernel
theorem dX11_layRuns_40 : decode cX11_layRuns 40 = .ok (.iload_n 3, 1) := by decide +kernel
theorem dX11_layRuns_41 : decode cX11_layRuns 41 = .ok (.iload_n 2, 1) := by decide +kernel
theorem dX11_layRuns_42 : decode cX11_layRuns 42 = .ok (.if_icmp .ge 104, 3) := by decide +kernel
theorem dX11_layRuns_45 : decode cX11_layRuns 45 = .ok (.aload_n 0, 1) := by decide +kernel
theorem dX11_layRuns_46 : decode cX11_layRuns 46 = .ok (.getfield 7, 3) := by decide +kernel
theorem dX11_layRuns_49 : decode cX11_layRuns 49 = .ok (.sipush 259, 3) := by decide +kernel
theorem dX11_layRuns_52 : decode cX11_layRuns 52 = .ok (.iload_n 1, 1) := by decide +kernel
theorem dX11_layRuns_53 : decode cX11_layRuns 53 = .ok (.imul, 1) := by decide +kernel
theorem dX11_layRuns_54 : decode cX11_layRuns 54 = .ok (.iconst 3, 1) := by decide +kernel
theorem dX11_layRuns_55 : decode cX11_layRuns 55 = .ok (.iadd, 1) := by decide +kernel
theorem dX11_layRuns_56 : decode cX11_layRuns 56 = .ok (.iload_n 3, 1) := by decide +kernel
theorem dX11_layRuns_57 : decode cX11_layRuns 57 = .ok (.iadd, 1) := by decide +kernel
theorem dX11_layRuns_58 : decode cX11_layRuns 58 = .ok (.iaload, 1) := by decide +kernel
theorem dX11_layRuns_59 : decode cX11_layRuns 59 = .ok (.istore 4, 2) := by decide +kernel
theorem dX11_layRuns_61 : decode cX11_layRuns 61 = .ok (.iconst 1, 1) := by decide +kernel
theorem dX11_layRuns_62 : decode cX11_layRuns 62 = .ok (.istore 5, 2) := by decide +kernel
theorem dX11_layRuns_64 : decode cX11_layRuns 64 = .ok (.iload_n 3, 1) := by decide +kernel
theorem dX11_layRuns_65 : decode cX11_layRuns 65 = .ok (.iload 5, 2) := by decide +kernel
theorem dX11_layRuns_67 : decode cX11_layRuns 67 = .ok (.iadd, 1) := by decide +kernel
theorem dX11_layRuns_68 : decode cX11_layRuns 68 = .ok (.iload_n 2, 1) := by decide +kernel
theorem dX11_layRuns_69 : decode cX11_layRuns 69 = .ok (.if_icmp .ge 39, 3) := by decide +kernel
theorem dX11_layRuns_72 : decode cX11_layRuns 72 = .ok (.iload 5, 2) := by decide +kernel
theorem dX11_layRuns_74 : decode cX11_layRuns 74 = .ok (.sipush 255, 3) := by decide +kernel
theorem dX11_layRuns_77 : decode cX11_layRuns 77 = .ok (.if_icmp .ge 31, 3) := by decide +kernel
theorem dX11_layRuns_80 : decode cX11_layRuns 80 = .ok (.aload_n 0, 1) := by decide +kernel
theorem dX11_layRuns_81 : decode cX11_layRuns 81 = .ok (.getfield 7, 3) := by decide +kernel
theorem dX11_layRuns_84 : decode cX11_layRuns 84 = .ok (.sipush 259, 3) := by decide +kernel
theorem dX11_layRuns_87 : decode cX11_layRuns 87 = .ok (.iload_n 1, 1) := by decide +kernel
theorem dX11_layRuns_88 : decode cX11_layRuns 88 = .ok (.imul, 1) := by decide +kernel
theorem dX11_layRuns_89 : decode cX11_layRuns 89 = .ok (.iconst 3, 1) := by decide +kernel
theorem dX11_layRuns_90 : decode cX11_layRuns 90 = .ok (.iadd, 1) := by decide +kernel
theorem dX11_layRuns_91 : decode cX11_layRuns 91 = .ok (.iload_n 3, 1) := by decide +kernel
theorem dX11_layRuns_92 : decode cX11_layRuns 92 = .ok (.iadd, 1) := by decide +kernel
theorem dX11_layRuns_93 : decode cX11_layRuns 93 = .ok (.iload 5, 2) := by decide +kernel
theorem dX11_layRuns_95 : decode cX11_layRuns 95 = .ok (.iadd, 1) := by decide +kernel
theorem dX11_layRuns_96 : decode cX11_layRuns 96 = .ok (.iaload, 1) := by decide +kernel
theorem dX11_layRuns_97 : decode cX11_layRuns 97 = .ok (.iload 4, 2) := by decide +kernel
theorem dX11_layRuns_99 : decode cX11_layRuns 99 = .ok (.if_icmp .ne 9, 3) := by decide +kernel
theorem dX11_layRuns_102 : decode cX11_layRuns 102 = .ok (.iinc 5 1, 3) := by decide +kernel
theorem dX11_layRuns_105 : decode cX11_layRuns 105 = .ok (.goto (-41), 3) := by decide +kernel
theorem dX11_layRuns_108 : decode cX11_layRuns 108 = .ok (.aload_n 0, 1) := by decide +kernel
theorem dX11_layRuns_109 : decode cX11_layRuns 109 = .ok (.iload 5, 2) := by decide +kernel
theorem dX11_layRuns_111 : decode cX11_layRuns 111 = .ok (.invokevirtual 260, 3) := by decide +kernel
theorem dX11_layRuns_114 : decode cX11_layRuns 114 = .ok (.aload_n 0, 1) := by decide +kernel
theorem dX11_layRuns_115 : decode cX11_layRuns 115 = .ok (.iload_n 1, 1) := by decide +kernel
theorem dX11_layRuns_116 : decode cX11_layRuns 116 = .ok (.invokevirtual 124, 3) := by decide +kernel
theorem dX11_layRuns_119 : decode cX11_layRuns 119 = .ok (.iconst 1, 1) := by decide +kernel
theorem dX11_layRuns_120 : decode cX11_layRuns 120 = .ok (.if_icmp .ne 12, 3) := by decide +kernel
theorem dX11_layRuns_123 : decode cX11_layRuns 123 = .ok (.aload_n 0, 1) := by decide +kernel
theorem dX11_layRuns_124 : decode cX11_layRuns 124 = .ok (.iload 4, 2) := by decide +kernel
theorem dX11_layRuns_126 : decode cX11_layRuns 126 = .ok (.bipush 8, 2) := by decide +kernel
theorem dX11_layRuns_128 : decode cX11_layRuns 128 = .ok (.ishr, 1) := by decide +kernel
theorem dX11_layRuns_129 : decode cX11_layRuns 129 = .ok (.invokevirtual 260, 3) := by decide +kernel
theorem dX11_layRuns_132 : decode cX11_layRuns 132 = .ok (.aload_n 0, 1) := by decide +kernel
theorem dX11_layRuns_133 : decode cX11_layRuns 133 = .ok (.iload 4, 2) := by decide +kernel
theorem dX11_layRuns_135 : decode cX11_layRuns 135 = .ok (.invokevirtual 260, 3) := by decide +kernel
theorem dX11_layRuns_138 : decode cX11_layRuns 138 = .ok (.iload_n 3, 1) := by decide +kernel
theorem dX11_layRuns_139 : decode cX11_layRuns 139 = .ok (.iload 5, 2) := by decide +kernel
theorem dX11_layRuns_141 : decode cX11_layRuns 141 = .ok (.iadd, 1) := by decide +kernel
theorem dX11_layRuns_142 : decode cX11_layRuns 142 = .ok (.istore_n 3, 1) := by decide +kernel
theorem dX11_layRuns_143 : decode cX11_layRuns 143 = .ok (.goto (-103), 3) := by decide +kernel
theorem dX11_layRuns_146 : decode cX11_layRuns 146 = .ok (.return_, 1) := by decide +kernel
theorem dX11_runs_0 : decode cX11_runs 0 = .ok (.iload_n 1, 1) := by decide +kernel
theorem dX11_runs_1 : decode cX11_runs 1 = .ok (.invokestatic 101, 3) := by decide +kernel
theorem dX11_runs_4 : decode cX11_runs 4 = .ok (.ifCond .eq 8, 3) := by decide +kernel
theorem dX11_runs_7 : decode cX11_runs 7 = .ok (.iload_n 2, 1) := by decide +kernel
theorem dX11_runs_8 : decode cX11_runs 8 = .ok (.iconst (-1), 1) := by decide +kernel
theorem dX11_runs_9 : decode cX11_runs 9 = .ok (.if_icmp .ge 6, 3) := by decide +kernel
theorem dX11_runs_12 : decode cX11_runs 12 = .ok (.ldc 109, 2) := by decide +kernel
theorem dX11_runs_14 : decode cX11_runs 14 = .ok (.ireturn, 1) := by decide +kernel
theorem dX11_runs_15 : decode cX11_runs 15 = .ok (.aload_n 0, 1) := by decide +kernel
theorem dX11_runs_16 : decode cX11_runs 16 = .ok (.iload_n 1, 1) := by decide +kernel
theorem dX11_runs_17 : decode cX11_runs 17 = .ok (.invokevirtual 117, 3) := by decide +kernel
theorem dX11_runs_20 : decode cX11_runs 20 = .ok (.ifCond .ne 6, 3) := by decide +kernel
theorem dX11_runs_23 : decode cX11_runs 23 = .ok (.ldc 96, 2) := by decide +kernel
theorem dX11_runs_25 : decode cX11_runs 25 = .ok (.ireturn, 1) := by decide +kernel
theorem dX11_runs_26 : decode cX11_runs 26 = .ok (.aload_n 0, 1) := by decide +kernel
theorem dX11_runs_27 : decode cX11_runs 27 = .ok (.iload_n 1, 1) := by decide +kernel
theorem dX11_runs_28 : decode cX11_runs 28 = .ok (.invokevirtual 263, 3) := by decide +kernel
theorem dX11_runs_31 : decode cX11_runs 31 = .ok (.iload_n 2, 1) := by decide +kernel
theorem dX11_runs_32 : decode cX11_runs 32 = .ok (.ifCond .ge 10, 3) := by decide +kernel
theorem dX11_runs_35 : decode cX11_runs 35 = .ok (.aload_n 0, 1) := by decide +kernel
theorem dX11_runs_36 : decode cX11_runs 36 = .ok (.getfield 257, 3) := by decide +kernel
theorem dX11_runs_39 : decode cX11_runs 39 = .ok (.goto 22, 3) := by decide +kernel
theorem dX11_runs_42 : decode cX11_runs 42 = .ok (.iload_n 2, 1) := by decide +kernel
theorem dX11_runs_43 : decode cX11_runs 43 = .ok (.aload_n 0, 1) := by decide +kernel
theorem dX11_runs_44 : decode cX11_runs 44 = .ok (.getfield 257, 3) := by decide +kernel
theorem dX11_runs_47 : decode cX11_runs 47 = .ok (.if_icmp .ge 12, 3) := by decide +kernel
theorem dX11_runs_50 : decode cX11_runs 50 = .ok (.aload_n 0, 1) := by decide +kernel
theorem dX11_runs_51 : decode cX11_runs 51 = .ok (.getfield 66, 3) := by decide +kernel
theorem dX11_runs_54 : decode cX11_runs 54 = .ok (.iload_n 2, 1) := by decide +kernel
theorem dX11_runs_55 : decode cX11_runs 55 = .ok (.iaload, 1) := by decide +kernel
theorem dX11_runs_56 : decode cX11_runs 56 = .ok (.goto 5, 3) := by decide +kernel
theorem dX11_runs_59 : decode cX11_runs 59 = .ok (.ldc 161, 2) := by decide +kernel
theorem dX11_runs_61 : decode cX11_runs 61 = .ok (.ireturn, 1) := by decide +kernel
theorem dX11_isByte_0 : decode cX11_isByte 0 = .ok (.iload_n 1, 1) := by decide +kernel
theorem dX11_isByte_1 : decode cX11_isByte 1 = .ok (.aload_n 0, 1) := by decide +kernel
theorem dX11_isByte_2 : decode cX11_isByte 2 = .ok (.getfield 266, 3) := by decide +kernel
theorem dX11_isByte_5 : decode cX11_isByte 5 = .ok (.if_icmp .ge 24, 3) := by decide +kernel
theorem dX11_isByte_8 : decode cX11_isByte 8 = .ok (.aload_n 0, 1) := by decide +kernel
theorem dX11_isByte_9 : decode cX11_isByte 9 = .ok (.getfield 32, 3) := by decide +kernel
theorem dX11_isByte_12 : decode cX11_isByte 12 = .ok (.iload_n 1, 1) := by decide +kernel
theorem dX11_isByte_13 : decode cX11_isByte 13 = .ok (.iaload, 1) := by decide +kernel
theorem dX11_isByte_14 : decode cX11_isByte 14 = .ok (.i2l, 1) := by decide +kernel
theorem dX11_isByte_15 : decode cX11_isByte 15 = .ok (.iload_n 2, 1) := by decide +kernel
theorem dX11_isByte_16 : decode cX11_isByte 16 = .ok (.i2l, 1) := by decide +kernel
theorem dX11_isByte_17 : decode cX11_isByte 17 = .ok (.iload_n 3, 1) := by decide +kernel
theorem dX11_isByte_18 : decode cX11_isByte 18 = .ok (.i2l, 1) := by decide +kernel
theorem dX11_isByte_19 : decode cX11_isByte 19 = .ok (.invokestatic 71, 3) := by decide +kernel
theorem dX11_isByte_22 : decode cX11_isByte 22 = .ok (.ifCond .eq 7, 3) := by decide +kernel
theorem dX11_isByte_25 : decode cX11_isByte 25 = .ok (.iconst 1, 1) := by decide +kernel
theorem dX11_isByte_26 : decode cX11_isByte 26 = .ok (.goto 4, 3) := by decide +kernel
theorem dX11_isByte_29 : decode cX11_isByte 29 = .ok (.iconst 0, 1) := by decide +kernel
theorem dX11_isByte_30 : decode cX11_isByte 30 = .ok (.ireturn, 1) := by decide +kernel
theorem dX11_fault_0 : decode cX11_fault 0 = .ok (.aload_n 0, 1) := by decide +kernel
theorem dX11_fault_1 : decode cX11_fault 1 = .ok (.iconst 0, 1) := by decide +kernel
theorem dX11_fault_2 : decode cX11_fault 2 = .ok (.iconst 0, 1) := by decide +kernel
theorem dX11_fault_3 : decode cX11_fault 3 = .ok (.iconst 1, 1) := by decide +kernel
theorem dX11_fault_4 : decode cX11_fault 4 = .ok (.invokevirtual 269, 3) := by decide +kernel
theorem dX11_fault_7 : decode cX11_fault 7 = .ok (.ifCond .ne 5, 3) := by decide +kernel
theorem dX11_fault_10 : decode cX11_fault 10 = .ok (.iconst 0, 1) := by decide +kernel
theorem dX11_fault_11 : decode cX11_fault 11 = .ok (.ireturn, 1) := by decide +kernel
theorem dX11_fault_12 : decode cX11_fault 12 = .ok (.aload_n 0, 1) := by decide +kernel
theorem dX11_fault_13 : decode cX11_fault 13 = .ok (.iconst 1, 1) := by decide +kernel
theorem dX11_fault_14 : decode cX11_fault 14 = .ok (.iconst 1, 1) := by decide +kernel
theorem dX11_fault_15 : decode cX11_fault 15 = .ok (.bipush 16, 2) := by decide +kernel
theorem dX11_fault_17 : decode cX11_fault 17 = .ok (.invokevirtual 269, 3) := by decide +kernel
theorem dX11_fault_20 : decode cX11_fault 20 = .ok (.ifCond .ne 5, 3) := by decide +kernel
theorem dX11_fault_23 : decode cX11_fault 23 = .ok (.iconst 1, 1) := by decide +kernel
theorem dX11_fault_24 : decode cX11_fault 24 = .ok (.ireturn, 1) := by decide +kernel
theorem dX11_fault_25 : decode cX11_fault 25 = .ok (.aload_n 0, 1) := by decide +kernel
theorem dX11_fault_26 : decode cX11_fault 26 = .ok (.iconst 2, 1) := by decide +kernel
theorem dX11_fault_27 : decode cX11_fault 27 = .ok (.iconst 1, 1) := by decide +kernel
theorem dX11_fault_28 : decode cX11_fault 28 = .ok (.bipush 16, 2) := by decide +kernel
theorem dX11_fault_30 : decode cX11_fault 30 = .ok (.invokevirtual 269, 3) := by decide +kernel
theorem dX11_fault_33 : decode cX11_fault 33 = .ok (.ifCond .ne 5, 3) := by decide +kernel
theorem dX11_fault_36 : decode cX11_fault 36 = .ok (.iconst 2, 1) := by decide +kernel
theorem dX11_fault_37 : decode cX11_fault 37 = .ok (.ireturn, 1) := by decide +kernel
theorem dX11_fault_38 : decode cX11_fault 38 = .ok (.aload_n 0, 1) := by decide +kernel
theorem dX11_fault_39 : decode cX11_fault 39 = .ok (.getfield 32, 3) := by decide +kernel
theorem dX11_fault_42 : decode cX11_fault 42 = .ok (.iconst 1, 1) := by decide +kernel
theorem dX11_fault_43 : decode cX11_fault 43 = .ok (.iaload, 1) := by decide +kernel
theorem dX11_fault_44 : decode cX11_fault 44 = .ok (.aload_n 0, 1) := by decide +kernel
theorem dX11_fault_45 : decode cX11_fault 45 = .ok (.getfield 32, 3) := by decide +kernel
theorem dX11_fault_48 : decode cX11_fault 48 = .ok (.iconst 2, 1) := by decide +kernel
theorem dX11_fault_49 : decode cX11_fault 49 = .ok (.iaload, 1) := by decide +kernel
theorem dX11_fault_50 : decode cX11_fault 50 = .ok (.imul, 1) := by decide +kernel
theorem dX11_fault_51 : decode cX11_fault 51 = .ok (.istore_n 1, 1) := by decide +kernel
theorem dX11_fault_52 : decode cX11_fault 52 = .ok (.iconst 3, 1) := by decide +kernel
theorem dX11_fault_53 : decode cX11_fault 53 = .ok (.istore_n 2, 1) := by decide +kernel
theorem dX11_fault_54 : decode cX11_fault 54 = .ok (.iconst 0, 1) := by decide +kernel
theorem dX11_fault_55 : decode cX11_fault 55 = .ok (.istore_n 3, 1) := by decide +kernel
theorem dX11_fault_56 : decode cX11_fault 56 = .ok (.iload_n 3, 1) := by decide +kernel
theorem dX11_fault_57 : decode cX11_fault 57 = .ok (.iload_n 1, 1) := by decide +kernel
theorem dX11_fault_58 : decode cX11_fault 58 = .ok (.if_icmp .ge 137, 3) := by decide +kernel
theorem dX11_fault_61 : decode cX11_fault 61 = .ok (.aload_n 0, 1) := by decide +kernel
theorem dX11_fault_62 : decode cX11_fault 62 = .ok (.iload_n 2, 1) := by decide +kernel
theorem dX11_fault_63 : decode cX11_fault 63 = .ok (.iconst 1, 1) := by decide +kernel
theorem dX11_fault_64 : decode cX11_fault 64 = .ok (.iload_n 1, 1) := by decide +kernel
theorem dX11_fault_65 : decode cX11_fault 65 = .ok (.iload_n 3, 1) := by decide +kernel
theorem dX11_fault_66 : decode cX11_fault 66 = .ok (.isub, 1) := by decide +kernel
theorem dX11_fault_67 : decode cX11_fault 67 = .ok (.invokevirtual 269, 3) := by decide +kernel
theorem dX11_fault_70 : decode cX11_fault 70 = .ok (.ifCond .ne 5, 3) := by decide +kernel
theorem dX11_fault_73 : decode cX11_fault 73 = .ok (.iload_n 2, 1) := by decide +kernel
theorem dX11_fault_74 : decode cX11_fault 74 = .ok (.ireturn, 1) := by decide +kernel
theorem dX11_fault_75 : decode cX11_fault 75 = .ok (.aload_n 0, 1) := by decide +kernel
theorem dX11_fault_76 : decode cX11_fault 76 = .ok (.getfield 32, 3) := by decide +kernel
theorem dX11_fault_79 : decode cX11_fault 79 = .ok (.iload_n 2, 1) := by decide +kernel
theorem dX11_fault_80 : decode cX11_fault 80 = .ok (.iaload, 1) := by decide +kernel
theorem dX11_fault_81 : decode cX11_fault 81 = .ok (.istore 4, 2) := by decide +kernel
theorem dX11_fault_83 : decode cX11_fault 83 = .ok (.iconst 1, 1) := by decide +kernel
theorem dX11_fault_84 : decode cX11_fault 84 = .ok (.aload_n 0, 1) := by decide +kernel
theorem dX11_fault_85 : decode cX11_fault 85 = .ok (.getfield 32, 3) := by decide +kernel
theorem dX11_fault_88 : decode cX11_fault 88 = .ok (.iconst 0, 1) := by decide +kernel
theorem dX11_fault_89 : decode cX11_fault 89 = .ok (.iaload, 1) := by decide +kernel
theorem dX11_fault_90 : decode cX11_fault 90 = .ok (.iadd, 1) := by decide +kernel
theorem dX11_fault_91 : decode cX11_fault 91 = .ok (.istore 5, 2) := by decide +kernel
theorem dX11_fault_93 : decode cX11_fault 93 = .ok (.iload_n 2, 1) := by decide +kernel
theorem dX11_fault_94 : decode cX11_fault 94 = .ok (.iload 5, 2) := by decide +kernel
theorem dX11_fault_96 : decode cX11_fault 96 = .ok (.iadd, 1) := by decide +kernel
theorem dX11_fault_97 : decode cX11_fault 97 = .ok (.aload_n 0, 1) := by decide +kernel
theorem dX11_fault_98 : decode cX11_fault 98 = .ok (.getfield 266, 3) := by decide +kernel
theorem dX11_fault_101 : decode cX11_fault 101 = .ok (.if_icmp .lt 8, 3) := by decide +kernel
theorem dX11_fault_104 : decode cX11_fault 104 = .ok (.aload_n 0, 1) := by decide +kernel
theorem dX11_fault_105 : decode cX11_fault 105 = .ok (.getfield 266, 3) := by decide +kernel
theorem dX11_fault_108 : decode cX11_fault 108 = .ok (.ireturn, 1) := by decide +kernel
theorem dX11_fault_109 : decode cX11_fault 109 = .ok (.aload_n 0, 1) := by decide +kernel
theorem dX11_fault_110 : decode cX11_fault 110 = .ok (.getfield 32, 3) := by decide +kernel
theorem dX11_fault_113 : decode cX11_fault 113 = .ok (.iconst 0, 1) := by decide +kernel
theorem dX11_fault_114 : decode cX11_fault 114 = .ok (.iaload, 1) := by decide +kernel
theorem dX11_fault_115 : decode cX11_fault 115 = .ok (.ifCond .ne 14, 3) := by decide +kernel
theorem dX11_fault_118 : decode cX11_fault 118 = .ok (.aload_n 0, 1) := by decide +kernel
theorem dX11_fault_119 : decode cX11_fault 119 = .ok (.getfield 32, 3) := by decide +kernel
theorem dX11_fault_122 : decode cX11_fault 122 = .ok (.iload_n 2, 1) := by decide +kernel
theorem dX11_fault_123 : decode cX11_fault 123 = .ok (.iconst 1, 1) := by decide +kernel
theorem dX11_fault_124 : decode cX11_fault 124 = .ok (.iadd, 1) := by decide +kernel
theorem dX11_fault_125 : decode cX11_fault 125 = .ok (.iaload, 1) := by decide +kernel
theorem dX11_fault_126 : decode cX11_fault 126 = .ok (.goto 25, 3) := by decide +kernel
theorem dX11_fault_129 : decode cX11_fault 129 = .ok (.sipush 256, 3) := by decide +kernel
theorem dX11_fault_132 : decode cX11_fault 132 = .ok (.aload_n 0, 1) := by decide +kernel
theorem dX11_fault_133 : decode cX11_fault 133 = .ok (.getfield 32, 3) := by decide +kernel
theorem dX11_fault_136 : decode cX11_fault 136 = .ok (.iload_n 2, 1) := by decide +kernel
theorem dX11_fault_137 : decode cX11_fault 137 = .ok (.iconst 1, 1) := by decide +kernel
theorem dX11_fault_138 : decode cX11_fault 138 = .ok (.iadd, 1) := by decide +kernel
theorem dX11_fault_139 : decode cX11_fault 139 = .ok (.iaload, 1) := by decide +kernel
theorem dX11_fault_140 : decode cX11_fault 140 = .ok (.imul, 1) := by decide +kernel
theorem dX11_fault_141 : decode cX11_fault 141 = .ok (.aload_n 0, 1) := by decide +kernel
theorem dX11_fault_142 : decode cX11_fault 142 = .ok (.getfield 32, 3) := by decide +kernel
theorem dX11_fault_145 : decode cX11_fault 145 = .ok (.iload_n 2, 1) := by decide +kernel
theorem dX11_fault_146 : decode cX11_fault 146 = .ok (.iconst 2, 1) := by decide +kernel
theorem dX11_fault_147 : decode cX11_fault 147 = .ok (.iadd, 1) := by decide +kernel
theorem dX11_fault_148 : decode cX11_fault 148 = .ok (.iaload, 1) := by decide +kernel
theorem dX11_fault_149 : decode cX11_fault 149 = .ok (.iadd, 1) := by decide +kernel
theorem dX11_fault_150 : decode cX11_fault 150 = .ok (.i2s, 1) := by decide +kernel
theorem dX11_fault_151 : decode cX11_fault 151 = .ok (.istore 6, 2) := by decide +kernel
theorem dX11_fault_153 : decode cX11_fault 153 = .ok (.iconst 0, 1) := by decide +kernel
theorem dX11_fault_154 : decode cX11_fault 154 = .ok (.istore 7, 2) := by decide +kernel
theorem dX11_fault_156 : decode cX11_fault 156 = .ok (.iload 7, 2) := by decide +kernel
theorem dX11_fault_158 : decode cX11_fault 158 = .ok (.iload 4, 2) := by decide +kernel
theorem dX11_fault_160 : decode cX11_fault 160 = .ok (.if_icmp .ge 20, 3) := by decide +kernel
theorem dX11_fault_163 : decode cX11_fault 163 = .ok (.aload_n 0, 1) := by decide +kernel
theorem dX11_fault_164 : decode cX11_fault 164 = .ok (.getfield 50, 3) := by decide +kernel
theorem dX11_fault_167 : decode cX11_fault 167 = .ok (.iload_n 3, 1) := by decide +kernel
theorem dX11_fault_168 : decode cX11_fault 168 = .ok (.iload 7, 2) := by decide +kernel
theorem dX11_fault_170 : decode cX11_fault 170 = .ok (.iadd, 1) := by decide +kernel
theorem dX11_fault_171 : decode cX11_fault 171 = .ok (.iload 6, 2) := by decide +kernel
theorem dX11_fault_173 : decode cX11_fault 173 = .ok (.iastore, 1) := by decide +kernel
theorem dX11_fault_174 : decode cX11_fault 174 = .ok (.iinc 7 1, 3) := by decide +kernel
theorem dX11_fault_177 : decode cX11_fault 177 = .ok (.goto (-21), 3) := by decide +kernel
theorem dX11_fault_180 : decode cX11_fault 180 = .ok (.iload_n 3, 1) := by decide +kernel
theorem dX11_fault_181 : decode cX11_fault 181 = .ok (.iload 4, 2) := by decide +kernel
theorem dX11_fault_183 : decode cX11_fault 183 = .ok (.iadd, 1) := by decide +kernel
theorem dX11_fault_184 : decode cX11_fault 184 = .ok (.istore_n 3, 1) := by decide +kernel
theorem dX11_fault_185 : decode cX11_fault 185 = .ok (.iload_n 2, 1) := by decide +kernel
theorem dX11_fault_186 : decode cX11_fault 186 = .ok (.iconst 1, 1) := by decide +kernel
theorem dX11_fault_187 : decode cX11_fault 187 = .ok (.iload 5, 2) := by decide +kernel
theorem dX11_fault_189 : decode cX11_fault 189 = .ok (.iadd, 1) := by decide +kernel
theorem dX11_fault_190 : decode cX11_fault 190 = .ok (.iadd, 1) := by decide +kernel
theorem dX11_fault_191 : decode cX11_fault 191 = .ok (.istore_n 2, 1) := by decide +kernel
theorem dX11_fault_192 : decode cX11_fault 192 = .ok (.goto (-136), 3) := by decide +kernel
theorem dX11_fault_195 : decode cX11_fault 195 = .ok (.iload_n 2, 1) := by decide +kernel
theorem dX11_fault_196 : decode cX11_fault 196 = .ok (.aload_n 0, 1) := by decide +kernel
theorem dX11_fault_197 : decode cX11_fault 197 = .ok (.getfield 266, 3) := by decide +kernel
theorem dX11_fault_200 : decode cX11_fault 200 = .ok (.if_icmp .ge 7, 3) := by decide +kernel
theorem dX11_fault_203 : decode cX11_fault 203 = .ok (.iload_n 2, 1) := by decide +kernel
theorem dX11_fault_204 : decode cX11_fault 204 = .ok (.goto 4, 3) := by decide +kernel
theorem dX11_fault_207 : decode cX11_fault 207 = .ok (.iconst (-1), 1) := by decide +kernel
theorem dX11_fault_208 : decode cX11_fault 208 = .ok (.ireturn, 1) := by decide +kernel
theorem dX11_read_0 : decode cX11_read 0 = .ok (.iload_n 1, 1) := by decide +kernel
theorem dX11_read_1 : decode cX11_read 1 = .ok (.invokestatic 101, 3) := by decide +kernel
theorem dX11_read_4 : decode cX11_read 4 = .ok (.ifCond .ne 6, 3) := by decide +kernel
theorem dX11_read_7 : decode cX11_read 7 = .ok (.ldc 109, 2) := by decide +kernel
theorem dX11_read_9 : decode cX11_read 9 = .ok (.ireturn, 1) := by decide +kernel
theorem dX11_read_10 : decode cX11_read 10 = .ok (.aload_n 0, 1) := by decide +kernel
theorem dX11_read_11 : decode cX11_read 11 = .ok (.invokevirtual 272, 3) := by decide +kernel
theorem dX11_read_14 : decode cX11_read 14 = .ok (.istore_n 2, 1) := by decide +kernel
theorem dX11_read_15 : decode cX11_read 15 = .ok (.aload_n 0, 1) := by decide +kernel
theorem dX11_read_16 : decode cX11_read 16 = .ok (.getfield 266, 3) := by decide +kernel
theorem dX11_read_19 : decode cX11_read 19 = .ok (.istore_n 3, 1) := by decide +kernel
theorem dX11_read_20 : decode cX11_read 20 = .ok (.aload_n 0, 1) := by decide +kernel
theorem dX11_read_21 : decode cX11_read 21 = .ok (.iconst 0, 1) := by decide +kernel
theorem dX11_read_22 : decode cX11_read 22 = .ok (.putfield 266, 3) := by decide +kernel
theorem dX11_read_25 : decode cX11_read 25 = .ok (.iload_n 2, 1) := by decide +kernel
theorem dX11_read_26 : decode cX11_read 26 = .ok (.ifCond .lt 16, 3) := by decide +kernel
theorem dX11_read_29 : decode cX11_read 29 = .ok (.iconst (-1), 1) := by decide +kernel
theorem dX11_read_30 : decode cX11_read 30 = .ok (.iload_n 2, 1) := by decide +kernel
theorem dX11_read_31 : decode cX11_read 31 = .ok (.iload_n 3, 1) := by decide +kernel
theorem dX11_read_32 : decode cX11_read 32 = .ok (.if_icmp .ge 7, 3) := by decide +kernel
theorem dX11_read_35 : decode cX11_read 35 = .ok (.iload_n 2, 1) := by decide +kernel
theorem dX11_read_36 : decode cX11_read 36 = .ok (.goto 4, 3) := by decide +kernel
theorem dX11_read_39 : decode cX11_read 39 = .ok (.iload_n 3, 1) := by decide +kernel
theorem dX11_read_40 : decode cX11_read 40 = .ok (.isub, 1) := by decide +kernel
theorem dX11_read_41 : decode cX11_read 41 = .ok (.ireturn, 1) := by decide +kernel
theorem dX11_read_42 : decode cX11_read 42 = .ok (.aload_n 0, 1) := by decide +kernel
theorem dX11_read_43 : decode cX11_read 43 = .ok (.invokevirtual 110, 3) := by decide +kernel
theorem dX11_read_46 : decode cX11_read 46 = .ok (.aload_n 0, 1) := by decide +kernel
theorem dX11_read_47 : decode cX11_read 47 = .ok (.iload_n 1, 1) := by decide +kernel
theorem dX11_read_48 : decode cX11_read 48 = .ok (.aload_n 0, 1) := by decide +kernel
theorem dX11_read_49 : decode cX11_read 49 = .ok (.getfield 32, 3) := by decide +kernel
theorem dX11_read_52 : decode cX11_read 52 = .ok (.iconst 0, 1) := by decide +kernel
theorem dX11_read_53 : decode cX11_read 53 = .ok (.iaload, 1) := by decide +kernel
theorem dX11_read_54 : decode cX11_read 54 = .ok (.aload_n 0, 1) := by decide +kernel
theorem dX11_read_55 : decode cX11_read 55 = .ok (.getfield 32, 3) := by decide +kernel
theorem dX11_read_58 : decode cX11_read 58 = .ok (.iconst 1, 1) := by decide +kernel
theorem dX11_read_59 : decode cX11_read 59 = .ok (.iaload, 1) := by decide +kernel
theorem dX11_read_60 : decode cX11_read 60 = .ok (.aload_n 0, 1) := by decide +kernel
theorem dX11_read_61 : decode cX11_read 61 = .ok (.getfield 32, 3) := by decide +kernel
theorem dX11_read_64 : decode cX11_read 64 = .ok (.iconst 2, 1) := by decide +kernel
theorem dX11_read_65 : decode cX11_read 65 = .ok (.iaload, 1) := by decide +kernel
theorem dX11_read_66 : decode cX11_read 66 = .ok (.invokevirtual 113, 3) := by decide +kernel
theorem dX11_read_69 : decode cX11_read 69 = .ok (.aload_n 0, 1) := by decide +kernel
theorem dX11_read_70 : decode cX11_read 70 = .ok (.iload_n 1, 1) := by decide +kernel
theorem dX11_read_71 : decode cX11_read 71 = .ok (.invokevirtual 133, 3) := by decide +kernel
theorem dX11_read_74 : decode cX11_read 74 = .ok (.istore 4, 2) := by decide +kernel
theorem dX11_read_76 : decode cX11_read 76 = .ok (.iconst 0, 1) := by decide +kernel
theorem dX11_read_77 : decode cX11_read 77 = .ok (.istore 5, 2) := by decide +kernel
theorem dX11_read_79 : decode cX11_read 79 = .ok (.iload 5, 2) := by decide +kernel
theorem dX11_read_81 : decode cX11_read 81 = .ok (.iload 4, 2) := by decide +kernel
theorem dX11_read_83 : decode cX11_read 83 = .ok (.if_icmp .ge 31, 3) := by decide +kernel
theorem dX11_read_86 : decode cX11_read 86 = .ok (.aload_n 0, 1) := by decide +kernel
theorem dX11_read_87 : decode cX11_read 87 = .ok (.getfield 7, 3) := by decide +kernel
theorem dX11_read_90 : decode cX11_read 90 = .ok (.sipush 259, 3) := by decide +kernel
theorem dX11_read_93 : decode cX11_read 93 = .ok (.iload_n 1, 1) := by decide +kernel
theorem dX11_read_94 : decode cX11_read 94 = .ok (.imul, 1) := by decide +kernel
theorem dX11_read_95 : decode cX11_read 95 = .ok (.iconst 3, 1) := by decide +kernel
theorem dX11_read_96 : decode cX11_read 96 = .ok (.iadd, 1) := by decide +kernel
theorem dX11_read_97 : decode cX11_read 97 = .ok (.iload 5, 2) := by decide +kernel
theorem dX11_read_99 : decode cX11_read 99 = .ok (.iadd, 1) := by decide +kernel
theorem dX11_read_100 : decode cX11_read 100 = .ok (.aload_n 0, 1) := by decide +kernel
theorem dX11_read_101 : decode cX11_read 101 = .ok (.getfield 50, 3) := by decide +kernel
theorem dX11_read_104 : decode cX11_read 104 = .ok (.iload 5, 2) := by decide +kernel
theorem dX11_read_106 : decode cX11_read 106 = .ok (.iaload, 1) := by decide +kernel
theorem dX11_read_107 : decode cX11_read 107 = .ok (.iastore, 1) := by decide +kernel
theorem dX11_read_108 : decode cX11_read 108 = .ok (.iinc 5 1, 3) := by decide +kernel
theorem dX11_read_111 : decode cX11_read 111 = .ok (.goto (-32), 3) := by decide +kernel
theorem dX11_read_114 : decode cX11_read 114 = .ok (.iload 4, 2) := by decide +kernel
theorem dX11_read_116 : decode cX11_read 116 = .ok (.ireturn, 1) := by decide +kernel
theorem dX11_byteTo_0 : decode cX11_byteTo 0 = .ok (.iload_n 1, 1) := by decide +kernel
theorem dX11_byteTo_1 : decode cX11_byteTo 1 = .ok (.i2l, 1) := by decide +kernel
theorem dX11_byteTo_2 : decode cX11_byteTo 2 = .ok (.lconst 0, 1) := by decide +kernel
theorem dX11_byteTo_3 : decode cX11_byteTo 3 = .ok (.ldc2_w 136, 3) := by decide +kernel
theorem dX11_byteTo_6 : decode cX11_byteTo 6 = .ok (.invokestatic 71, 3) := by decide +kernel
theorem dX11_byteTo_9 : decode cX11_byteTo 9 = .ok (.ifCond .ne 6, 3) := by decide +kernel
theorem dX11_byteTo_12 : decode cX11_byteTo 12 = .ok (.ldc 109, 2) := by decide +kernel
theorem dX11_byteTo_14 : decode cX11_byteTo 14 = .ok (.ireturn, 1) := by decide +kernel
theorem dX11_byteTo_15 : decode cX11_byteTo 15 = .ok (.aload_n 0, 1) := by decide +kernel
theorem dX11_byteTo_16 : decode cX11_byteTo 16 = .ok (.getfield 266, 3) := by decide +kernel
theorem dX11_byteTo_19 : decode cX11_byteTo 19 = .ok (.sipush 800, 3) := by decide +kernel
theorem dX11_byteTo_22 : decode cX11_byteTo 22 = .ok (.if_icmp .ne 6, 3) := by decide +kernel
theorem dX11_byteTo_25 : decode cX11_byteTo 25 = .ok (.ldc 183, 2) := by decide +kernel
theorem dX11_byteTo_27 : decode cX11_byteTo 27 = .ok (.ireturn, 1) := by decide +kernel
theorem dX11_byteTo_28 : decode cX11_byteTo 28 = .ok (.aload_n 0, 1) := by decide +kernel
theorem dX11_byteTo_29 : decode cX11_byteTo 29 = .ok (.getfield 32, 3) := by decide +kernel
theorem dX11_byteTo_32 : decode cX11_byteTo 32 = .ok (.aload_n 0, 1) := by decide +kernel
theorem dX11_byteTo_33 : decode cX11_byteTo 33 = .ok (.getfield 266, 3) := by decide +kernel
theorem dX11_byteTo_36 : decode cX11_byteTo 36 = .ok (.iload_n 1, 1) := by decide +kernel
theorem dX11_byteTo_37 : decode cX11_byteTo 37 = .ok (.iastore, 1) := by decide +kernel
theorem dX11_byteTo_38 : decode cX11_byteTo 38 = .ok (.aload_n 0, 1) := by decide +kernel
theorem dX11_byteTo_39 : decode cX11_byteTo 39 = .ok (.dup, 1) := by decide +kernel
theorem dX11_byteTo_40 : decode cX11_byteTo 40 = .ok (.getfield 266, 3) := by decide +kernel
theorem dX11_byteTo_43 : decode cX11_byteTo 43 = .ok (.iconst 1, 1) := by decide +kernel
theorem dX11_byteTo_44 : decode cX11_byteTo 44 = .ok (.iadd, 1) := by decide +kernel
theorem dX11_byteTo_45 : decode cX11_byteTo 45 = .ok (.putfield 266, 3) := by decide +kernel
theorem dX11_byteTo_48 : decode cX11_byteTo 48 = .ok (.aload_n 0, 1) := by decide +kernel
theorem dX11_byteTo_49 : decode cX11_byteTo 49 = .ok (.getfield 266, 3) := by decide +kernel
theorem dX11_byteTo_52 : decode cX11_byteTo 52 = .ok (.ireturn, 1) := by decide +kernel
theorem dX11_count_0 : decode cX11_count 0 = .ok (.iconst 0, 1) := by decide +kernel
theorem dX11_count_1 : decode cX11_count 1 = .ok (.istore_n 2, 1) := by decide +kernel
theorem dX11_count_2 : decode cX11_count 2 = .ok (.iload_n 1, 1) := by decide +kernel
theorem dX11_count_3 : decode cX11_count 3 = .ok (.tableswitch 90 0 4 #[33, 38, 70, 75, 85], 33) := by decide +kernel
theorem dX11_count_36 : decode cX11_count 36 = .ok (.aload_n 0, 1) := by decide +kernel
theorem dX11_count_37 : decode cX11_count 37 = .ok (.getfield 170, 3) := by decide +kernel
theorem dX11_count_40 : decode cX11_count 40 = .ok (.ireturn, 1) := by decide +kernel
theorem dX11_count_41 : decode cX11_count 41 = .ok (.iconst 0, 1) := by decide +kernel
theorem dX11_count_42 : decode cX11_count 42 = .ok (.istore_n 3, 1) := by decide +kernel
theorem dX11_count_43 : decode cX11_count 43 = .ok (.iload_n 3, 1) := by decide +kernel
theorem dX11_count_44 : decode cX11_count 44 = .ok (.bipush 8, 2) := by decide +kernel
theorem dX11_count_46 : decode cX11_count 46 = .ok (.if_icmp .ge 25, 3) := by decide +kernel
theorem dX11_count_49 : decode cX11_count 49 = .ok (.iload_n 2, 1) := by decide +kernel
theorem dX11_count_50 : decode cX11_count 50 = .ok (.aload_n 0, 1) := by decide +kernel
theorem dX11_count_51 : decode cX11_count 51 = .ok (.iload_n 3, 1) := by decide +kernel
theorem dX11_count_52 : decode cX11_count 52 = .ok (.invokevirtual 117, 3) := by decide +kernel
theorem dX11_count_55 : decode cX11_count 55 = .ok (.ifCond .eq 7, 3) := by decide +kernel
theorem dX11_count_58 : decode cX11_count 58 = .ok (.iconst 1, 1) := by decide +kernel
theorem dX11_count_59 : decode cX11_count 59 = .ok (.goto 4, 3) := by decide +kernel
theorem dX11_count_62 : decode cX11_count 62 = .ok (.iconst 0, 1) := by decide +kernel
theorem dX11_count_63 : decode cX11_count 63 = .ok (.iadd, 1) := by decide +kernel
theorem dX11_count_64 : decode cX11_count 64 = .ok (.istore_n 2, 1) := by decide +kernel
theorem dX11_count_65 : decode cX11_count 65 = .ok (.iinc 3 1, 3) := by decide +kernel
theorem dX11_count_68 : decode cX11_count 68 = .ok (.goto (-25), 3) := by decide +kernel
theorem dX11_count_71 : decode cX11_count 71 = .ok (.iload_n 2, 1) := by decide +kernel
theorem dX11_count_72 : decode cX11_count 72 = .ok (.ireturn, 1) := by decide +kernel
theorem dX11_count_73 : decode cX11_count 73 = .ok (.aload_n 0, 1) := by decide +kernel
theorem dX11_count_74 : decode cX11_count 74 = .ok (.getfield 88, 3) := by decide +kernel
theorem dX11_count_77 : decode cX11_count 77 = .ok (.ireturn, 1) := by decide +kernel
theorem dX11_count_78 : decode cX11_count 78 = .ok (.aload_n 0, 1) := by decide +kernel
theorem dX11_count_79 : decode cX11_count 79 = .ok (.getfield 93, 3) := by decide +kernel
theorem dX11_count_82 : decode cX11_count 82 = .ok (.aload_n 0, 1) := by decide +kernel
theorem dX11_count_83 : decode cX11_count 83 = .ok (.getfield 88, 3) := by decide +kernel
theorem dX11_count_86 : decode cX11_count 86 = .ok (.isub, 1) := by decide +kernel
theorem dX11_count_87 : decode cX11_count 87 = .ok (.ireturn, 1) := by decide +kernel
theorem dX11_count_88 : decode cX11_count 88 = .ok (.aload_n 0, 1) := by decide +kernel
theorem dX11_count_89 : decode cX11_count 89 = .ok (.getfield 266, 3) := by decide +kernel
theorem dX11_count_92 : decode cX11_count 92 = .ok (.ireturn, 1) := by decide +kernel
theorem dX11_count_93 : decode cX11_count 93 = .ok (.ldc 109, 2) := by decide +kernel
theorem dX11_count_95 : decode cX11_count 95 = .ok (.ireturn, 1) := by decide +kernel
theorem dJ6_bitCount_0f7a4_0 : decode cJ6_bitCount_0f7a4 0 = .ok (.iload_n 0, 1) := by decide +kernel
theorem dJ6_bitCount_0f7a4_1 : decode cJ6_bitCount_0f7a4 1 = .ok (.iload_n 0, 1) := by decide +kernel
theorem dJ6_bitCount_0f7a4_2 : decode cJ6_bitCount_0f7a4 2 = .ok (.iconst 1, 1) := by decide +kernel
theorem dJ6_bitCount_0f7a4_3 : decode cJ6_bitCount_0f7a4 3 = .ok (.iushr, 1) := by decide +kernel
theorem dJ6_bitCount_0f7a4_4 : decode cJ6_bitCount_0f7a4 4 = .ok (.ldc_w 265, 3) := by decide +kernel
theorem dJ6_bitCount_0f7a4_7 : decode cJ6_bitCount_0f7a4 7 = .ok (.iand, 1) := by decide +kernel
theorem dJ6_bitCount_0f7a4_8 : decode cJ6_bitCount_0f7a4 8 = .ok (.isub, 1) := by decide +kernel
theorem dJ6_bitCount_0f7a4_9 : decode cJ6_bitCount_0f7a4 9 = .ok (.istore_n 0, 1) := by decide +kernel
theorem dJ6_bitCount_0f7a4_10 : decode cJ6_bitCount_0f7a4 10 = .ok (.iload_n 0, 1) := by decide +kernel
theorem dJ6_bitCount_0f7a4_11 : decode cJ6_bitCount_0f7a4 11 = .ok (.ldc_w 266, 3) := by decide +kernel
theorem dJ6_bitCount_0f7a4_14 : decode cJ6_bitCount_0f7a4 14 = .ok (.iand, 1) := by decide +kernel
theorem dJ6_bitCount_0f7a4_15 : decode cJ6_bitCount_0f7a4 15 = .ok (.iload_n 0, 1) := by decide +kernel
theorem dJ6_bitCount_0f7a4_16 : decode cJ6_bitCount_0f7a4 16 = .ok (.iconst 2, 1) := by decide +kernel
theorem dJ6_bitCount_0f7a4_17 : decode cJ6_bitCount_0f7a4 17 = .ok (.iushr, 1) := by decide +kernel
theorem dJ6_bitCount_0f7a4_18 : decode cJ6_bitCount_0f7a4 18 = .ok (.ldc_w 266, 3) := by decide +kernel
theorem dJ6_bitCount_0f7a4_21 : decode cJ6_bitCount_0f7a4 21 = .ok (.iand, 1) := by decide +kernel
theorem dJ6_bitCount_0f7a4_22 : decode cJ6_bitCount_0f7a4 22 = .ok (.iadd, 1) := by decide +kernel
theorem dJ6_bitCount_0f7a4_23 : decode cJ6_bitCount_0f7a4 23 = .ok (.istore_n 0, 1) := by decide +kernel
theorem dJ6_bitCount_0f7a4_24 : decode cJ6_bitCount_0f7a4 24 = .ok (.iload_n 0, 1) := by decide +kernel
theorem dJ6_bitCount_0f7a4_25 : decode cJ6_bitCount_0f7a4 25 = .ok (.iload_n 0, 1) := by decide +kernel
theorem dJ6_bitCount_0f7a4_26 : decode cJ6_bitCount_0f7a4 26 = .ok (.iconst 4, 1) := by decide +kernel
theorem dJ6_bitCount_0f7a4_27 : decode cJ6_bitCount_0f7a4 27 = .ok (.iushr, 1) := by decide +kernel
theorem dJ6_bitCount_0f7a4_28 : decode cJ6_bitCount_0f7a4 28 = .ok (.iadd, 1) := by decide +kernel
theorem dJ6_bitCount_0f7a4_29 : decode cJ6_bitCount_0f7a4 29 = .ok (.ldc_w 267, 3) := by decide +kernel
theorem dJ6_bitCount_0f7a4_32 : decode cJ6_bitCount_0f7a4 32 = .ok (.iand, 1) := by decide +kernel
theorem dJ6_bitCount_0f7a4_33 : decode cJ6_bitCount_0f7a4 33 = .ok (.istore_n 0, 1) := by decide +kernel
theorem dJ6_bitCount_0f7a4_34 : decode cJ6_bitCount_0f7a4 34 = .ok (.iload_n 0, 1) := by decide +kernel
theorem dJ6_bitCount_0f7a4_35 : decode cJ6_bitCount_0f7a4 35 = .ok (.iload_n 0, 1) := by decide +kernel
theorem dJ6_bitCount_0f7a4_36 : decode cJ6_bitCount_0f7a4 36 = .ok (.bipush 8, 2) := by decide +kernel
theorem dJ6_bitCount_0f7a4_38 : decode cJ6_bitCount_0f7a4 38 = .ok (.iushr, 1) := by decide +kernel
theorem dJ6_bitCount_0f7a4_39 : decode cJ6_bitCount_0f7a4 39 = .ok (.iadd, 1) := by decide +kernel
theorem dJ6_bitCount_0f7a4_40 : decode cJ6_bitCount_0f7a4 40 = .ok (.istore_n 0, 1) := by decide +kernel
theorem dJ6_bitCount_0f7a4_41 : decode cJ6_bitCount_0f7a4 41 = .ok (.iload_n 0, 1) := by decide +kernel
theorem dJ6_bitCount_0f7a4_42 : decode cJ6_bitCount_0f7a4 42 = .ok (.iload_n 0, 1) := by decide +kernel
theorem dJ6_bitCount_0f7a4_43 : decode cJ6_bitCount_0f7a4 43 = .ok (.bipush 16, 2) := by decide +kernel
theorem dJ6_bitCount_0f7a4_45 : decode cJ6_bitCount_0f7a4 45 = .ok (.iushr, 1) := by decide +kernel
theorem dJ6_bitCount_0f7a4_46 : decode cJ6_bitCount_0f7a4 46 = .ok (.iadd, 1) := by decide +kernel
theorem dJ6_bitCount_0f7a4_47 : decode cJ6_bitCount_0f7a4 47 = .ok (.istore_n 0, 1) := by decide +kernel
theorem dJ6_bitCount_0f7a4_48 : decode cJ6_bitCount_0f7a4 48 = .ok (.iload_n 0, 1) := by decide +kernel
theorem dJ6_bitCount_0f7a4_49 : decode cJ6_bitCount_0f7a4 49 = .ok (.bipush 63, 2) := by decide +kernel
theorem dJ6_bitCount_0f7a4_51 : decode cJ6_bitCount_0f7a4 51 = .ok (.iand, 1) := by decide +kernel
theorem dJ6_bitCount_0f7a4_52 : decode cJ6_bitCount_0f7a4 52 = .ok (.ireturn, 1) := by decide +kernel
theorem dJ9_floorDiv_f86c9_0 : decode cJ9_floorDiv_f86c9 0 = .ok (.lload_n 0, 1) := by decide +kernel
theorem dJ9_floorDiv_f86c9_1 : decode cJ9_floorDiv_f86c9 1 = .ok (.lload_n 2, 1) := by decide +kernel
theorem dJ9_floorDiv_f86c9_2 : decode cJ9_floorDiv_f86c9 2 = .ok (.ldiv, 1) := by decide +kernel
theorem dJ9_floorDiv_f86c9_3 : decode cJ9_floorDiv_f86c9 3 = .ok (.lstore 4, 2) := by decide +kernel
theorem dJ9_floorDiv_f86c9_5 : decode cJ9_floorDiv_f86c9 5 = .ok (.lload_n 0, 1) := by decide +kernel
theorem dJ9_floorDiv_f86c9_6 : decode cJ9_floorDiv_f86c9 6 = .ok (.lload_n 2, 1) := by decide +kernel
theorem dJ9_floorDiv_f86c9_7 : decode cJ9_floorDiv_f86c9 7 = .ok (.lxor, 1) := by decide +kernel
theorem dJ9_floorDiv_f86c9_8 : decode cJ9_floorDiv_f86c9 8 = .ok (.lconst 0, 1) := by decide +kernel
theorem dJ9_floorDiv_f86c9_9 : decode cJ9_floorDiv_f86c9 9 = .ok (.lcmp, 1) := by decide +kernel
theorem dJ9_floorDiv_f86c9_10 : decode cJ9_floorDiv_f86c9 10 = .ok (.ifCond .ge 17, 3) := by decide +kernel
theorem dJ9_floorDiv_f86c9_13 : decode cJ9_floorDiv_f86c9 13 = .ok (.lload 4, 2) := by decide +kernel
theorem dJ9_floorDiv_f86c9_15 : decode cJ9_floorDiv_f86c9 15 = .ok (.lload_n 2, 1) := by decide +kernel
theorem dJ9_floorDiv_f86c9_16 : decode cJ9_floorDiv_f86c9 16 = .ok (.lmul, 1) := by decide +kernel
theorem dJ9_floorDiv_f86c9_17 : decode cJ9_floorDiv_f86c9 17 = .ok (.lload_n 0, 1) := by decide +kernel
theorem dJ9_floorDiv_f86c9_18 : decode cJ9_floorDiv_f86c9 18 = .ok (.lcmp, 1) := by decide +kernel
theorem dJ9_floorDiv_f86c9_19 : decode cJ9_floorDiv_f86c9 19 = .ok (.ifCond .eq 8, 3) := by decide +kernel
theorem dJ9_floorDiv_f86c9_22 : decode cJ9_floorDiv_f86c9 22 = .ok (.lload 4, 2) := by decide +kernel
theorem dJ9_floorDiv_f86c9_24 : decode cJ9_floorDiv_f86c9 24 = .ok (.lconst 1, 1) := by decide +kernel
theorem dJ9_floorDiv_f86c9_25 : decode cJ9_floorDiv_f86c9 25 = .ok (.lsub, 1) := by decide +kernel
theorem dJ9_floorDiv_f86c9_26 : decode cJ9_floorDiv_f86c9 26 = .ok (.lreturn, 1) := by decide +kernel
theorem dJ9_floorDiv_f86c9_27 : decode cJ9_floorDiv_f86c9 27 = .ok (.lload 4, 2) := by decide +kernel
theorem dJ9_floorDiv_f86c9_29 : decode cJ9_floorDiv_f86c9 29 = .ok (.lreturn, 1) := by decide +kernel
theorem dJ9_floorMod_7cf53_0 : decode cJ9_floorMod_7cf53 0 = .ok (.iload_n 0, 1) := by decide +kernel
theorem dJ9_floorMod_7cf53_1 : decode cJ9_floorMod_7cf53 1 = .ok (.iload_n 1, 1) := by decide +kernel
theorem dJ9_floorMod_7cf53_2 : decode cJ9_floorMod_7cf53 2 = .ok (.irem, 1) := by decide +kernel
theorem dJ9_floorMod_7cf53_3 : decode cJ9_floorMod_7cf53 3 = .ok (.istore_n 2, 1) := by decide +kernel
theorem dJ9_floorMod_7cf53_4 : decode cJ9_floorMod_7cf53 4 = .ok (.iload_n 0, 1) := by decide +kernel
theorem dJ9_floorMod_7cf53_5 : decode cJ9_floorMod_7cf53 5 = .ok (.iload_n 1, 1) := by decide +kernel
theorem dJ9_floorMod_7cf53_6 : decode cJ9_floorMod_7cf53 6 = .ok (.ixor, 1) := by decide +kernel
theorem dJ9_floorMod_7cf53_7 : decode cJ9_floorMod_7cf53 7 = .ok (.ifCond .ge 11, 3) := by decide +kernel
theorem dJ9_floorMod_7cf53_10 : decode cJ9_floorMod_7cf53 10 = .ok (.iload_n 2, 1) := by decide +kernel
theorem dJ9_floorMod_7cf53_11 : decode cJ9_floorMod_7cf53 11 = .ok (.ifCond .eq 7, 3) := by decide +kernel
theorem dJ9_floorMod_7cf53_14 : decode cJ9_floorMod_7cf53 14 = .ok (.iload_n 2, 1) := by decide +kernel
theorem dJ9_floorMod_7cf53_15 : decode cJ9_floorMod_7cf53 15 = .ok (.iload_n 1, 1) := by decide +kernel
theorem dJ9_floorMod_7cf53_16 : decode cJ9_floorMod_7cf53 16 = .ok (.iadd, 1) := by decide +kernel
theorem dJ9_floorMod_7cf53_17 : decode cJ9_floorMod_7cf53 17 = .ok (.ireturn, 1) := by decide +kernel
theorem dJ9_floorMod_7cf53_18 : decode cJ9_floorMod_7cf53 18 = .ok (.iload_n 2, 1) := by decide +kernel
theorem dJ9_floorMod_7cf53_19 : decode cJ9_floorMod_7cf53 19 = .ok (.ireturn, 1) := by decide +kernel
theorem dJ9_abs_0f7a4_0 : decode cJ9_abs_0f7a4 0 = .ok (.iload_n 0, 1) := by decide +kernel
theorem dJ9_abs_0f7a4_1 : decode cJ9_abs_0f7a4 1 = .ok (.ifCond .ge 8, 3) := by decide +kernel
theorem dJ9_abs_0f7a4_4 : decode cJ9_abs_0f7a4 4 = .ok (.iload_n 0, 1) := by decide +kernel
theorem dJ9_abs_0f7a4_5 : decode cJ9_abs_0f7a4 5 = .ok (.ineg, 1) := by decide +kernel
theorem dJ9_abs_0f7a4_6 : decode cJ9_abs_0f7a4 6 = .ok (.goto 4, 3) := by decide +kernel
theorem dJ9_abs_0f7a4_9 : decode cJ9_abs_0f7a4 9 = .ok (.iload_n 0, 1) := by decide +kernel
theorem dJ9_abs_0f7a4_10 : decode cJ9_abs_0f7a4 10 = .ok (.ireturn, 1) := by decide +kernel
theorem dJ9_max_7cf53_0 : decode cJ9_max_7cf53 0 = .ok (.iload_n 0, 1) := by decide +kernel
theorem dJ9_max_7cf53_1 : decode cJ9_max_7cf53 1 = .ok (.iload_n 1, 1) := by decide +kernel
theorem dJ9_max_7cf53_2 : decode cJ9_max_7cf53 2 = .ok (.if_icmp .lt 7, 3) := by decide +kernel
theorem dJ9_max_7cf53_5 : decode cJ9_max_7cf53 5 = .ok (.iload_n 0, 1) := by decide +kernel
theorem dJ9_max_7cf53_6 : decode cJ9_max_7cf53 6 = .ok (.goto 4, 3) := by decide +kernel
theorem dJ9_max_7cf53_9 : decode cJ9_max_7cf53 9 = .ok (.iload_n 1, 1) := by decide +kernel
theorem dJ9_max_7cf53_10 : decode cJ9_max_7cf53 10 = .ok (.ireturn, 1) := by decide +kernel
theorem dJ9_max_f86c9_0 : decode cJ9_max_f86c9 0 = .ok (.lload_n 0, 1) := by decide +kernel
theorem dJ9_max_f86c9_1 : decode cJ9_max_f86c9 1 = .ok (.lload_n 2, 1) := by decide +kernel
theorem dJ9_max_f86c9_2 : decode cJ9_max_f86c9 2 = .ok (.lcmp, 1) := by decide +kernel
theorem dJ9_max_f86c9_3 : decode cJ9_max_f86c9 3 = .ok (.ifCond .lt 7, 3) := by decide +kernel
theorem dJ9_max_f86c9_6 : decode cJ9_max_f86c9 6 = .ok (.lload_n 0, 1) := by decide +kernel
theorem dJ9_max_f86c9_7 : decode cJ9_max_f86c9 7 = .ok (.goto 4, 3) := by decide +kernel
theorem dJ9_max_f86c9_10 : decode cJ9_max_f86c9 10 = .ok (.lload_n 2, 1) := by decide +kernel
theorem dJ9_max_f86c9_11 : decode cJ9_max_f86c9 11 = .ok (.lreturn, 1) := by decide +kernel
theorem dJ9_min_7cf53_0 : decode cJ9_min_7cf53 0 = .ok (.iload_n 0, 1) := by decide +kernel
theorem dJ9_min_7cf53_1 : decode cJ9_min_7cf53 1 = .ok (.iload_n 1, 1) := by decide +kernel
theorem dJ9_min_7cf53_2 : decode cJ9_min_7cf53 2 = .ok (.if_icmp .gt 7, 3) := by decide +kernel
theorem dJ9_min_7cf53_5 : decode cJ9_min_7cf53 5 = .ok (.iload_n 0, 1) := by decide +kernel
theorem dJ9_min_7cf53_6 : decode cJ9_min_7cf53 6 = .ok (.goto 4, 3) := by decide +kernel
theorem dJ9_min_7cf53_9 : decode cJ9_min_7cf53 9 = .ok (.iload_n 1, 1) := by decide +kernel
theorem dJ9_min_7cf53_10 : decode cJ9_min_7cf53 10 = .ok (.ireturn, 1) := by decide +kernel
theorem dJ9_min_f86c9_0 : decode cJ9_min_f86c9 0 = .ok (.lload_n 0, 1) := by decide +kernel
theorem dJ9_min_f86c9_1 : decode cJ9_min_f86c9 1 = .ok (.lload_n 2, 1) := by decide +kernel
theorem dJ9_min_f86c9_2 : decode cJ9_min_f86c9 2 = .ok (.lcmp, 1) := by decide +kernel
theorem dJ9_min_f86c9_3 : decode cJ9_min_f86c9 3 = .ok (.ifCond .gt 7, 3) := by decide +kernel
theorem dJ9_min_f86c9_6 : decode cJ9_min_f86c9 6 = .ok (.lload_n 0, 1) := by decide +kernel
theorem dJ9_min_f86c9_7 : decode cJ9_min_f86c9 7 = .ok (.goto 4, 3) := by decide +kernel
theorem dJ9_min_f86c9_10 : decode cJ9_min_f86c9 10 = .ok (.lload_n 2, 1) := by decide +kernel
theorem dJ9_min_f86c9_11 : decode cJ9_min_f86c9 11 = .ok (.lreturn, 1) := by decide +kernel
theorem dJ7_fill_53178_0 : decode cJ7_fill_53178 0 = .ok (.iconst 0, 1) := by decide +kernel
theorem dJ7_fill_53178_1 : decode cJ7_fill_53178 1 = .ok (.istore_n 2, 1) := by decide +kernel
theorem dJ7_fill_53178_2 : decode cJ7_fill_53178 2 = .ok (.aload_n 0, 1) := by decide +kernel
theorem dJ7_fill_53178_3 : decode cJ7_fill_53178 3 = .ok (.arraylength, 1) := by decide +kernel
theorem dJ7_fill_53178_4 : decode cJ7_fill_53178 4 = .ok (.istore_n 3, 1) := by decide +kernel
theorem dJ7_fill_53178_5 : decode cJ7_fill_53178 5 = .ok (.iload_n 2, 1) := by decide +kernel
theorem dJ7_fill_53178_6 : decode cJ7_fill_53178 6 = .ok (.iload_n 3, 1) := by decide +kernel
theorem dJ7_fill_53178_7 : decode cJ7_fill_53178 7 = .ok (.if_icmp .ge 13, 3) := by decide +kernel
theorem dJ7_fill_53178_10 : decode cJ7_fill_53178 10 = .ok (.aload_n 0, 1) := by decide +kernel
theorem dJ7_fill_53178_11 : decode cJ7_fill_53178 11 = .ok (.iload_n 2, 1) := by decide +kernel
theorem dJ7_fill_53178_12 : decode cJ7_fill_53178 12 = .ok (.iload_n 1, 1) := by decide +kernel
theorem dJ7_fill_53178_13 : decode cJ7_fill_53178 13 = .ok (.iastore, 1) := by decide +kernel
theorem dJ7_fill_53178_14 : decode cJ7_fill_53178 14 = .ok (.iinc 2 1, 3) := by decide +kernel
theorem dJ7_fill_53178_17 : decode cJ7_fill_53178 17 = .ok (.goto (-12), 3) := by decide +kernel
theorem dJ7_fill_53178_20 : decode cJ7_fill_53178 20 = .ok (.return_, 1) := by decide +kernel
theorem dL_law_0 : decode cL_law 0 = .ok (.new 7, 3) := by decide +kernel
theorem dL_law_3 : decode cL_law 3 = .ok (.dup, 1) := by decide +kernel
theorem dL_law_4 : decode cL_law 4 = .ok (.invokespecial 9, 3) := by decide +kernel
theorem dL_law_7 : decode cL_law 7 = .ok (.astore_n 1, 1) := by decide +kernel
theorem dL_law_8 : decode cL_law 8 = .ok (.new 10, 3) := by decide +kernel
theorem dL_law_11 : decode cL_law 11 = .ok (.dup, 1) := by decide +kernel
theorem dL_law_12 : decode cL_law 12 = .ok (.invokespecial 12, 3) := by decide +kernel
theorem dL_law_15 : decode cL_law 15 = .ok (.astore_n 2, 1) := by decide +kernel
theorem dL_law_16 : decode cL_law 16 = .ok (.iconst 0, 1) := by decide +kernel
theorem dL_law_17 : decode cL_law 17 = .ok (.istore_n 3, 1) := by decide +kernel
theorem dL_law_18 : decode cL_law 18 = .ok (.iload_n 3, 1) := by decide +kernel
theorem dL_law_19 : decode cL_law 19 = .ok (.aload_n 0, 1) := by decide +kernel
theorem dL_law_20 : decode cL_law 20 = .ok (.arraylength, 1) := by decide +kernel
theorem dL_law_21 : decode cL_law 21 = .ok (.bipush 8, 2) := by decide +kernel
theorem dL_law_23 : decode cL_law 23 = .ok (.isub, 1) := by decide +kernel
theorem dL_law_24 : decode cL_law 24 = .ok (.if_icmp .gt 1338, 3) := by decide +kernel
theorem dL_law_27 : decode cL_law 27 = .ok (.aload_n 0, 1) := by decide +kernel
theorem dL_law_28 : decode cL_law 28 = .ok (.iload_n 3, 1) := by decide +kernel
theorem dL_law_29 : decode cL_law 29 = .ok (.iaload, 1) := by decide +kernel
theorem dL_law_30 : decode cL_law 30 = .ok (.bipush 31, 2) := by decide +kernel
theorem dL_law_32 : decode cL_law 32 = .ok (.iand, 1) := by decide +kernel
theorem dL_law_33 : decode cL_law 33 = .ok (.tableswitch 1323 0 27 #[127, 180, 233, 328, 381, 414, 467, 554, 597, 630, 673, 716, 759, 828, 881, 924, 967, 1030, 1063, 1086, 1129, 1162, 1195, 1228, 1251, 1274, 1287, 1300], 127) := by decide +kernel
theorem dL_law_160 : decode cL_law 160 = .ok (.aload_n 1, 1) := by decide +kernel
theorem dL_law_161 : decode cL_law 161 = .ok (.aload_n 0, 1) := by decide +kernel
theorem dL_law_162 : decode cL_law 162 = .ok (.iload_n 3, 1) := by decide +kernel
theorem dL_law_163 : decode cL_law 163 = .ok (.iconst 1, 1) := by decide +kernel
theorem dL_law_164 : decode cL_law 164 = .ok (.iadd, 1) := by decide +kernel
theorem dL_law_165 : decode cL_law 165 = .ok (.iaload, 1) := by decide +kernel
theorem dL_law_166 : decode cL_law 166 = .ok (.aload_n 0, 1) := by decide +kernel
theorem dL_law_167 : decode cL_law 167 = .ok (.iload_n 3, 1) := by decide +kernel
theorem dL_law_168 : decode cL_law 168 = .ok (.iconst 2, 1) := by decide +kernel
theorem dL_law_169 : decode cL_law 169 = .ok (.iadd, 1) := by decide +kernel
theorem dL_law_170 : decode cL_law 170 = .ok (.iaload, 1) := by decide +kernel
theorem dL_law_171 : decode cL_law 171 = .ok (.aload_n 0, 1) := by decide +kernel
theorem dL_law_172 : decode cL_law 172 = .ok (.iload_n 3, 1) := by decide +kernel
theorem dL_law_173 : decode cL_law 173 = .ok (.iconst 3, 1) := by decide +kernel
theorem dL_law_174 : decode cL_law 174 = .ok (.iadd, 1) := by decide +kernel
theorem dL_law_175 : decode cL_law 175 = .ok (.iaload, 1) := by decide +kernel
theorem dL_law_176 : decode cL_law 176 = .ok (.aload_n 0, 1) := by decide +kernel
theorem dL_law_177 : decode cL_law 177 = .ok (.iload_n 3, 1) := by decide +kernel
theorem dL_law_178 : decode cL_law 178 = .ok (.iconst 4, 1) := by decide +kernel
theorem dL_law_179 : decode cL_law 179 = .ok (.iadd, 1) := by decide +kernel
theorem dL_law_180 : decode cL_law 180 = .ok (.iaload, 1) := by decide +kernel
theorem dL_law_181 : decode cL_law 181 = .ok (.invokevirtual 13, 3) := by decide +kernel
theorem dL_law_184 : decode cL_law 184 = .ok (.aload_n 2, 1) := by decide +kernel
theorem dL_law_185 : decode cL_law 185 = .ok (.aload_n 0, 1) := by decide +kernel
theorem dL_law_186 : decode cL_law 186 = .ok (.iload_n 3, 1) := by decide +kernel
theorem dL_law_187 : decode cL_law 187 = .ok (.iconst 1, 1) := by decide +kernel
theorem dL_law_188 : decode cL_law 188 = .ok (.iadd, 1) := by decide +kernel
theorem dL_law_189 : decode cL_law 189 = .ok (.iaload, 1) := by decide +kernel
theorem dL_law_190 : decode cL_law 190 = .ok (.aload_n 0, 1) := by decide +kernel
theorem dL_law_191 : decode cL_law 191 = .ok (.iload_n 3, 1) := by decide +kernel
theorem dL_law_192 : decode cL_law 192 = .ok (.iconst 2, 1) := by decide +kernel
theorem dL_law_193 : decode cL_law 193 = .ok (.iadd, 1) := by decide +kernel
theorem dL_law_194 : decode cL_law 194 = .ok (.iaload, 1) := by decide +kernel
theorem dL_law_195 : decode cL_law 195 = .ok (.aload_n 0, 1) := by decide +kernel
theorem dL_law_196 : decode cL_law 196 = .ok (.iload_n 3, 1) := by decide +kernel
theorem dL_law_197 : decode cL_law 197 = .ok (.iconst 3, 1) := by decide +kernel
theorem dL_law_198 : decode cL_law 198 = .ok (.iadd, 1) := by decide +kernel
theorem dL_law_199 : decode cL_law 199 = .ok (.iaload, 1) := by decide +kernel
theorem dL_law_200 : decode cL_law 200 = .ok (.aload_n 0, 1) := by decide +kernel
theorem dL_law_201 : decode cL_law 201 = .ok (.iload_n 3, 1) := by decide +kernel
theorem dL_law_202 : decode cL_law 202 = .ok (.iconst 4, 1) := by decide +kernel
theorem dL_law_203 : decode cL_law 203 = .ok (.iadd, 1) := by decide +kernel
theorem dL_law_204 : decode cL_law 204 = .ok (.iaload, 1) := by decide +kernel
theorem dL_law_205 : decode cL_law 205 = .ok (.invokevirtual 17, 3) := by decide +kernel
theorem dL_law_208 : decode cL_law 208 = .ok (.if_icmp .eq 1148, 3) := by decide +kernel
theorem dL_law_211 : decode cL_law 211 = .ok (.iconst 0, 1) := by decide +kernel
theorem dL_law_212 : decode cL_law 212 = .ok (.ireturn, 1) := by decide +kernel
theorem dL_law_213 : decode cL_law 213 = .ok (.aload_n 1, 1) := by decide +kernel
theorem dL_law_214 : decode cL_law 214 = .ok (.aload_n 0, 1) := by decide +kernel
theorem dL_law_215 : decode cL_law 215 = .ok (.iload_n 3, 1) := by decide +kernel
theorem dL_law_216 : decode cL_law 216 = .ok (.iconst 1, 1) := by decide +kernel
theorem dL_law_217 : decode cL_law 217 = .ok (.iadd, 1) := by decide +kernel
theorem dL_law_218 : decode cL_law 218 = .ok (.iaload, 1) := by decide +kernel
theorem dL_law_219 : decode cL_law 219 = .ok (.aload_n 0, 1) := by decide +kernel
theorem dL_law_220 : decode cL_law 220 = .ok (.iload_n 3, 1) := by decide +kernel
theorem dL_law_221 : decode cL_law 221 = .ok (.iconst 2, 1) := by decide +kernel
theorem dL_law_222 : decode cL_law 222 = .ok (.iadd, 1) := by decide +kernel
theorem dL_law_223 : decode cL_law 223 = .ok (.iaload, 1) := by decide +kernel
theorem dL_law_224 : decode cL_law 224 = .ok (.aload_n 0, 1) := by decide +kernel
theorem dL_law_225 : decode cL_law 225 = .ok (.iload_n 3, 1) := by decide +kernel
theorem dL_law_226 : decode cL_law 226 = .ok (.iconst 3, 1) := by decide +kernel
theorem dL_law_227 : decode cL_law 227 = .ok (.iadd, 1) := by decide +kernel
theorem dL_law_228 : decode cL_law 228 = .ok (.iaload, 1) := by decide +kernel
theorem dL_law_229 : decode cL_law 229 = .ok (.aload_n 0, 1) := by decide +kernel
theorem dL_law_230 : decode cL_law 230 = .ok (.iload_n 3, 1) := by decide +kernel
theorem dL_law_231 : decode cL_law 231 = .ok (.iconst 4, 1) := by decide +kernel
theorem dL_law_232 : decode cL_law 232 = .ok (.iadd, 1) := by decide +kernel
theorem dL_law_233 : decode cL_law 233 = .ok (.iaload, 1) := by decide +kernel
theorem dL_law_234 : decode cL_law 234 = .ok (.invokevirtual 18, 3) := by decide +kernel
theorem dL_law_237 : decode cL_law 237 = .ok (.aload_n 2, 1) := by decide +kernel
theorem dL_law_238 : decode cL_law 238 = .ok (.aload_n 0, 1) := by decide +kernel
theorem dL_law_239 : decode cL_law 239 = .ok (.iload_n 3, 1) := by decide +kernel
theorem dL_law_240 : decode cL_law 240 = .ok (.iconst 1, 1) := by decide +kernel
theorem dL_law_241 : decode cL_law 241 = .ok (.iadd, 1) := by decide +kernel
theorem dL_law_242 : decode cL_law 242 = .ok (.iaload, 1) := by decide +kernel
theorem dL_law_243 : decode cL_law 243 = .ok (.aload_n 0, 1) := by decide +kernel
theorem dL_law_244 : decode cL_law 244 = .ok (.iload_n 3, 1) := by decide +kernel
theorem dL_law_245 : decode cL_law 245 = .ok (.iconst 2, 1) := by decide +kernel
theorem dL_law_246 : decode cL_law 246 = .ok (.iadd, 1) := by decide +kernel
theorem dL_law_247 : decode cL_law 247 = .ok (.iaload, 1) := by decide +kernel
theorem dL_law_248 : decode cL_law 248 = .ok (.aload_n 0, 1) := by decide +kernel
theorem dL_law_249 : decode cL_law 249 = .ok (.iload_n 3, 1) := by decide +kernel
theorem dL_law_250 : decode cL_law 250 = .ok (.iconst 3, 1) := by decide +kernel
theorem dL_law_251 : decode cL_law 251 = .ok (.iadd, 1) := by decide +kernel
theorem dL_law_252 : decode cL_law 252 = .ok (.iaload, 1) := by decide +kernel
theorem dL_law_253 : decode cL_law 253 = .ok (.aload_n 0, 1) := by decide +kernel
theorem dL_law_254 : decode cL_law 254 = .ok (.iload_n 3, 1) := by decide +kernel
theorem dL_law_255 : decode cL_law 255 = .ok (.iconst 4, 1) := by decide +kernel
theorem dL_law_256 : decode cL_law 256 = .ok (.iadd, 1) := by decide +kernel
theorem dL_law_257 : decode cL_law 257 = .ok (.iaload, 1) := by decide +kernel
theorem dL_law_258 : decode cL_law 258 = .ok (.invokevirtual 21, 3) := by decide +kernel
theorem dL_law_261 : decode cL_law 261 = .ok (.if_icmp .eq 1095, 3) := by decide +kernel
theorem dL_law_264 : decode cL_law 264 = .ok (.iconst 0, 1) := by decide +kernel
theorem dL_law_265 : decode cL_law 265 = .ok (.ireturn, 1) := by decide +kernel
theorem dL_law_266 : decode cL_law 266 = .ok (.aload_n 1, 1) := by decide +kernel
theorem dL_law_267 : decode cL_law 267 = .ok (.aload_n 0, 1) := by decide +kernel
theorem dL_law_268 : decode cL_law 268 = .ok (.iload_n 3, 1) := by decide +kernel
theorem dL_law_269 : decode cL_law 269 = .ok (.iconst 1, 1) := by decide +kernel
theorem dL_law_270 : decode cL_law 270 = .ok (.iadd, 1) := by decide +kernel
theorem dL_law_271 : decode cL_law 271 = .ok (.iaload, 1) := by decide +kernel
theorem dL_law_272 : decode cL_law 272 = .ok (.aload_n 0, 1) := by decide +kernel
theorem dL_law_273 : decode cL_law 273 = .ok (.iload_n 3, 1) := by decide +kernel
theorem dL_law_274 : decode cL_law 274 = .ok (.iconst 2, 1) := by decide +kernel
theorem dL_law_275 : decode cL_law 275 = .ok (.iadd, 1) := by decide +kernel
theorem dL_law_276 : decode cL_law 276 = .ok (.iaload, 1) := by decide +kernel
theorem dL_law_277 : decode cL_law 277 = .ok (.aload_n 0, 1) := by decide +kernel
theorem dL_law_278 : decode cL_law 278 = .ok (.iload_n 3, 1) := by decide +kernel
theorem dL_law_279 : decode cL_law 279 = .ok (.iconst 3, 1) := by decide +kernel
theorem dL_law_280 : decode cL_law 280 = .ok (.iadd, 1) := by decide +kernel
theorem dL_law_281 : decode cL_law 281 = .ok (.iaload, 1) := by decide +kernel
theorem dL_law_282 : decode cL_law 282 = .ok (.aload_n 0, 1) := by decide +kernel
theorem dL_law_283 : decode cL_law 283 = .ok (.iload_n 3, 1) := by decide +kernel
theorem dL_law_284 : decode cL_law 284 = .ok (.iconst 4, 1) := by decide +kernel
theorem dL_law_285 : decode cL_law 285 = .ok (.iadd, 1) := by decide +kernel
theorem dL_law_286 : decode cL_law 286 = .ok (.iaload, 1) := by decide +kernel
theorem dL_law_287 : decode cL_law 287 = .ok (.i2l, 1) := by decide +kernel
theorem dL_law_288 : decode cL_law 288 = .ok (.bipush 32, 2) := by decide +kernel
theorem dL_law_290 : decode cL_law 290 = .ok (.lshl, 1) := by decide +kernel
theorem dL_law_291 : decode cL_law 291 = .ok (.aload_n 0, 1) := by decide +kernel
theorem dL_law_292 : decode cL_law 292 = .ok (.iload_n 3, 1) := by decide +kernel
theorem dL_law_293 : decode cL_law 293 = .ok (.iconst 5, 1) := by decide +kernel
theorem dL_law_294 : decode cL_law 294 = .ok (.iadd, 1) := by decide +kernel
theorem dL_law_295 : decode cL_law 295 = .ok (.iaload, 1) := by decide +kernel
theorem dL_law_296 : decode cL_law 296 = .ok (.i2l, 1) := by decide +kernel
theorem dL_law_297 : decode cL_law 297 = .ok (.ldc2_w 22, 3) := by decide +kernel
theorem dL_law_300 : decode cL_law 300 = .ok (.land, 1) := by decide +kernel
theorem dL_law_301 : decode cL_law 301 = .ok (.lor, 1) := by decide +kernel
theorem dL_law_302 : decode cL_law 302 = .ok (.aload_n 0, 1) := by decide +kernel
theorem dL_law_303 : decode cL_law 303 = .ok (.iload_n 3, 1) := by decide +kernel
theorem dL_law_304 : decode cL_law 304 = .ok (.bipush 6, 2) := by decide +kernel
theorem dL_law_306 : decode cL_law 306 = .ok (.iadd, 1) := by decide +kernel
theorem dL_law_307 : decode cL_law 307 = .ok (.iaload, 1) := by decide +kernel
theorem dL_law_308 : decode cL_law 308 = .ok (.invokevirtual 24, 3) := by decide +kernel
theorem dL_law_311 : decode cL_law 311 = .ok (.aload_n 2, 1) := by decide +kernel
theorem dL_law_312 : decode cL_law 312 = .ok (.aload_n 0, 1) := by decide +kernel
theorem dL_law_313 : decode cL_law 313 = .ok (.iload_n 3, 1) := by decide +kernel
theorem dL_law_314 : decode cL_law 314 = .ok (.iconst 1, 1) := by decide +kernel
theorem dL_law_315 : decode cL_law 315 = .ok (.iadd, 1) := by decide +kernel
theorem dL_law_316 : decode cL_law 316 = .ok (.iaload, 1) := by decide +kernel
theorem dL_law_317 : decode cL_law 317 = .ok (.aload_n 0, 1) := by decide +kernel
theorem dL_law_318 : decode cL_law 318 = .ok (.iload_n 3, 1) := by decide +kernel
theorem dL_law_319 : decode cL_law 319 = .ok (.iconst 2, 1) := by decide +kernel
theorem dL_law_320 : decode cL_law 320 = .ok (.iadd, 1) := by decide +kernel
theorem dL_law_321 : decode cL_law 321 = .ok (.iaload, 1) := by decide +kernel
theorem dL_law_322 : decode cL_law 322 = .ok (.aload_n 0, 1) := by decide +kernel
theorem dL_law_323 : decode cL_law 323 = .ok (.iload_n 3, 1) := by decide +kernel
theorem dL_law_324 : decode cL_law 324 = .ok (.iconst 3, 1) := by decide +kernel
theorem dL_law_325 : decode cL_law 325 = .ok (.iadd, 1) := by decide +kernel
theorem dL_law_326 : decode cL_law 326 = .ok (.iaload, 1) := by decide +kernel
theorem dL_law_327 : decode cL_law 327 = .ok (.aload_n 0, 1) := by decide +kernel
theorem dL_law_328 : decode cL_law 328 = .ok (.iload_n 3, 1) := by decide +kernel
theorem dL_law_329 : decode cL_law 329 = .ok (.iconst 4, 1) := by decide +kernel
theorem dL_law_330 : decode cL_law 330 = .ok (.iadd, 1) := by decide +kernel
theorem dL_law_331 : decode cL_law 331 = .ok (.iaload, 1) := by decide +kernel
theorem dL_law_332 : decode cL_law 332 = .ok (.i2l, 1) := by decide +kernel
theorem dL_law_333 : decode cL_law 333 = .ok (.bipush 32, 2) := by decide +kernel
theorem dL_law_335 : decode cL_law 335 = .ok (.lshl, 1) := by decide +kernel
theorem dL_law_336 : decode cL_law 336 = .ok (.aload_n 0, 1) := by decide +kernel
theorem dL_law_337 : decode cL_law 337 = .ok (.iload_n 3, 1) := by decide +kernel
theorem dL_law_338 : decode cL_law 338 = .ok (.iconst 5, 1) := by decide +kernel
theorem dL_law_339 : decode cL_law 339 = .ok (.iadd, 1) := by decide +kernel
theorem dL_law_340 : decode cL_law 340 = .ok (.iaload, 1) := by decide +kernel
theorem dL_law_341 : decode cL_law 341 = .ok (.i2l, 1) := by decide +kernel
theorem dL_law_342 : decode cL_law 342 = .ok (.ldc2_w 22, 3) := by decide +kernel
theorem dL_law_345 : decode cL_law 345 = .ok (.land, 1) := by decide +kernel
theorem dL_law_346 : decode cL_law 346 = .ok (.lor, 1) := by decide +kernel
theorem dL_law_347 : decode cL_law 347 = .ok (.aload_n 0, 1) := by decide +kernel
theorem dL_law_348 : decode cL_law 348 = .ok (.iload_n 3, 1) := by decide +kernel
theorem dL_law_349 : decode cL_law 349 = .ok (.bipush 6, 2) := by decide +kernel
theorem dL_law_351 : decode cL_law 351 = .ok (.iadd, 1) := by decide +kernel
theorem dL_law_352 : decode cL_law 352 = .ok (.iaload, 1) := by decide +kernel
theorem dL_law_353 : decode cL_law 353 = .ok (.invokevirtual 28, 3) := by decide +kernel
theorem dL_law_356 : decode cL_law 356 = .ok (.if_icmp .eq 1000, 3) := by decide +kernel
theorem dL_law_359 : decode cL_law 359 = .ok (.iconst 0, 1) := by decide +kernel
theorem dL_law_360 : decode cL_law 360 = .ok (.ireturn, 1) := by decide +kernel
theorem dL_law_361 : decode cL_law 361 = .ok (.aload_n 1, 1) := by decide +kernel
theorem dL_law_362 : decode cL_law 362 = .ok (.aload_n 0, 1) := by decide +kernel
theorem dL_law_363 : decode cL_law 363 = .ok (.iload_n 3, 1) := by decide +kernel
theorem dL_law_364 : decode cL_law 364 = .ok (.iconst 1, 1) := by decide +kernel
theorem dL_law_365 : decode cL_law 365 = .ok (.iadd, 1) := by decide +kernel
theorem dL_law_366 : decode cL_law 366 = .ok (.iaload, 1) := by decide +kernel
theorem dL_law_367 : decode cL_law 367 = .ok (.aload_n 0, 1) := by decide +kernel
theorem dL_law_368 : decode cL_law 368 = .ok (.iload_n 3, 1) := by decide +kernel
theorem dL_law_369 : decode cL_law 369 = .ok (.iconst 2, 1) := by decide +kernel
theorem dL_law_370 : decode cL_law 370 = .ok (.iadd, 1) := by decide +kernel
theorem dL_law_371 : decode cL_law 371 = .ok (.iaload, 1) := by decide +kernel
theorem dL_law_372 : decode cL_law 372 = .ok (.aload_n 0, 1) := by decide +kernel
theorem dL_law_373 : decode cL_law 373 = .ok (.iload_n 3, 1) := by decide +kernel
theorem dL_law_374 : decode cL_law 374 = .ok (.iconst 3, 1) := by decide +kernel
theorem dL_law_375 : decode cL_law 375 = .ok (.iadd, 1) := by decide +kernel
theorem dL_law_376 : decode cL_law 376 = .ok (.iaload, 1) := by decide +kernel
theorem dL_law_377 : decode cL_law 377 = .ok (.aload_n 0, 1) := by decide +kernel
theorem dL_law_378 : decode cL_law 378 = .ok (.iload_n 3, 1) := by decide +kernel
theorem dL_law_379 : decode cL_law 379 = .ok (.iconst 4, 1) := by decide +kernel
theorem dL_law_380 : decode cL_law 380 = .ok (.iadd, 1) := by decide +kernel
theorem dL_law_381 : decode cL_law 381 = .ok (.iaload, 1) := by decide +kernel
theorem dL_law_382 : decode cL_law 382 = .ok (.invokevirtual 29, 3) := by decide +kernel
theorem dL_law_385 : decode cL_law 385 = .ok (.aload_n 2, 1) := by decide +kernel
theorem dL_law_386 : decode cL_law 386 = .ok (.aload_n 0, 1) := by decide +kernel
theorem dL_law_387 : decode cL_law 387 = .ok (.iload_n 3, 1) := by decide +kernel
theorem dL_law_388 : decode cL_law 388 = .ok (.iconst 1, 1) := by decide +kernel
theorem dL_law_389 : decode cL_law 389 = .ok (.iadd, 1) := by decide +kernel
theorem dL_law_390 : decode cL_law 390 = .ok (.iaload, 1) := by decide +kernel
theorem dL_law_391 : decode cL_law 391 = .ok (.aload_n 0, 1) := by decide +kernel
theorem dL_law_392 : decode cL_law 392 = .ok (.iload_n 3, 1) := by decide +kernel
theorem dL_law_393 : decode cL_law 393 = .ok (.iconst 2, 1) := by decide +kernel
theorem dL_law_394 : decode cL_law 394 = .ok (.iadd, 1) := by decide +kernel
theorem dL_law_395 : decode cL_law 395 = .ok (.iaload, 1) := by decide +kernel
theorem dL_law_396 : decode cL_law 396 = .ok (.aload_n 0, 1) := by decide +kernel
theorem dL_law_397 : decode cL_law 397 = .ok (.iload_n 3, 1) := by decide +kernel
theorem dL_law_398 : decode cL_law 398 = .ok (.iconst 3, 1) := by decide +kernel
theorem dL_law_399 : decode cL_law 399 = .ok (.iadd, 1) := by decide +kernel
theorem dL_law_400 : decode cL_law 400 = .ok (.iaload, 1) := by decide +kernel
theorem dL_law_401 : decode cL_law 401 = .ok (.aload_n 0, 1) := by decide +kernel
theorem dL_law_402 : decode cL_law 402 = .ok (.iload_n 3, 1) := by decide +kernel
theorem dL_law_403 : decode cL_law 403 = .ok (.iconst 4, 1) := by decide +kernel
theorem dL_law_404 : decode cL_law 404 = .ok (.iadd, 1) := by decide +kernel
theorem dL_law_405 : decode cL_law 405 = .ok (.iaload, 1) := by decide +kernel
theorem dL_law_406 : decode cL_law 406 = .ok (.invokevirtual 32, 3) := by decide +kernel
theorem dL_law_409 : decode cL_law 409 = .ok (.if_icmp .eq 947, 3) := by decide +kernel
theorem dL_law_412 : decode cL_law 412 = .ok (.iconst 0, 1) := by decide +kernel
theorem dL_law_413 : decode cL_law 413 = .ok (.ireturn, 1) := by decide +kernel
theorem dL_law_414 : decode cL_law 414 = .ok (.aload_n 1, 1) := by decide +kernel
theorem dL_law_415 : decode cL_law 415 = .ok (.aload_n 0, 1) := by decide +kernel
theorem dL_law_416 : decode cL_law 416 = .ok (.iload_n 3, 1) := by decide +kernel
theorem dL_law_417 : decode cL_law 417 = .ok (.iconst 1, 1) := by decide +kernel
theorem dL_law_418 : decode cL_law 418 = .ok (.iadd, 1) := by decide +kernel
theorem dL_law_419 : decode cL_law 419 = .ok (.iaload, 1) := by decide +kernel
theorem dL_law_420 : decode cL_law 420 = .ok (.aload_n 0, 1) := by decide +kernel
theorem dL_law_421 : decode cL_law 421 = .ok (.iload_n 3, 1) := by decide +kernel
theorem dL_law_422 : decode cL_law 422 = .ok (.iconst 2, 1) := by decide +kernel
theorem dL_law_423 : decode cL_law 423 = .ok (.iadd, 1) := by decide +kernel
theorem dL_law_424 : decode cL_law 424 = .ok (.iaload, 1) := by decide +kernel
theorem dL_law_425 : decode cL_law 425 = .ok (.invokevirtual 33, 3) := by decide +kernel
theorem dL_law_428 : decode cL_law 428 = .ok (.aload_n 2, 1) := by decide +kernel
theorem dL_law_429 : decode cL_law 429 = .ok (.aload_n 0, 1) := by decide +kernel
theorem dL_law_430 : decode cL_law 430 = .ok (.iload_n 3, 1) := by decide +kernel
theorem dL_law_431 : decode cL_law 431 = .ok (.iconst 1, 1) := by decide +kernel
theorem dL_law_432 : decode cL_law 432 = .ok (.iadd, 1) := by decide +kernel
theorem dL_law_433 : decode cL_law 433 = .ok (.iaload, 1) := by decide +kernel
theorem dL_law_434 : decode cL_law 434 = .ok (.aload_n 0, 1) := by decide +kernel
theorem dL_law_435 : decode cL_law 435 = .ok (.iload_n 3, 1) := by decide +kernel
theorem dL_law_436 : decode cL_law 436 = .ok (.iconst 2, 1) := by decide +kernel
theorem dL_law_437 : decode cL_law 437 = .ok (.iadd, 1) := by decide +kernel
theorem dL_law_438 : decode cL_law 438 = .ok (.iaload, 1) := by decide +kernel
theorem dL_law_439 : decode cL_law 439 = .ok (.invokevirtual 37, 3) := by decide +kernel
theorem dL_law_442 : decode cL_law 442 = .ok (.if_icmp .eq 914, 3) := by decide +kernel
theorem dL_law_445 : decode cL_law 445 = .ok (.iconst 0, 1) := by decide +kernel
theorem dL_law_446 : decode cL_law 446 = .ok (.ireturn, 1) := by decide +kernel
theorem dL_law_447 : decode cL_law 447 = .ok (.aload_n 1, 1) := by decide +kernel
theorem dL_law_448 : decode cL_law 448 = .ok (.aload_n 0, 1) := by decide +kernel
theorem dL_law_449 : decode cL_law 449 = .ok (.iload_n 3, 1) := by decide +kernel
theorem dL_law_450 : decode cL_law 450 = .ok (.iconst 1, 1) := by decide +kernel
theorem dL_law_451 : decode cL_law 451 = .ok (.iadd, 1) := by decide +kernel
theorem dL_law_452 : decode cL_law 452 = .ok (.iaload, 1) := by decide +kernel
theorem dL_law_453 : decode cL_law 453 = .ok (.aload_n 0, 1) := by decide +kernel
theorem dL_law_454 : decode cL_law 454 = .ok (.iload_n 3, 1) := by decide +kernel
theorem dL_law_455 : decode cL_law 455 = .ok (.iconst 2, 1) := by decide +kernel
theorem dL_law_456 : decode cL_law 456 = .ok (.iadd, 1) := by decide +kernel
theorem dL_law_457 : decode cL_law 457 = .ok (.iaload, 1) := by decide +kernel
theorem dL_law_458 : decode cL_law 458 = .ok (.aload_n 0, 1) := by decide +kernel
theorem dL_law_459 : decode cL_law 459 = .ok (.iload_n 3, 1) := by decide +kernel
theorem dL_law_460 : decode cL_law 460 = .ok (.iconst 3, 1) := by decide +kernel
theorem dL_law_461 : decode cL_law 461 = .ok (.iadd, 1) := by decide +kernel
theorem dL_law_462 : decode cL_law 462 = .ok (.iaload, 1) := by decide +kernel
theorem dL_law_463 : decode cL_law 463 = .ok (.aload_n 0, 1) := by decide +kernel
theorem dL_law_464 : decode cL_law 464 = .ok (.iload_n 3, 1) := by decide +kernel
theorem dL_law_465 : decode cL_law 465 = .ok (.iconst 4, 1) := by decide +kernel
theorem dL_law_466 : decode cL_law 466 = .ok (.iadd, 1) := by decide +kernel
theorem dL_law_467 : decode cL_law 467 = .ok (.iaload, 1) := by decide +kernel
theorem dL_law_468 : decode cL_law 468 = .ok (.invokevirtual 38, 3) := by decide +kernel
theorem dL_law_471 : decode cL_law 471 = .ok (.aload_n 2, 1) := by decide +kernel
theorem dL_law_472 : decode cL_law 472 = .ok (.aload_n 0, 1) := by decide +kernel
theorem dL_law_473 : decode cL_law 473 = .ok (.iload_n 3, 1) := by decide +kernel
theorem dL_law_474 : decode cL_law 474 = .ok (.iconst 1, 1) := by decide +kernel
theorem dL_law_475 : decode cL_law 475 = .ok (.iadd, 1) := by decide +kernel
theorem dL_law_476 : decode cL_law 476 = .ok (.iaload, 1) := by decide +kernel
theorem dL_law_477 : decode cL_law 477 = .ok (.aload_n 0, 1) := by decide +kernel
theorem dL_law_478 : decode cL_law 478 = .ok (.iload_n 3, 1) := by decide +kernel
theorem dL_law_479 : decode cL_law 479 = .ok (.iconst 2, 1) := by decide +kernel
theorem dL_law_480 : decode cL_law 480 = .ok (.iadd, 1) := by decide +kernel
theorem dL_law_481 : decode cL_law 481 = .ok (.iaload, 1) := by decide +kernel
theorem dL_law_482 : decode cL_law 482 = .ok (.aload_n 0, 1) := by decide +kernel
theorem dL_law_483 : decode cL_law 483 = .ok (.iload_n 3, 1) := by decide +kernel
theorem dL_law_484 : decode cL_law 484 = .ok (.iconst 3, 1) := by decide +kernel
theorem dL_law_485 : decode cL_law 485 = .ok (.iadd, 1) := by decide +kernel
theorem dL_law_486 : decode cL_law 486 = .ok (.iaload, 1) := by decide +kernel
theorem dL_law_487 : decode cL_law 487 = .ok (.aload_n 0, 1) := by decide +kernel
theorem dL_law_488 : decode cL_law 488 = .ok (.iload_n 3, 1) := by decide +kernel
theorem dL_law_489 : decode cL_law 489 = .ok (.iconst 4, 1) := by decide +kernel
theorem dL_law_490 : decode cL_law 490 = .ok (.iadd, 1) := by decide +kernel
theorem dL_law_491 : decode cL_law 491 = .ok (.iaload, 1) := by decide +kernel
theorem dL_law_492 : decode cL_law 492 = .ok (.invokevirtual 41, 3) := by decide +kernel
theorem dL_law_495 : decode cL_law 495 = .ok (.if_icmp .eq 861, 3) := by decide +kernel
theorem dL_law_498 : decode cL_law 498 = .ok (.iconst 0, 1) := by decide +kernel
theorem dL_law_499 : decode cL_law 499 = .ok (.ireturn, 1) := by decide +kernel
theorem dL_law_500 : decode cL_law 500 = .ok (.aload_n 1, 1) := by decide +kernel
theorem dL_law_501 : decode cL_law 501 = .ok (.aload_n 0, 1) := by decide +kernel
theorem dL_law_502 : decode cL_law 502 = .ok (.iload_n 3, 1) := by decide +kernel
theorem dL_law_503 : decode cL_law 503 = .ok (.iconst 1, 1) := by decide +kernel
theorem dL_law_504 : decode cL_law 504 = .ok (.iadd, 1) := by decide +kernel
theorem dL_law_505 : decode cL_law 505 = .ok (.iaload, 1) := by decide +kernel
theorem dL_law_506 : decode cL_law 506 = .ok (.aload_n 0, 1) := by decide +kernel
theorem dL_law_507 : decode cL_law 507 = .ok (.iload_n 3, 1) := by decide +kernel
theorem dL_law_508 : decode cL_law 508 = .ok (.iconst 2, 1) := by decide +kernel
theorem dL_law_509 : decode cL_law 509 = .ok (.iadd, 1) := by decide +kernel
theorem dL_law_510 : decode cL_law 510 = .ok (.iaload, 1) := by decide +kernel
theorem dL_law_511 : decode cL_law 511 = .ok (.aload_n 0, 1) := by decide +kernel
theorem dL_law_512 : decode cL_law 512 = .ok (.iload_n 3, 1) := by decide +kernel
theorem dL_law_513 : decode cL_law 513 = .ok (.iconst 3, 1) := by decide +kernel
theorem dL_law_514 : decode cL_law 514 = .ok (.iadd, 1) := by decide +kernel
theorem dL_law_515 : decode cL_law 515 = .ok (.iaload, 1) := by decide +kernel
theorem dL_law_516 : decode cL_law 516 = .ok (.aload_n 0, 1) := by decide +kernel
theorem dL_law_517 : decode cL_law 517 = .ok (.iload_n 3, 1) := by decide +kernel
theorem dL_law_518 : decode cL_law 518 = .ok (.iconst 4, 1) := by decide +kernel
theorem dL_law_519 : decode cL_law 519 = .ok (.iadd, 1) := by decide +kernel
theorem dL_law_520 : decode cL_law 520 = .ok (.iaload, 1) := by decide +kernel
theorem dL_law_521 : decode cL_law 521 = .ok (.aload_n 0, 1) := by decide +kernel
theorem dL_law_522 : decode cL_law 522 = .ok (.iload_n 3, 1) := by decide +kernel
theorem dL_law_523 : decode cL_law 523 = .ok (.iconst 5, 1) := by decide +kernel
theorem dL_law_524 : decode cL_law 524 = .ok (.iadd, 1) := by decide +kernel
theorem dL_law_525 : decode cL_law 525 = .ok (.iaload, 1) := by decide +kernel
theorem dL_law_526 : decode cL_law 526 = .ok (.aload_n 0, 1) := by decide +kernel
theorem dL_law_527 : decode cL_law 527 = .ok (.iload_n 3, 1) := by decide +kernel
theorem dL_law_528 : decode cL_law 528 = .ok (.bipush 6, 2) := by decide +kernel
theorem dL_law_530 : decode cL_law 530 = .ok (.iadd, 1) := by decide +kernel
theorem dL_law_531 : decode cL_law 531 = .ok (.iaload, 1) := by decide +kernel
theorem dL_law_532 : decode cL_law 532 = .ok (.aload_n 0, 1) := by decide +kernel
theorem dL_law_533 : decode cL_law 533 = .ok (.iload_n 3, 1) := by decide +kernel
theorem dL_law_534 : decode cL_law 534 = .ok (.bipush 7, 2) := by decide +kernel
theorem dL_law_536 : decode cL_law 536 = .ok (.iadd, 1) := by decide +kernel
theorem dL_law_537 : decode cL_law 537 = .ok (.iaload, 1) := by decide +kernel
theorem dL_law_538 : decode cL_law 538 = .ok (.invokevirtual 42, 3) := by decide +kernel
theorem dL_law_541 : decode cL_law 541 = .ok (.aload_n 2, 1) := by decide +kernel
theorem dL_law_542 : decode cL_law 542 = .ok (.aload_n 0, 1) := by decide +kernel
theorem dL_law_543 : decode cL_law 543 = .ok (.iload_n 3, 1) := by decide +kernel
theorem dL_law_544 : decode cL_law 544 = .ok (.iconst 1, 1) := by decide +kernel
theorem dL_law_545 : decode cL_law 545 = .ok (.iadd, 1) := by decide +kernel
theorem dL_law_546 : decode cL_law 546 = .ok (.iaload, 1) := by decide +kernel
theorem dL_law_547 : decode cL_law 547 = .ok (.aload_n 0, 1) := by decide +kernel
theorem dL_law_548 : decode cL_law 548 = .ok (.iload_n 3, 1) := by decide +kernel
theorem dL_law_549 : decode cL_law 549 = .ok (.iconst 2, 1) := by decide +kernel
theorem dL_law_550 : decode cL_law 550 = .ok (.iadd, 1) := by decide +kernel
theorem dL_law_551 : decode cL_law 551 = .ok (.iaload, 1) := by decide +kernel
theorem dL_law_552 : decode cL_law 552 = .ok (.aload_n 0, 1) := by decide +kernel
theorem dL_law_553 : decode cL_law 553 = .ok (.iload_n 3, 1) := by decide +kernel
theorem dL_law_554 : decode cL_law 554 = .ok (.iconst 3, 1) := by decide +kernel
theorem dL_law_555 : decode cL_law 555 = .ok (.iadd, 1) := by decide +kernel
theorem dL_law_556 : decode cL_law 556 = .ok (.iaload, 1) := by decide +kernel
theorem dL_law_557 : decode cL_law 557 = .ok (.aload_n 0, 1) := by decide +kernel
theorem dL_law_558 : decode cL_law 558 = .ok (.iload_n 3, 1) := by decide +kernel
theorem dL_law_559 : decode cL_law 559 = .ok (.iconst 4, 1) := by decide +kernel
theorem dL_law_560 : decode cL_law 560 = .ok (.iadd, 1) := by decide +kernel
theorem dL_law_561 : decode cL_law 561 = .ok (.iaload, 1) := by decide +kernel
theorem dL_law_562 : decode cL_law 562 = .ok (.aload_n 0, 1) := by decide +kernel
theorem dL_law_563 : decode cL_law 563 = .ok (.iload_n 3, 1) := by decide +kernel
theorem dL_law_564 : decode cL_law 564 = .ok (.iconst 5, 1) := by decide +kernel
theorem dL_law_565 : decode cL_law 565 = .ok (.iadd, 1) := by decide +kernel
theorem dL_law_566 : decode cL_law 566 = .ok (.iaload, 1) := by decide +kernel
theorem dL_law_567 : decode cL_law 567 = .ok (.aload_n 0, 1) := by decide +kernel
theorem dL_law_568 : decode cL_law 568 = .ok (.iload_n 3, 1) := by decide +kernel
theorem dL_law_569 : decode cL_law 569 = .ok (.bipush 6, 2) := by decide +kernel
theorem dL_law_571 : decode cL_law 571 = .ok (.iadd, 1) := by decide +kernel
theorem dL_law_572 : decode cL_law 572 = .ok (.iaload, 1) := by decide +kernel
theorem dL_law_573 : decode cL_law 573 = .ok (.aload_n 0, 1) := by decide +kernel
theorem dL_law_574 : decode cL_law 574 = .ok (.iload_n 3, 1) := by decide +kernel
theorem dL_law_575 : decode cL_law 575 = .ok (.bipush 7, 2) := by decide +kernel
theorem dL_law_577 : decode cL_law 577 = .ok (.iadd, 1) := by decide +kernel
theorem dL_law_578 : decode cL_law 578 = .ok (.iaload, 1) := by decide +kernel
theorem dL_law_579 : decode cL_law 579 = .ok (.invokevirtual 46, 3) := by decide +kernel
theorem dL_law_582 : decode cL_law 582 = .ok (.if_icmp .eq 774, 3) := by decide +kernel
theorem dL_law_585 : decode cL_law 585 = .ok (.iconst 0, 1) := by decide +kernel
theorem dL_law_586 : decode cL_law 586 = .ok (.ireturn, 1) := by decide +kernel
theorem dL_law_587 : decode cL_law 587 = .ok (.aload_n 1, 1) := by decide +kernel
theorem dL_law_588 : decode cL_law 588 = .ok (.aload_n 0, 1) := by decide +kernel
theorem dL_law_589 : decode cL_law 589 = .ok (.iload_n 3, 1) := by decide +kernel
theorem dL_law_590 : decode cL_law 590 = .ok (.iconst 1, 1) := by decide +kernel
theorem dL_law_591 : decode cL_law 591 = .ok (.iadd, 1) := by decide +kernel
theorem dL_law_592 : decode cL_law 592 = .ok (.iaload, 1) := by decide +kernel
theorem dL_law_593 : decode cL_law 593 = .ok (.aload_n 0, 1) := by decide +kernel
theorem dL_law_594 : decode cL_law 594 = .ok (.iload_n 3, 1) := by decide +kernel
theorem dL_law_595 : decode cL_law 595 = .ok (.iconst 2, 1) := by decide +kernel
theorem dL_law_596 : decode cL_law 596 = .ok (.iadd, 1) := by decide +kernel
theorem dL_law_597 : decode cL_law 597 = .ok (.iaload, 1) := by decide +kernel
theorem dL_law_598 : decode cL_law 598 = .ok (.aload_n 0, 1) := by decide +kernel
theorem dL_law_599 : decode cL_law 599 = .ok (.iload_n 3, 1) := by decide +kernel
theorem dL_law_600 : decode cL_law 600 = .ok (.iconst 3, 1) := by decide +kernel
theorem dL_law_601 : decode cL_law 601 = .ok (.iadd, 1) := by decide +kernel
theorem dL_law_602 : decode cL_law 602 = .ok (.iaload, 1) := by decide +kernel
theorem dL_law_603 : decode cL_law 603 = .ok (.invokevirtual 47, 3) := by decide +kernel
theorem dL_law_606 : decode cL_law 606 = .ok (.aload_n 2, 1) := by decide +kernel
theorem dL_law_607 : decode cL_law 607 = .ok (.aload_n 0, 1) := by decide +kernel
theorem dL_law_608 : decode cL_law 608 = .ok (.iload_n 3, 1) := by decide +kernel
theorem dL_law_609 : decode cL_law 609 = .ok (.iconst 1, 1) := by decide +kernel
theorem dL_law_610 : decode cL_law 610 = .ok (.iadd, 1) := by decide +kernel
theorem dL_law_611 : decode cL_law 611 = .ok (.iaload, 1) := by decide +kernel
theorem dL_law_612 : decode cL_law 612 = .ok (.aload_n 0, 1) := by decide +kernel
theorem dL_law_613 : decode cL_law 613 = .ok (.iload_n 3, 1) := by decide +kernel
theorem dL_law_614 : decode cL_law 614 = .ok (.iconst 2, 1) := by decide +kernel
theorem dL_law_615 : decode cL_law 615 = .ok (.iadd, 1) := by decide +kernel
theorem dL_law_616 : decode cL_law 616 = .ok (.iaload, 1) := by decide +kernel
theorem dL_law_617 : decode cL_law 617 = .ok (.aload_n 0, 1) := by decide +kernel
theorem dL_law_618 : decode cL_law 618 = .ok (.iload_n 3, 1) := by decide +kernel
theorem dL_law_619 : decode cL_law 619 = .ok (.iconst 3, 1) := by decide +kernel
theorem dL_law_620 : decode cL_law 620 = .ok (.iadd, 1) := by decide +kernel
theorem dL_law_621 : decode cL_law 621 = .ok (.iaload, 1) := by decide +kernel
theorem dL_law_622 : decode cL_law 622 = .ok (.invokevirtual 51, 3) := by decide +kernel
theorem dL_law_625 : decode cL_law 625 = .ok (.if_icmp .eq 731, 3) := by decide +kernel
theorem dL_law_628 : decode cL_law 628 = .ok (.iconst 0, 1) := by decide +kernel
theorem dL_law_629 : decode cL_law 629 = .ok (.ireturn, 1) := by decide +kernel
theorem dL_law_630 : decode cL_law 630 = .ok (.aload_n 1, 1) := by decide +kernel
theorem dL_law_631 : decode cL_law 631 = .ok (.aload_n 0, 1) := by decide +kernel
theorem dL_law_632 : decode cL_law 632 = .ok (.iload_n 3, 1) := by decide +kernel
theorem dL_law_633 : decode cL_law 633 = .ok (.iconst 1, 1) := by decide +kernel
theorem dL_law_634 : decode cL_law 634 = .ok (.iadd, 1) := by decide +kernel
theorem dL_law_635 : decode cL_law 635 = .ok (.iaload, 1) := by decide +kernel
theorem dL_law_636 : decode cL_law 636 = .ok (.aload_n 0, 1) := by decide +kernel
theorem dL_law_637 : decode cL_law 637 = .ok (.iload_n 3, 1) := by decide +kernel
theorem dL_law_638 : decode cL_law 638 = .ok (.iconst 2, 1) := by decide +kernel
theorem dL_law_639 : decode cL_law 639 = .ok (.iadd, 1) := by decide +kernel
theorem dL_law_640 : decode cL_law 640 = .ok (.iaload, 1) := by decide +kernel
theorem dL_law_641 : decode cL_law 641 = .ok (.invokevirtual 52, 3) := by decide +kernel
theorem dL_law_644 : decode cL_law 644 = .ok (.aload_n 2, 1) := by decide +kernel
theorem dL_law_645 : decode cL_law 645 = .ok (.aload_n 0, 1) := by decide +kernel
theorem dL_law_646 : decode cL_law 646 = .ok (.iload_n 3, 1) := by decide +kernel
theorem dL_law_647 : decode cL_law 647 = .ok (.iconst 1, 1) := by decide +kernel
theorem dL_law_648 : decode cL_law 648 = .ok (.iadd, 1) := by decide +kernel
theorem dL_law_649 : decode cL_law 649 = .ok (.iaload, 1) := by decide +kernel
theorem dL_law_650 : decode cL_law 650 = .ok (.aload_n 0, 1) := by decide +kernel
theorem dL_law_651 : decode cL_law 651 = .ok (.iload_n 3, 1) := by decide +kernel
theorem dL_law_652 : decode cL_law 652 = .ok (.iconst 2, 1) := by decide +kernel
theorem dL_law_653 : decode cL_law 653 = .ok (.iadd, 1) := by decide +kernel
theorem dL_law_654 : decode cL_law 654 = .ok (.iaload, 1) := by decide +kernel
theorem dL_law_655 : decode cL_law 655 = .ok (.invokevirtual 55, 3) := by decide +kernel
theorem dL_law_658 : decode cL_law 658 = .ok (.if_icmp .eq 698, 3) := by decide +kernel
theorem dL_law_661 : decode cL_law 661 = .ok (.iconst 0, 1) := by decide +kernel
theorem dL_law_662 : decode cL_law 662 = .ok (.ireturn, 1) := by decide +kernel
theorem dL_law_663 : decode cL_law 663 = .ok (.aload_n 1, 1) := by decide +kernel
theorem dL_law_664 : decode cL_law 664 = .ok (.aload_n 0, 1) := by decide +kernel
theorem dL_law_665 : decode cL_law 665 = .ok (.iload_n 3, 1) := by decide +kernel
theorem dL_law_666 : decode cL_law 666 = .ok (.iconst 1, 1) := by decide +kernel
theorem dL_law_667 : decode cL_law 667 = .ok (.iadd, 1) := by decide +kernel
theorem dL_law_668 : decode cL_law 668 = .ok (.iaload, 1) := by decide +kernel
theorem dL_law_669 : decode cL_law 669 = .ok (.aload_n 0, 1) := by decide +kernel
theorem dL_law_670 : decode cL_law 670 = .ok (.iload_n 3, 1) := by decide +kernel
theorem dL_law_671 : decode cL_law 671 = .ok (.iconst 2, 1) := by decide +kernel
theorem dL_law_672 : decode cL_law 672 = .ok (.iadd, 1) := by decide +kernel
theorem dL_law_673 : decode cL_law 673 = .ok (.iaload, 1) := by decide +kernel
theorem dL_law_674 : decode cL_law 674 = .ok (.aload_n 0, 1) := by decide +kernel
theorem dL_law_675 : decode cL_law 675 = .ok (.iload_n 3, 1) := by decide +kernel
theorem dL_law_676 : decode cL_law 676 = .ok (.iconst 3, 1) := by decide +kernel
theorem dL_law_677 : decode cL_law 677 = .ok (.iadd, 1) := by decide +kernel
theorem dL_law_678 : decode cL_law 678 = .ok (.iaload, 1) := by decide +kernel
theorem dL_law_679 : decode cL_law 679 = .ok (.invokevirtual 56, 3) := by decide +kernel
theorem dL_law_682 : decode cL_law 682 = .ok (.aload_n 2, 1) := by decide +kernel
theorem dL_law_683 : decode cL_law 683 = .ok (.aload_n 0, 1) := by decide +kernel
theorem dL_law_684 : decode cL_law 684 = .ok (.iload_n 3, 1) := by decide +kernel
theorem dL_law_685 : decode cL_law 685 = .ok (.iconst 1, 1) := by decide +kernel
theorem dL_law_686 : decode cL_law 686 = .ok (.iadd, 1) := by decide +kernel
theorem dL_law_687 : decode cL_law 687 = .ok (.iaload, 1) := by decide +kernel
theorem dL_law_688 : decode cL_law 688 = .ok (.aload_n 0, 1) := by decide +kernel
theorem dL_law_689 : decode cL_law 689 = .ok (.iload_n 3, 1) := by decide +kernel
theorem dL_law_690 : decode cL_law 690 = .ok (.iconst 2, 1) := by decide +kernel
theorem dL_law_691 : decode cL_law 691 = .ok (.iadd, 1) := by decide +kernel
theorem dL_law_692 : decode cL_law 692 = .ok (.iaload, 1) := by decide +kernel
theorem dL_law_693 : decode cL_law 693 = .ok (.aload_n 0, 1) := by decide +kernel
theorem dL_law_694 : decode cL_law 694 = .ok (.iload_n 3, 1) := by decide +kernel
theorem dL_law_695 : decode cL_law 695 = .ok (.iconst 3, 1) := by decide +kernel
theorem dL_law_696 : decode cL_law 696 = .ok (.iadd, 1) := by decide +kernel
theorem dL_law_697 : decode cL_law 697 = .ok (.iaload, 1) := by decide +kernel
theorem dL_law_698 : decode cL_law 698 = .ok (.invokevirtual 59, 3) := by decide +kernel
theorem dL_law_701 : decode cL_law 701 = .ok (.if_icmp .eq 655, 3) := by decide +kernel
theorem dL_law_704 : decode cL_law 704 = .ok (.iconst 0, 1) := by decide +kernel
theorem dL_law_705 : decode cL_law 705 = .ok (.ireturn, 1) := by decide +kernel
theorem dL_law_706 : decode cL_law 706 = .ok (.aload_n 1, 1) := by decide +kernel
theorem dL_law_707 : decode cL_law 707 = .ok (.aload_n 0, 1) := by decide +kernel
theorem dL_law_708 : decode cL_law 708 = .ok (.iload_n 3, 1) := by decide +kernel
theorem dL_law_709 : decode cL_law 709 = .ok (.iconst 1, 1) := by decide +kernel
theorem dL_law_710 : decode cL_law 710 = .ok (.iadd, 1) := by decide +kernel
theorem dL_law_711 : decode cL_law 711 = .ok (.iaload, 1) := by decide +kernel
theorem dL_law_712 : decode cL_law 712 = .ok (.aload_n 0, 1) := by decide +kernel
theorem dL_law_713 : decode cL_law 713 = .ok (.iload_n 3, 1) := by decide +kernel
theorem dL_law_714 : decode cL_law 714 = .ok (.iconst 2, 1) := by decide +kernel
theorem dL_law_715 : decode cL_law 715 = .ok (.iadd, 1) := by decide +kernel
theorem dL_law_716 : decode cL_law 716 = .ok (.iaload, 1) := by decide +kernel
theorem dL_law_717 : decode cL_law 717 = .ok (.aload_n 0, 1) := by decide +kernel
theorem dL_law_718 : decode cL_law 718 = .ok (.iload_n 3, 1) := by decide +kernel
theorem dL_law_719 : decode cL_law 719 = .ok (.iconst 3, 1) := by decide +kernel
theorem dL_law_720 : decode cL_law 720 = .ok (.iadd, 1) := by decide +kernel
theorem dL_law_721 : decode cL_law 721 = .ok (.iaload, 1) := by decide +kernel
theorem dL_law_722 : decode cL_law 722 = .ok (.invokevirtual 60, 3) := by decide +kernel
theorem dL_law_725 : decode cL_law 725 = .ok (.aload_n 2, 1) := by decide +kernel
theorem dL_law_726 : decode cL_law 726 = .ok (.aload_n 0, 1) := by decide +kernel
theorem dL_law_727 : decode cL_law 727 = .ok (.iload_n 3, 1) := by decide +kernel
theorem dL_law_728 : decode cL_law 728 = .ok (.iconst 1, 1) := by decide +kernel
theorem dL_law_729 : decode cL_law 729 = .ok (.iadd, 1) := by decide +kernel
theorem dL_law_730 : decode cL_law 730 = .ok (.iaload, 1) := by decide +kernel
theorem dL_law_731 : decode cL_law 731 = .ok (.aload_n 0, 1) := by decide +kernel
theorem dL_law_732 : decode cL_law 732 = .ok (.iload_n 3, 1) := by decide +kernel
theorem dL_law_733 : decode cL_law 733 = .ok (.iconst 2, 1) := by decide +kernel
theorem dL_law_734 : decode cL_law 734 = .ok (.iadd, 1) := by decide +kernel
theorem dL_law_735 : decode cL_law 735 = .ok (.iaload, 1) := by decide +kernel
theorem dL_law_736 : decode cL_law 736 = .ok (.aload_n 0, 1) := by decide +kernel
theorem dL_law_737 : decode cL_law 737 = .ok (.iload_n 3, 1) := by decide +kernel
theorem dL_law_738 : decode cL_law 738 = .ok (.iconst 3, 1) := by decide +kernel
theorem dL_law_739 : decode cL_law 739 = .ok (.iadd, 1) := by decide +kernel
theorem dL_law_740 : decode cL_law 740 = .ok (.iaload, 1) := by decide +kernel
theorem dL_law_741 : decode cL_law 741 = .ok (.invokevirtual 63, 3) := by decide +kernel
theorem dL_law_744 : decode cL_law 744 = .ok (.if_icmp .eq 612, 3) := by decide +kernel
theorem dL_law_747 : decode cL_law 747 = .ok (.iconst 0, 1) := by decide +kernel
theorem dL_law_748 : decode cL_law 748 = .ok (.ireturn, 1) := by decide +kernel
theorem dL_law_749 : decode cL_law 749 = .ok (.aload_n 1, 1) := by decide +kernel
theorem dL_law_750 : decode cL_law 750 = .ok (.aload_n 0, 1) := by decide +kernel
theorem dL_law_751 : decode cL_law 751 = .ok (.iload_n 3, 1) := by decide +kernel
theorem dL_law_752 : decode cL_law 752 = .ok (.iconst 1, 1) := by decide +kernel
theorem dL_law_753 : decode cL_law 753 = .ok (.iadd, 1) := by decide +kernel
theorem dL_law_754 : decode cL_law 754 = .ok (.iaload, 1) := by decide +kernel
theorem dL_law_755 : decode cL_law 755 = .ok (.aload_n 0, 1) := by decide +kernel
theorem dL_law_756 : decode cL_law 756 = .ok (.iload_n 3, 1) := by decide +kernel
theorem dL_law_757 : decode cL_law 757 = .ok (.iconst 2, 1) := by decide +kernel
theorem dL_law_758 : decode cL_law 758 = .ok (.iadd, 1) := by decide +kernel
theorem dL_law_759 : decode cL_law 759 = .ok (.iaload, 1) := by decide +kernel
theorem dL_law_760 : decode cL_law 760 = .ok (.aload_n 0, 1) := by decide +kernel
theorem dL_law_761 : decode cL_law 761 = .ok (.iload_n 3, 1) := by decide +kernel
theorem dL_law_762 : decode cL_law 762 = .ok (.iconst 3, 1) := by decide +kernel
theorem dL_law_763 : decode cL_law 763 = .ok (.iadd, 1) := by decide +kernel
theorem dL_law_764 : decode cL_law 764 = .ok (.iaload, 1) := by decide +kernel
theorem dL_law_765 : decode cL_law 765 = .ok (.invokevirtual 64, 3) := by decide +kernel
theorem dL_law_768 : decode cL_law 768 = .ok (.aload_n 2, 1) := by decide +kernel
theorem dL_law_769 : decode cL_law 769 = .ok (.aload_n 0, 1) := by decide +kernel
theorem dL_law_770 : decode cL_law 770 = .ok (.iload_n 3, 1) := by decide +kernel
theorem dL_law_771 : decode cL_law 771 = .ok (.iconst 1, 1) := by decide +kernel
theorem dL_law_772 : decode cL_law 772 = .ok (.iadd, 1) := by decide +kernel
theorem dL_law_773 : decode cL_law 773 = .ok (.iaload, 1) := by decide +kernel
theorem dL_law_774 : decode cL_law 774 = .ok (.aload_n 0, 1) := by decide +kernel
theorem dL_law_775 : decode cL_law 775 = .ok (.iload_n 3, 1) := by decide +kernel
theorem dL_law_776 : decode cL_law 776 = .ok (.iconst 2, 1) := by decide +kernel
theorem dL_law_777 : decode cL_law 777 = .ok (.iadd, 1) := by decide +kernel
theorem dL_law_778 : decode cL_law 778 = .ok (.iaload, 1) := by decide +kernel
theorem dL_law_779 : decode cL_law 779 = .ok (.aload_n 0, 1) := by decide +kernel
theorem dL_law_780 : decode cL_law 780 = .ok (.iload_n 3, 1) := by decide +kernel
theorem dL_law_781 : decode cL_law 781 = .ok (.iconst 3, 1) := by decide +kernel
theorem dL_law_782 : decode cL_law 782 = .ok (.iadd, 1) := by decide +kernel
theorem dL_law_783 : decode cL_law 783 = .ok (.iaload, 1) := by decide +kernel
theorem dL_law_784 : decode cL_law 784 = .ok (.invokevirtual 67, 3) := by decide +kernel
theorem dL_law_787 : decode cL_law 787 = .ok (.if_icmp .eq 569, 3) := by decide +kernel
theorem dL_law_790 : decode cL_law 790 = .ok (.iconst 0, 1) := by decide +kernel
theorem dL_law_791 : decode cL_law 791 = .ok (.ireturn, 1) := by decide +kernel
theorem dL_law_792 : decode cL_law 792 = .ok (.aload_n 1, 1) := by decide +kernel
theorem dL_law_793 : decode cL_law 793 = .ok (.aload_n 0, 1) := by decide +kernel
theorem dL_law_794 : decode cL_law 794 = .ok (.iload_n 3, 1) := by decide +kernel
theorem dL_law_795 : decode cL_law 795 = .ok (.iconst 1, 1) := by decide +kernel
theorem dL_law_796 : decode cL_law 796 = .ok (.iadd, 1) := by decide +kernel
theorem dL_law_797 : decode cL_law 797 = .ok (.iaload, 1) := by decide +kernel
theorem dL_law_798 : decode cL_law 798 = .ok (.aload_n 0, 1) := by decide +kernel
theorem dL_law_799 : decode cL_law 799 = .ok (.iload_n 3, 1) := by decide +kernel
theorem dL_law_800 : decode cL_law 800 = .ok (.iconst 2, 1) := by decide +kernel
theorem dL_law_801 : decode cL_law 801 = .ok (.iadd, 1) := by decide +kernel
theorem dL_law_802 : decode cL_law 802 = .ok (.iaload, 1) := by decide +kernel
theorem dL_law_803 : decode cL_law 803 = .ok (.aload_n 0, 1) := by decide +kernel
theorem dL_law_804 : decode cL_law 804 = .ok (.iload_n 3, 1) := by decide +kernel
theorem dL_law_805 : decode cL_law 805 = .ok (.iconst 3, 1) := by decide +kernel
theorem dL_law_806 : decode cL_law 806 = .ok (.iadd, 1) := by decide +kernel
theorem dL_law_807 : decode cL_law 807 = .ok (.iaload, 1) := by decide +kernel
theorem dL_law_808 : decode cL_law 808 = .ok (.aload_n 0, 1) := by decide +kernel
theorem dL_law_809 : decode cL_law 809 = .ok (.iload_n 3, 1) := by decide +kernel
theorem dL_law_810 : decode cL_law 810 = .ok (.iconst 4, 1) := by decide +kernel
theorem dL_law_811 : decode cL_law 811 = .ok (.iadd, 1) := by decide +kernel
theorem dL_law_812 : decode cL_law 812 = .ok (.iaload, 1) := by decide +kernel
theorem dL_law_813 : decode cL_law 813 = .ok (.ifCond .eq 7, 3) := by decide +kernel
theorem dL_law_816 : decode cL_law 816 = .ok (.iconst 1, 1) := by decide +kernel
theorem dL_law_817 : decode cL_law 817 = .ok (.goto 4, 3) := by decide +kernel
theorem dL_law_820 : decode cL_law 820 = .ok (.iconst 0, 1) := by decide +kernel
theorem dL_law_821 : decode cL_law 821 = .ok (.invokevirtual 68, 3) := by decide +kernel
theorem dL_law_824 : decode cL_law 824 = .ok (.aload_n 2, 1) := by decide +kernel
theorem dL_law_825 : decode cL_law 825 = .ok (.aload_n 0, 1) := by decide +kernel
theorem dL_law_826 : decode cL_law 826 = .ok (.iload_n 3, 1) := by decide +kernel
theorem dL_law_827 : decode cL_law 827 = .ok (.iconst 1, 1) := by decide +kernel
theorem dL_law_828 : decode cL_law 828 = .ok (.iadd, 1) := by decide +kernel
theorem dL_law_829 : decode cL_law 829 = .ok (.iaload, 1) := by decide +kernel
theorem dL_law_830 : decode cL_law 830 = .ok (.aload_n 0, 1) := by decide +kernel
theorem dL_law_831 : decode cL_law 831 = .ok (.iload_n 3, 1) := by decide +kernel
theorem dL_law_832 : decode cL_law 832 = .ok (.iconst 2, 1) := by decide +kernel
theorem dL_law_833 : decode cL_law 833 = .ok (.iadd, 1) := by decide +kernel
theorem dL_law_834 : decode cL_law 834 = .ok (.iaload, 1) := by decide +kernel
theorem dL_law_835 : decode cL_law 835 = .ok (.aload_n 0, 1) := by decide +kernel
theorem dL_law_836 : decode cL_law 836 = .ok (.iload_n 3, 1) := by decide +kernel
theorem dL_law_837 : decode cL_law 837 = .ok (.iconst 3, 1) := by decide +kernel
theorem dL_law_838 : decode cL_law 838 = .ok (.iadd, 1) := by decide +kernel
theorem dL_law_839 : decode cL_law 839 = .ok (.iaload, 1) := by decide +kernel
theorem dL_law_840 : decode cL_law 840 = .ok (.aload_n 0, 1) := by decide +kernel
theorem dL_law_841 : decode cL_law 841 = .ok (.iload_n 3, 1) := by decide +kernel
theorem dL_law_842 : decode cL_law 842 = .ok (.iconst 4, 1) := by decide +kernel
theorem dL_law_843 : decode cL_law 843 = .ok (.iadd, 1) := by decide +kernel
theorem dL_law_844 : decode cL_law 844 = .ok (.iaload, 1) := by decide +kernel
theorem dL_law_845 : decode cL_law 845 = .ok (.ifCond .eq 7, 3) := by decide +kernel
theorem dL_law_848 : decode cL_law 848 = .ok (.iconst 1, 1) := by decide +kernel
theorem dL_law_849 : decode cL_law 849 = .ok (.goto 4, 3) := by decide +kernel
theorem dL_law_852 : decode cL_law 852 = .ok (.iconst 0, 1) := by decide +kernel
theorem dL_law_853 : decode cL_law 853 = .ok (.invokevirtual 72, 3) := by decide +kernel
theorem dL_law_856 : decode cL_law 856 = .ok (.if_icmp .eq 500, 3) := by decide +kernel
theorem dL_law_859 : decode cL_law 859 = .ok (.iconst 0, 1) := by decide +kernel
theorem dL_law_860 : decode cL_law 860 = .ok (.ireturn, 1) := by decide +kernel
theorem dL_law_861 : decode cL_law 861 = .ok (.aload_n 1, 1) := by decide +kernel
theorem dL_law_862 : decode cL_law 862 = .ok (.aload_n 0, 1) := by decide +kernel
theorem dL_law_863 : decode cL_law 863 = .ok (.iload_n 3, 1) := by decide +kernel
theorem dL_law_864 : decode cL_law 864 = .ok (.iconst 1, 1) := by decide +kernel
theorem dL_law_865 : decode cL_law 865 = .ok (.iadd, 1) := by decide +kernel
theorem dL_law_866 : decode cL_law 866 = .ok (.iaload, 1) := by decide +kernel
theorem dL_law_867 : decode cL_law 867 = .ok (.aload_n 0, 1) := by decide +kernel
theorem dL_law_868 : decode cL_law 868 = .ok (.iload_n 3, 1) := by decide +kernel
theorem dL_law_869 : decode cL_law 869 = .ok (.iconst 2, 1) := by decide +kernel
theorem dL_law_870 : decode cL_law 870 = .ok (.iadd, 1) := by decide +kernel
theorem dL_law_871 : decode cL_law 871 = .ok (.iaload, 1) := by decide +kernel
theorem dL_law_872 : decode cL_law 872 = .ok (.aload_n 0, 1) := by decide +kernel
theorem dL_law_873 : decode cL_law 873 = .ok (.iload_n 3, 1) := by decide +kernel
theorem dL_law_874 : decode cL_law 874 = .ok (.iconst 3, 1) := by decide +kernel
theorem dL_law_875 : decode cL_law 875 = .ok (.iadd, 1) := by decide +kernel
theorem dL_law_876 : decode cL_law 876 = .ok (.iaload, 1) := by decide +kernel
theorem dL_law_877 : decode cL_law 877 = .ok (.aload_n 0, 1) := by decide +kernel
theorem dL_law_878 : decode cL_law 878 = .ok (.iload_n 3, 1) := by decide +kernel
theorem dL_law_879 : decode cL_law 879 = .ok (.iconst 4, 1) := by decide +kernel
theorem dL_law_880 : decode cL_law 880 = .ok (.iadd, 1) := by decide +kernel
theorem dL_law_881 : decode cL_law 881 = .ok (.iaload, 1) := by decide +kernel
theorem dL_law_882 : decode cL_law 882 = .ok (.invokevirtual 73, 3) := by decide +kernel
theorem dL_law_885 : decode cL_law 885 = .ok (.aload_n 2, 1) := by decide +kernel
theorem dL_law_886 : decode cL_law 886 = .ok (.aload_n 0, 1) := by decide +kernel
theorem dL_law_887 : decode cL_law 887 = .ok (.iload_n 3, 1) := by decide +kernel
theorem dL_law_888 : decode cL_law 888 = .ok (.iconst 1, 1) := by decide +kernel
theorem dL_law_889 : decode cL_law 889 = .ok (.iadd, 1) := by decide +kernel
theorem dL_law_890 : decode cL_law 890 = .ok (.iaload, 1) := by decide +kernel
theorem dL_law_891 : decode cL_law 891 = .ok (.aload_n 0, 1) := by decide +kernel
theorem dL_law_892 : decode cL_law 892 = .ok (.iload_n 3, 1) := by decide +kernel
theorem dL_law_893 : decode cL_law 893 = .ok (.iconst 2, 1) := by decide +kernel
theorem dL_law_894 : decode cL_law 894 = .ok (.iadd, 1) := by decide +kernel
theorem dL_law_895 : decode cL_law 895 = .ok (.iaload, 1) := by decide +kernel
theorem dL_law_896 : decode cL_law 896 = .ok (.aload_n 0, 1) := by decide +kernel
theorem dL_law_897 : decode cL_law 897 = .ok (.iload_n 3, 1) := by decide +kernel
theorem dL_law_898 : decode cL_law 898 = .ok (.iconst 3, 1) := by decide +kernel
theorem dL_law_899 : decode cL_law 899 = .ok (.iadd, 1) := by decide +kernel
theorem dL_law_900 : decode cL_law 900 = .ok (.iaload, 1) := by decide +kernel
theorem dL_law_901 : decode cL_law 901 = .ok (.aload_n 0, 1) := by decide +kernel
theorem dL_law_902 : decode cL_law 902 = .ok (.iload_n 3, 1) := by decide +kernel
theorem dL_law_903 : decode cL_law 903 = .ok (.iconst 4, 1) := by decide +kernel
theorem dL_law_904 : decode cL_law 904 = .ok (.iadd, 1) := by decide +kernel
theorem dL_law_905 : decode cL_law 905 = .ok (.iaload, 1) := by decide +kernel
theorem dL_law_906 : decode cL_law 906 = .ok (.invokevirtual 76, 3) := by decide +kernel
theorem dL_law_909 : decode cL_law 909 = .ok (.if_icmp .eq 447, 3) := by decide +kernel
theorem dL_law_912 : decode cL_law 912 = .ok (.iconst 0, 1) := by decide +kernel
theorem dL_law_913 : decode cL_law 913 = .ok (.ireturn, 1) := by decide +kernel
theorem dL_law_914 : decode cL_law 914 = .ok (.aload_n 1, 1) := by decide +kernel
theorem dL_law_915 : decode cL_law 915 = .ok (.aload_n 0, 1) := by decide +kernel
theorem dL_law_916 : decode cL_law 916 = .ok (.iload_n 3, 1) := by decide +kernel
theorem dL_law_917 : decode cL_law 917 = .ok (.iconst 1, 1) := by decide +kernel
theorem dL_law_918 : decode cL_law 918 = .ok (.iadd, 1) := by decide +kernel
theorem dL_law_919 : decode cL_law 919 = .ok (.iaload, 1) := by decide +kernel
theorem dL_law_920 : decode cL_law 920 = .ok (.aload_n 0, 1) := by decide +kernel
theorem dL_law_921 : decode cL_law 921 = .ok (.iload_n 3, 1) := by decide +kernel
theorem dL_law_922 : decode cL_law 922 = .ok (.iconst 2, 1) := by decide +kernel
theorem dL_law_923 : decode cL_law 923 = .ok (.iadd, 1) := by decide +kernel
theorem dL_law_924 : decode cL_law 924 = .ok (.iaload, 1) := by decide +kernel
theorem dL_law_925 : decode cL_law 925 = .ok (.aload_n 0, 1) := by decide +kernel
theorem dL_law_926 : decode cL_law 926 = .ok (.iload_n 3, 1) := by decide +kernel
theorem dL_law_927 : decode cL_law 927 = .ok (.iconst 3, 1) := by decide +kernel
theorem dL_law_928 : decode cL_law 928 = .ok (.iadd, 1) := by decide +kernel
theorem dL_law_929 : decode cL_law 929 = .ok (.iaload, 1) := by decide +kernel
theorem dL_law_930 : decode cL_law 930 = .ok (.invokevirtual 77, 3) := by decide +kernel
theorem dL_law_933 : decode cL_law 933 = .ok (.aload_n 2, 1) := by decide +kernel
theorem dL_law_934 : decode cL_law 934 = .ok (.aload_n 0, 1) := by decide +kernel
theorem dL_law_935 : decode cL_law 935 = .ok (.iload_n 3, 1) := by decide +kernel
theorem dL_law_936 : decode cL_law 936 = .ok (.iconst 1, 1) := by decide +kernel
theorem dL_law_937 : decode cL_law 937 = .ok (.iadd, 1) := by decide +kernel
theorem dL_law_938 : decode cL_law 938 = .ok (.iaload, 1) := by decide +kernel
theorem dL_law_939 : decode cL_law 939 = .ok (.aload_n 0, 1) := by decide +kernel
theorem dL_law_940 : decode cL_law 940 = .ok (.iload_n 3, 1) := by decide +kernel
theorem dL_law_941 : decode cL_law 941 = .ok (.iconst 2, 1) := by decide +kernel
theorem dL_law_942 : decode cL_law 942 = .ok (.iadd, 1) := by decide +kernel
theorem dL_law_943 : decode cL_law 943 = .ok (.iaload, 1) := by decide +kernel
theorem dL_law_944 : decode cL_law 944 = .ok (.aload_n 0, 1) := by decide +kernel
theorem dL_law_945 : decode cL_law 945 = .ok (.iload_n 3, 1) := by decide +kernel
theorem dL_law_946 : decode cL_law 946 = .ok (.iconst 3, 1) := by decide +kernel
theorem dL_law_947 : decode cL_law 947 = .ok (.iadd, 1) := by decide +kernel
theorem dL_law_948 : decode cL_law 948 = .ok (.iaload, 1) := by decide +kernel
theorem dL_law_949 : decode cL_law 949 = .ok (.invokevirtual 80, 3) := by decide +kernel
theorem dL_law_952 : decode cL_law 952 = .ok (.if_icmp .eq 404, 3) := by decide +kernel
theorem dL_law_955 : decode cL_law 955 = .ok (.iconst 0, 1) := by decide +kernel
theorem dL_law_956 : decode cL_law 956 = .ok (.ireturn, 1) := by decide +kernel
theorem dL_law_957 : decode cL_law 957 = .ok (.aload_n 1, 1) := by decide +kernel
theorem dL_law_958 : decode cL_law 958 = .ok (.aload_n 0, 1) := by decide +kernel
theorem dL_law_959 : decode cL_law 959 = .ok (.iload_n 3, 1) := by decide +kernel
theorem dL_law_960 : decode cL_law 960 = .ok (.iconst 1, 1) := by decide +kernel
theorem dL_law_961 : decode cL_law 961 = .ok (.iadd, 1) := by decide +kernel
theorem dL_law_962 : decode cL_law 962 = .ok (.iaload, 1) := by decide +kernel
theorem dL_law_963 : decode cL_law 963 = .ok (.aload_n 0, 1) := by decide +kernel
theorem dL_law_964 : decode cL_law 964 = .ok (.iload_n 3, 1) := by decide +kernel
theorem dL_law_965 : decode cL_law 965 = .ok (.iconst 2, 1) := by decide +kernel
theorem dL_law_966 : decode cL_law 966 = .ok (.iadd, 1) := by decide +kernel
theorem dL_law_967 : decode cL_law 967 = .ok (.iaload, 1) := by decide +kernel
theorem dL_law_968 : decode cL_law 968 = .ok (.aload_n 0, 1) := by decide +kernel
theorem dL_law_969 : decode cL_law 969 = .ok (.iload_n 3, 1) := by decide +kernel
theorem dL_law_970 : decode cL_law 970 = .ok (.iconst 3, 1) := by decide +kernel
theorem dL_law_971 : decode cL_law 971 = .ok (.iadd, 1) := by decide +kernel
theorem dL_law_972 : decode cL_law 972 = .ok (.iaload, 1) := by decide +kernel
theorem dL_law_973 : decode cL_law 973 = .ok (.invokevirtual 81, 3) := by decide +kernel
theorem dL_law_976 : decode cL_law 976 = .ok (.aload_n 2, 1) := by decide +kernel
theorem dL_law_977 : decode cL_law 977 = .ok (.aload_n 0, 1) := by decide +kernel
theorem dL_law_978 : decode cL_law 978 = .ok (.iload_n 3, 1) := by decide +kernel
theorem dL_law_979 : decode cL_law 979 = .ok (.iconst 1, 1) := by decide +kernel
theorem dL_law_980 : decode cL_law 980 = .ok (.iadd, 1) := by decide +kernel
theorem dL_law_981 : decode cL_law 981 = .ok (.iaload, 1) := by decide +kernel
theorem dL_law_982 : decode cL_law 982 = .ok (.aload_n 0, 1) := by decide +kernel
theorem dL_law_983 : decode cL_law 983 = .ok (.iload_n 3, 1) := by decide +kernel
theorem dL_law_984 : decode cL_law 984 = .ok (.iconst 2, 1) := by decide +kernel
theorem dL_law_985 : decode cL_law 985 = .ok (.iadd, 1) := by decide +kernel
theorem dL_law_986 : decode cL_law 986 = .ok (.iaload, 1) := by decide +kernel
theorem dL_law_987 : decode cL_law 987 = .ok (.aload_n 0, 1) := by decide +kernel
theorem dL_law_988 : decode cL_law 988 = .ok (.iload_n 3, 1) := by decide +kernel
theorem dL_law_989 : decode cL_law 989 = .ok (.iconst 3, 1) := by decide +kernel
theorem dL_law_990 : decode cL_law 990 = .ok (.iadd, 1) := by decide +kernel
theorem dL_law_991 : decode cL_law 991 = .ok (.iaload, 1) := by decide +kernel
theorem dL_law_992 : decode cL_law 992 = .ok (.invokevirtual 84, 3) := by decide +kernel
theorem dL_law_995 : decode cL_law 995 = .ok (.if_icmp .eq 361, 3) := by decide +kernel
theorem dL_law_998 : decode cL_law 998 = .ok (.iconst 0, 1) := by decide +kernel
theorem dL_law_999 : decode cL_law 999 = .ok (.ireturn, 1) := by decide +kernel
theorem dL_law_1000 : decode cL_law 1000 = .ok (.aload_n 1, 1) := by decide +kernel
theorem dL_law_1001 : decode cL_law 1001 = .ok (.aload_n 0, 1) := by decide +kernel
theorem dL_law_1002 : decode cL_law 1002 = .ok (.iload_n 3, 1) := by decide +kernel
theorem dL_law_1003 : decode cL_law 1003 = .ok (.iconst 1, 1) := by decide +kernel
theorem dL_law_1004 : decode cL_law 1004 = .ok (.iadd, 1) := by decide +kernel
theorem dL_law_1005 : decode cL_law 1005 = .ok (.iaload, 1) := by decide +kernel
theorem dL_law_1006 : decode cL_law 1006 = .ok (.aload_n 0, 1) := by decide +kernel
theorem dL_law_1007 : decode cL_law 1007 = .ok (.iload_n 3, 1) := by decide +kernel
theorem dL_law_1008 : decode cL_law 1008 = .ok (.iconst 2, 1) := by decide +kernel
theorem dL_law_1009 : decode cL_law 1009 = .ok (.iadd, 1) := by decide +kernel
theorem dL_law_1010 : decode cL_law 1010 = .ok (.iaload, 1) := by decide +kernel
theorem dL_law_1011 : decode cL_law 1011 = .ok (.aload_n 0, 1) := by decide +kernel
theorem dL_law_1012 : decode cL_law 1012 = .ok (.iload_n 3, 1) := by decide +kernel
theorem dL_law_1013 : decode cL_law 1013 = .ok (.iconst 3, 1) := by decide +kernel
theorem dL_law_1014 : decode cL_law 1014 = .ok (.iadd, 1) := by decide +kernel
theorem dL_law_1015 : decode cL_law 1015 = .ok (.iaload, 1) := by decide +kernel
theorem dL_law_1016 : decode cL_law 1016 = .ok (.aload_n 0, 1) := by decide +kernel
theorem dL_law_1017 : decode cL_law 1017 = .ok (.iload_n 3, 1) := by decide +kernel
theorem dL_law_1018 : decode cL_law 1018 = .ok (.iconst 4, 1) := by decide +kernel
theorem dL_law_1019 : decode cL_law 1019 = .ok (.iadd, 1) := by decide +kernel
theorem dL_law_1020 : decode cL_law 1020 = .ok (.iaload, 1) := by decide +kernel
theorem dL_law_1021 : decode cL_law 1021 = .ok (.aload_n 0, 1) := by decide +kernel
theorem dL_law_1022 : decode cL_law 1022 = .ok (.iload_n 3, 1) := by decide +kernel
theorem dL_law_1023 : decode cL_law 1023 = .ok (.iconst 5, 1) := by decide +kernel
theorem dL_law_1024 : decode cL_law 1024 = .ok (.iadd, 1) := by decide +kernel
theorem dL_law_1025 : decode cL_law 1025 = .ok (.iaload, 1) := by decide +kernel
theorem dL_law_1026 : decode cL_law 1026 = .ok (.invokevirtual 85, 3) := by decide +kernel
theorem dL_law_1029 : decode cL_law 1029 = .ok (.aload_n 2, 1) := by decide +kernel
theorem dL_law_1030 : decode cL_law 1030 = .ok (.aload_n 0, 1) := by decide +kernel
theorem dL_law_1031 : decode cL_law 1031 = .ok (.iload_n 3, 1) := by decide +kernel
theorem dL_law_1032 : decode cL_law 1032 = .ok (.iconst 1, 1) := by decide +kernel
theorem dL_law_1033 : decode cL_law 1033 = .ok (.iadd, 1) := by decide +kernel
theorem dL_law_1034 : decode cL_law 1034 = .ok (.iaload, 1) := by decide +kernel
theorem dL_law_1035 : decode cL_law 1035 = .ok (.aload_n 0, 1) := by decide +kernel
theorem dL_law_1036 : decode cL_law 1036 = .ok (.iload_n 3, 1) := by decide +kernel
theorem dL_law_1037 : decode cL_law 1037 = .ok (.iconst 2, 1) := by decide +kernel
theorem dL_law_1038 : decode cL_law 1038 = .ok (.iadd, 1) := by decide +kernel
theorem dL_law_1039 : decode cL_law 1039 = .ok (.iaload, 1) := by decide +kernel
theorem dL_law_1040 : decode cL_law 1040 = .ok (.aload_n 0, 1) := by decide +kernel
theorem dL_law_1041 : decode cL_law 1041 = .ok (.iload_n 3, 1) := by decide +kernel
theorem dL_law_1042 : decode cL_law 1042 = .ok (.iconst 3, 1) := by decide +kernel
theorem dL_law_1043 : decode cL_law 1043 = .ok (.iadd, 1) := by decide +kernel
theorem dL_law_1044 : decode cL_law 1044 = .ok (.iaload, 1) := by decide +kernel
theorem dL_law_1045 : decode cL_law 1045 = .ok (.aload_n 0, 1) := by decide +kernel
theorem dL_law_1046 : decode cL_law 1046 = .ok (.iload_n 3, 1) := by decide +kernel
theorem dL_law_1047 : decode cL_law 1047 = .ok (.iconst 4, 1) := by decide +kernel
theorem dL_law_1048 : decode cL_law 1048 = .ok (.iadd, 1) := by decide +kernel
theorem dL_law_1049 : decode cL_law 1049 = .ok (.iaload, 1) := by decide +kernel
theorem dL_law_1050 : decode cL_law 1050 = .ok (.aload_n 0, 1) := by decide +kernel
theorem dL_law_1051 : decode cL_law 1051 = .ok (.iload_n 3, 1) := by decide +kernel
theorem dL_law_1052 : decode cL_law 1052 = .ok (.iconst 5, 1) := by decide +kernel
theorem dL_law_1053 : decode cL_law 1053 = .ok (.iadd, 1) := by decide +kernel
theorem dL_law_1054 : decode cL_law 1054 = .ok (.iaload, 1) := by decide +kernel
theorem dL_law_1055 : decode cL_law 1055 = .ok (.invokevirtual 89, 3) := by decide +kernel
theorem dL_law_1058 : decode cL_law 1058 = .ok (.if_icmp .eq 298, 3) := by decide +kernel
theorem dL_law_1061 : decode cL_law 1061 = .ok (.iconst 0, 1) := by decide +kernel
theorem dL_law_1062 : decode cL_law 1062 = .ok (.ireturn, 1) := by decide +kernel
theorem dL_law_1063 : decode cL_law 1063 = .ok (.aload_n 1, 1) := by decide +kernel
theorem dL_law_1064 : decode cL_law 1064 = .ok (.aload_n 0, 1) := by decide +kernel
theorem dL_law_1065 : decode cL_law 1065 = .ok (.iload_n 3, 1) := by decide +kernel
theorem dL_law_1066 : decode cL_law 1066 = .ok (.iconst 1, 1) := by decide +kernel
theorem dL_law_1067 : decode cL_law 1067 = .ok (.iadd, 1) := by decide +kernel
theorem dL_law_1068 : decode cL_law 1068 = .ok (.iaload, 1) := by decide +kernel
theorem dL_law_1069 : decode cL_law 1069 = .ok (.aload_n 0, 1) := by decide +kernel
theorem dL_law_1070 : decode cL_law 1070 = .ok (.iload_n 3, 1) := by decide +kernel
theorem dL_law_1071 : decode cL_law 1071 = .ok (.iconst 2, 1) := by decide +kernel
theorem dL_law_1072 : decode cL_law 1072 = .ok (.iadd, 1) := by decide +kernel
theorem dL_law_1073 : decode cL_law 1073 = .ok (.iaload, 1) := by decide +kernel
theorem dL_law_1074 : decode cL_law 1074 = .ok (.invokevirtual 90, 3) := by decide +kernel
theorem dL_law_1077 : decode cL_law 1077 = .ok (.aload_n 2, 1) := by decide +kernel
theorem dL_law_1078 : decode cL_law 1078 = .ok (.aload_n 0, 1) := by decide +kernel
theorem dL_law_1079 : decode cL_law 1079 = .ok (.iload_n 3, 1) := by decide +kernel
theorem dL_law_1080 : decode cL_law 1080 = .ok (.iconst 1, 1) := by decide +kernel
theorem dL_law_1081 : decode cL_law 1081 = .ok (.iadd, 1) := by decide +kernel
theorem dL_law_1082 : decode cL_law 1082 = .ok (.iaload, 1) := by decide +kernel
theorem dL_law_1083 : decode cL_law 1083 = .ok (.aload_n 0, 1) := by decide +kernel
theorem dL_law_1084 : decode cL_law 1084 = .ok (.iload_n 3, 1) := by decide +kernel
theorem dL_law_1085 : decode cL_law 1085 = .ok (.iconst 2, 1) := by decide +kernel
theorem dL_law_1086 : decode cL_law 1086 = .ok (.iadd, 1) := by decide +kernel
theorem dL_law_1087 : decode cL_law 1087 = .ok (.iaload, 1) := by decide +kernel
theorem dL_law_1088 : decode cL_law 1088 = .ok (.invokevirtual 93, 3) := by decide +kernel
theorem dL_law_1091 : decode cL_law 1091 = .ok (.if_icmp .eq 265, 3) := by decide +kernel
theorem dL_law_1094 : decode cL_law 1094 = .ok (.iconst 0, 1) := by decide +kernel
theorem dL_law_1095 : decode cL_law 1095 = .ok (.ireturn, 1) := by decide +kernel
theorem dL_law_1096 : decode cL_law 1096 = .ok (.aload_n 1, 1) := by decide +kernel
theorem dL_law_1097 : decode cL_law 1097 = .ok (.aload_n 0, 1) := by decide +kernel
theorem dL_law_1098 : decode cL_law 1098 = .ok (.iload_n 3, 1) := by decide +kernel
theorem dL_law_1099 : decode cL_law 1099 = .ok (.iconst 1, 1) := by decide +kernel
theorem dL_law_1100 : decode cL_law 1100 = .ok (.iadd, 1) := by decide +kernel
theorem dL_law_1101 : decode cL_law 1101 = .ok (.iaload, 1) := by decide +kernel
theorem dL_law_1102 : decode cL_law 1102 = .ok (.invokevirtual 94, 3) := by decide +kernel
theorem dL_law_1105 : decode cL_law 1105 = .ok (.aload_n 2, 1) := by decide +kernel
theorem dL_law_1106 : decode cL_law 1106 = .ok (.aload_n 0, 1) := by decide +kernel
theorem dL_law_1107 : decode cL_law 1107 = .ok (.iload_n 3, 1) := by decide +kernel
theorem dL_law_1108 : decode cL_law 1108 = .ok (.iconst 1, 1) := by decide +kernel
theorem dL_law_1109 : decode cL_law 1109 = .ok (.iadd, 1) := by decide +kernel
theorem dL_law_1110 : decode cL_law 1110 = .ok (.iaload, 1) := by decide +kernel
theorem dL_law_1111 : decode cL_law 1111 = .ok (.invokevirtual 98, 3) := by decide +kernel
theorem dL_law_1114 : decode cL_law 1114 = .ok (.if_icmp .eq 242, 3) := by decide +kernel
theorem dL_law_1117 : decode cL_law 1117 = .ok (.iconst 0, 1) := by decide +kernel
theorem dL_law_1118 : decode cL_law 1118 = .ok (.ireturn, 1) := by decide +kernel
theorem dL_law_1119 : decode cL_law 1119 = .ok (.aload_n 1, 1) := by decide +kernel
theorem dL_law_1120 : decode cL_law 1120 = .ok (.aload_n 0, 1) := by decide +kernel
theorem dL_law_1121 : decode cL_law 1121 = .ok (.iload_n 3, 1) := by decide +kernel
theorem dL_law_1122 : decode cL_law 1122 = .ok (.iconst 1, 1) := by decide +kernel
theorem dL_law_1123 : decode cL_law 1123 = .ok (.iadd, 1) := by decide +kernel
theorem dL_law_1124 : decode cL_law 1124 = .ok (.iaload, 1) := by decide +kernel
theorem dL_law_1125 : decode cL_law 1125 = .ok (.aload_n 0, 1) := by decide +kernel
theorem dL_law_1126 : decode cL_law 1126 = .ok (.iload_n 3, 1) := by decide +kernel
theorem dL_law_1127 : decode cL_law 1127 = .ok (.iconst 2, 1) := by decide +kernel
theorem dL_law_1128 : decode cL_law 1128 = .ok (.iadd, 1) := by decide +kernel
theorem dL_law_1129 : decode cL_law 1129 = .ok (.iaload, 1) := by decide +kernel
theorem dL_law_1130 : decode cL_law 1130 = .ok (.aload_n 0, 1) := by decide +kernel
theorem dL_law_1131 : decode cL_law 1131 = .ok (.iload_n 3, 1) := by decide +kernel
theorem dL_law_1132 : decode cL_law 1132 = .ok (.iconst 3, 1) := by decide +kernel
theorem dL_law_1133 : decode cL_law 1133 = .ok (.iadd, 1) := by decide +kernel
theorem dL_law_1134 : decode cL_law 1134 = .ok (.iaload, 1) := by decide +kernel
theorem dL_law_1135 : decode cL_law 1135 = .ok (.invokevirtual 99, 3) := by decide +kernel
theorem dL_law_1138 : decode cL_law 1138 = .ok (.aload_n 2, 1) := by decide +kernel
theorem dL_law_1139 : decode cL_law 1139 = .ok (.aload_n 0, 1) := by decide +kernel
theorem dL_law_1140 : decode cL_law 1140 = .ok (.iload_n 3, 1) := by decide +kernel
theorem dL_law_1141 : decode cL_law 1141 = .ok (.iconst 1, 1) := by decide +kernel
theorem dL_law_1142 : decode cL_law 1142 = .ok (.iadd, 1) := by decide +kernel
theorem dL_law_1143 : decode cL_law 1143 = .ok (.iaload, 1) := by decide +kernel
theorem dL_law_1144 : decode cL_law 1144 = .ok (.aload_n 0, 1) := by decide +kernel
theorem dL_law_1145 : decode cL_law 1145 = .ok (.iload_n 3, 1) := by decide +kernel
theorem dL_law_1146 : decode cL_law 1146 = .ok (.iconst 2, 1) := by decide +kernel
theorem dL_law_1147 : decode cL_law 1147 = .ok (.iadd, 1) := by decide +kernel
theorem dL_law_1148 : decode cL_law 1148 = .ok (.iaload, 1) := by decide +kernel
theorem dL_law_1149 : decode cL_law 1149 = .ok (.aload_n 0, 1) := by decide +kernel
theorem dL_law_1150 : decode cL_law 1150 = .ok (.iload_n 3, 1) := by decide +kernel
theorem dL_law_1151 : decode cL_law 1151 = .ok (.iconst 3, 1) := by decide +kernel
theorem dL_law_1152 : decode cL_law 1152 = .ok (.iadd, 1) := by decide +kernel
theorem dL_law_1153 : decode cL_law 1153 = .ok (.iaload, 1) := by decide +kernel
theorem dL_law_1154 : decode cL_law 1154 = .ok (.invokevirtual 102, 3) := by decide +kernel
theorem dL_law_1157 : decode cL_law 1157 = .ok (.if_icmp .eq 199, 3) := by decide +kernel
theorem dL_law_1160 : decode cL_law 1160 = .ok (.iconst 0, 1) := by decide +kernel
theorem dL_law_1161 : decode cL_law 1161 = .ok (.ireturn, 1) := by decide +kernel
theorem dL_law_1162 : decode cL_law 1162 = .ok (.aload_n 1, 1) := by decide +kernel
theorem dL_law_1163 : decode cL_law 1163 = .ok (.aload_n 0, 1) := by decide +kernel
theorem dL_law_1164 : decode cL_law 1164 = .ok (.iload_n 3, 1) := by decide +kernel
theorem dL_law_1165 : decode cL_law 1165 = .ok (.iconst 1, 1) := by decide +kernel
theorem dL_law_1166 : decode cL_law 1166 = .ok (.iadd, 1) := by decide +kernel
theorem dL_law_1167 : decode cL_law 1167 = .ok (.iaload, 1) := by decide +kernel
theorem dL_law_1168 : decode cL_law 1168 = .ok (.aload_n 0, 1) := by decide +kernel
theorem dL_law_1169 : decode cL_law 1169 = .ok (.iload_n 3, 1) := by decide +kernel
theorem dL_law_1170 : decode cL_law 1170 = .ok (.iconst 2, 1) := by decide +kernel
theorem dL_law_1171 : decode cL_law 1171 = .ok (.iadd, 1) := by decide +kernel
theorem dL_law_1172 : decode cL_law 1172 = .ok (.iaload, 1) := by decide +kernel
theorem dL_law_1173 : decode cL_law 1173 = .ok (.invokevirtual 103, 3) := by decide +kernel
theorem dL_law_1176 : decode cL_law 1176 = .ok (.aload_n 2, 1) := by decide +kernel
theorem dL_law_1177 : decode cL_law 1177 = .ok (.aload_n 0, 1) := by decide +kernel
theorem dL_law_1178 : decode cL_law 1178 = .ok (.iload_n 3, 1) := by decide +kernel
theorem dL_law_1179 : decode cL_law 1179 = .ok (.iconst 1, 1) := by decide +kernel
theorem dL_law_1180 : decode cL_law 1180 = .ok (.iadd, 1) := by decide +kernel
theorem dL_law_1181 : decode cL_law 1181 = .ok (.iaload, 1) := by decide +kernel
theorem dL_law_1182 : decode cL_law 1182 = .ok (.aload_n 0, 1) := by decide +kernel
theorem dL_law_1183 : decode cL_law 1183 = .ok (.iload_n 3, 1) := by decide +kernel
theorem dL_law_1184 : decode cL_law 1184 = .ok (.iconst 2, 1) := by decide +kernel
theorem dL_law_1185 : decode cL_law 1185 = .ok (.iadd, 1) := by decide +kernel
theorem dL_law_1186 : decode cL_law 1186 = .ok (.iaload, 1) := by decide +kernel
theorem dL_law_1187 : decode cL_law 1187 = .ok (.invokevirtual 106, 3) := by decide +kernel
theorem dL_law_1190 : decode cL_law 1190 = .ok (.if_icmp .eq 166, 3) := by decide +kernel
theorem dL_law_1193 : decode cL_law 1193 = .ok (.iconst 0, 1) := by decide +kernel
theorem dL_law_1194 : decode cL_law 1194 = .ok (.ireturn, 1) := by decide +kernel
theorem dL_law_1195 : decode cL_law 1195 = .ok (.aload_n 1, 1) := by decide +kernel
theorem dL_law_1196 : decode cL_law 1196 = .ok (.aload_n 0, 1) := by decide +kernel
theorem dL_law_1197 : decode cL_law 1197 = .ok (.iload_n 3, 1) := by decide +kernel
theorem dL_law_1198 : decode cL_law 1198 = .ok (.iconst 1, 1) := by decide +kernel
theorem dL_law_1199 : decode cL_law 1199 = .ok (.iadd, 1) := by decide +kernel
theorem dL_law_1200 : decode cL_law 1200 = .ok (.iaload, 1) := by decide +kernel
theorem dL_law_1201 : decode cL_law 1201 = .ok (.aload_n 0, 1) := by decide +kernel
theorem dL_law_1202 : decode cL_law 1202 = .ok (.iload_n 3, 1) := by decide +kernel
theorem dL_law_1203 : decode cL_law 1203 = .ok (.iconst 2, 1) := by decide +kernel
theorem dL_law_1204 : decode cL_law 1204 = .ok (.iadd, 1) := by decide +kernel
theorem dL_law_1205 : decode cL_law 1205 = .ok (.iaload, 1) := by decide +kernel
theorem dL_law_1206 : decode cL_law 1206 = .ok (.invokevirtual 107, 3) := by decide +kernel
theorem dL_law_1209 : decode cL_law 1209 = .ok (.aload_n 2, 1) := by decide +kernel
theorem dL_law_1210 : decode cL_law 1210 = .ok (.aload_n 0, 1) := by decide +kernel
theorem dL_law_1211 : decode cL_law 1211 = .ok (.iload_n 3, 1) := by decide +kernel
theorem dL_law_1212 : decode cL_law 1212 = .ok (.iconst 1, 1) := by decide +kernel
theorem dL_law_1213 : decode cL_law 1213 = .ok (.iadd, 1) := by decide +kernel
theorem dL_law_1214 : decode cL_law 1214 = .ok (.iaload, 1) := by decide +kernel
theorem dL_law_1215 : decode cL_law 1215 = .ok (.aload_n 0, 1) := by decide +kernel
theorem dL_law_1216 : decode cL_law 1216 = .ok (.iload_n 3, 1) := by decide +kernel
theorem dL_law_1217 : decode cL_law 1217 = .ok (.iconst 2, 1) := by decide +kernel
theorem dL_law_1218 : decode cL_law 1218 = .ok (.iadd, 1) := by decide +kernel
theorem dL_law_1219 : decode cL_law 1219 = .ok (.iaload, 1) := by decide +kernel
theorem dL_law_1220 : decode cL_law 1220 = .ok (.invokevirtual 110, 3) := by decide +kernel
theorem dL_law_1223 : decode cL_law 1223 = .ok (.if_icmp .eq 133, 3) := by decide +kernel
theorem dL_law_1226 : decode cL_law 1226 = .ok (.iconst 0, 1) := by decide +kernel
theorem dL_law_1227 : decode cL_law 1227 = .ok (.ireturn, 1) := by decide +kernel
theorem dL_law_1228 : decode cL_law 1228 = .ok (.aload_n 1, 1) := by decide +kernel
theorem dL_law_1229 : decode cL_law 1229 = .ok (.aload_n 0, 1) := by decide +kernel
theorem dL_law_1230 : decode cL_law 1230 = .ok (.iload_n 3, 1) := by decide +kernel
theorem dL_law_1231 : decode cL_law 1231 = .ok (.iconst 1, 1) := by decide +kernel
theorem dL_law_1232 : decode cL_law 1232 = .ok (.iadd, 1) := by decide +kernel
theorem dL_law_1233 : decode cL_law 1233 = .ok (.iaload, 1) := by decide +kernel
theorem dL_law_1234 : decode cL_law 1234 = .ok (.aload_n 0, 1) := by decide +kernel
theorem dL_law_1235 : decode cL_law 1235 = .ok (.iload_n 3, 1) := by decide +kernel
theorem dL_law_1236 : decode cL_law 1236 = .ok (.iconst 2, 1) := by decide +kernel
theorem dL_law_1237 : decode cL_law 1237 = .ok (.iadd, 1) := by decide +kernel
theorem dL_law_1238 : decode cL_law 1238 = .ok (.iaload, 1) := by decide +kernel
theorem dL_law_1239 : decode cL_law 1239 = .ok (.invokevirtual 111, 3) := by decide +kernel
theorem dL_law_1242 : decode cL_law 1242 = .ok (.aload_n 2, 1) := by decide +kernel
theorem dL_law_1243 : decode cL_law 1243 = .ok (.aload_n 0, 1) := by decide +kernel
theorem dL_law_1244 : decode cL_law 1244 = .ok (.iload_n 3, 1) := by decide +kernel
theorem dL_law_1245 : decode cL_law 1245 = .ok (.iconst 1, 1) := by decide +kernel
theorem dL_law_1246 : decode cL_law 1246 = .ok (.iadd, 1) := by decide +kernel
theorem dL_law_1247 : decode cL_law 1247 = .ok (.iaload, 1) := by decide +kernel
theorem dL_law_1248 : decode cL_law 1248 = .ok (.aload_n 0, 1) := by decide +kernel
theorem dL_law_1249 : decode cL_law 1249 = .ok (.iload_n 3, 1) := by decide +kernel
theorem dL_law_1250 : decode cL_law 1250 = .ok (.iconst 2, 1) := by decide +kernel
theorem dL_law_1251 : decode cL_law 1251 = .ok (.iadd, 1) := by decide +kernel
theorem dL_law_1252 : decode cL_law 1252 = .ok (.iaload, 1) := by decide +kernel
theorem dL_law_1253 : decode cL_law 1253 = .ok (.invokevirtual 114, 3) := by decide +kernel
theorem dL_law_1256 : decode cL_law 1256 = .ok (.if_icmp .eq 100, 3) := by decide +kernel
theorem dL_law_1259 : decode cL_law 1259 = .ok (.iconst 0, 1) := by decide +kernel
theorem dL_law_1260 : decode cL_law 1260 = .ok (.ireturn, 1) := by decide +kernel
theorem dL_law_1261 : decode cL_law 1261 = .ok (.aload_n 1, 1) := by decide +kernel
theorem dL_law_1262 : decode cL_law 1262 = .ok (.aload_n 0, 1) := by decide +kernel
theorem dL_law_1263 : decode cL_law 1263 = .ok (.iload_n 3, 1) := by decide +kernel
theorem dL_law_1264 : decode cL_law 1264 = .ok (.iconst 1, 1) := by decide +kernel
theorem dL_law_1265 : decode cL_law 1265 = .ok (.iadd, 1) := by decide +kernel
theorem dL_law_1266 : decode cL_law 1266 = .ok (.iaload, 1) := by decide +kernel
theorem dL_law_1267 : decode cL_law 1267 = .ok (.invokevirtual 115, 3) := by decide +kernel
theorem dL_law_1270 : decode cL_law 1270 = .ok (.aload_n 2, 1) := by decide +kernel
theorem dL_law_1271 : decode cL_law 1271 = .ok (.aload_n 0, 1) := by decide +kernel
theorem dL_law_1272 : decode cL_law 1272 = .ok (.iload_n 3, 1) := by decide +kernel
theorem dL_law_1273 : decode cL_law 1273 = .ok (.iconst 1, 1) := by decide +kernel
theorem dL_law_1274 : decode cL_law 1274 = .ok (.iadd, 1) := by decide +kernel
theorem dL_law_1275 : decode cL_law 1275 = .ok (.iaload, 1) := by decide +kernel
theorem dL_law_1276 : decode cL_law 1276 = .ok (.invokevirtual 118, 3) := by decide +kernel
theorem dL_law_1279 : decode cL_law 1279 = .ok (.if_icmp .eq 77, 3) := by decide +kernel
theorem dL_law_1282 : decode cL_law 1282 = .ok (.iconst 0, 1) := by decide +kernel
theorem dL_law_1283 : decode cL_law 1283 = .ok (.ireturn, 1) := by decide +kernel
theorem dL_law_1284 : decode cL_law 1284 = .ok (.aload_n 1, 1) := by decide +kernel
theorem dL_law_1285 : decode cL_law 1285 = .ok (.aload_n 0, 1) := by decide +kernel
theorem dL_law_1286 : decode cL_law 1286 = .ok (.iload_n 3, 1) := by decide +kernel
theorem dL_law_1287 : decode cL_law 1287 = .ok (.iconst 1, 1) := by decide +kernel
theorem dL_law_1288 : decode cL_law 1288 = .ok (.iadd, 1) := by decide +kernel
theorem dL_law_1289 : decode cL_law 1289 = .ok (.iaload, 1) := by decide +kernel
theorem dL_law_1290 : decode cL_law 1290 = .ok (.invokevirtual 119, 3) := by decide +kernel
theorem dL_law_1293 : decode cL_law 1293 = .ok (.aload_n 2, 1) := by decide +kernel
theorem dL_law_1294 : decode cL_law 1294 = .ok (.aload_n 0, 1) := by decide +kernel
theorem dL_law_1295 : decode cL_law 1295 = .ok (.iload_n 3, 1) := by decide +kernel
theorem dL_law_1296 : decode cL_law 1296 = .ok (.iconst 1, 1) := by decide +kernel
theorem dL_law_1297 : decode cL_law 1297 = .ok (.iadd, 1) := by decide +kernel
theorem dL_law_1298 : decode cL_law 1298 = .ok (.iaload, 1) := by decide +kernel
theorem dL_law_1299 : decode cL_law 1299 = .ok (.invokevirtual 122, 3) := by decide +kernel
theorem dL_law_1302 : decode cL_law 1302 = .ok (.if_icmp .eq 54, 3) := by decide +kernel
theorem dL_law_1305 : decode cL_law 1305 = .ok (.iconst 0, 1) := by decide +kernel
theorem dL_law_1306 : decode cL_law 1306 = .ok (.ireturn, 1) := by decide +kernel
theorem dL_law_1307 : decode cL_law 1307 = .ok (.aload_n 1, 1) := by decide +kernel
theorem dL_law_1308 : decode cL_law 1308 = .ok (.invokevirtual 123, 3) := by decide +kernel
theorem dL_law_1311 : decode cL_law 1311 = .ok (.aload_n 2, 1) := by decide +kernel
theorem dL_law_1312 : decode cL_law 1312 = .ok (.invokevirtual 127, 3) := by decide +kernel
theorem dL_law_1315 : decode cL_law 1315 = .ok (.if_icmp .eq 41, 3) := by decide +kernel
theorem dL_law_1318 : decode cL_law 1318 = .ok (.iconst 0, 1) := by decide +kernel
theorem dL_law_1319 : decode cL_law 1319 = .ok (.ireturn, 1) := by decide +kernel
theorem dL_law_1320 : decode cL_law 1320 = .ok (.aload_n 1, 1) := by decide +kernel
theorem dL_law_1321 : decode cL_law 1321 = .ok (.invokevirtual 128, 3) := by decide +kernel
theorem dL_law_1324 : decode cL_law 1324 = .ok (.aload_n 2, 1) := by decide +kernel
theorem dL_law_1325 : decode cL_law 1325 = .ok (.invokevirtual 131, 3) := by decide +kernel
theorem dL_law_1328 : decode cL_law 1328 = .ok (.if_icmp .eq 28, 3) := by decide +kernel
theorem dL_law_1331 : decode cL_law 1331 = .ok (.iconst 0, 1) := by decide +kernel
theorem dL_law_1332 : decode cL_law 1332 = .ok (.ireturn, 1) := by decide +kernel
theorem dL_law_1333 : decode cL_law 1333 = .ok (.aload_n 1, 1) := by decide +kernel
theorem dL_law_1334 : decode cL_law 1334 = .ok (.aload_n 0, 1) := by decide +kernel
theorem dL_law_1335 : decode cL_law 1335 = .ok (.iload_n 3, 1) := by decide +kernel
theorem dL_law_1336 : decode cL_law 1336 = .ok (.iconst 1, 1) := by decide +kernel
theorem dL_law_1337 : decode cL_law 1337 = .ok (.iadd, 1) := by decide +kernel
theorem dL_law_1338 : decode cL_law 1338 = .ok (.iaload, 1) := by decide +kernel
theorem dL_law_1339 : decode cL_law 1339 = .ok (.invokevirtual 132, 3) := by decide +kernel
theorem dL_law_1342 : decode cL_law 1342 = .ok (.aload_n 2, 1) := by decide +kernel
theorem dL_law_1343 : decode cL_law 1343 = .ok (.aload_n 0, 1) := by decide +kernel
theorem dL_law_1344 : decode cL_law 1344 = .ok (.iload_n 3, 1) := by decide +kernel
theorem dL_law_1345 : decode cL_law 1345 = .ok (.iconst 1, 1) := by decide +kernel
theorem dL_law_1346 : decode cL_law 1346 = .ok (.iadd, 1) := by decide +kernel
theorem dL_law_1347 : decode cL_law 1347 = .ok (.iaload, 1) := by decide +kernel
theorem dL_law_1348 : decode cL_law 1348 = .ok (.invokevirtual 135, 3) := by decide +kernel
theorem dL_law_1351 : decode cL_law 1351 = .ok (.if_icmp .eq 5, 3) := by decide +kernel
theorem dL_law_1354 : decode cL_law 1354 = .ok (.iconst 0, 1) := by decide +kernel
theorem dL_law_1355 : decode cL_law 1355 = .ok (.ireturn, 1) := by decide +kernel
theorem dL_law_1356 : decode cL_law 1356 = .ok (.iinc 3 8, 3) := by decide +kernel
theorem dL_law_1359 : decode cL_law 1359 = .ok (.goto (-1341), 3) := by decide +kernel
theorem dL_law_1362 : decode cL_law 1362 = .ok (.iconst 1, 1) := by decide +kernel
theorem dL_law_1363 : decode cL_law 1363 = .ok (.ireturn, 1) := by decide +kernel
