theorem dL_isSo_6 : decode cL_isSo 6 = .ok (.iconst 0, 1) := by decide +kernel
theorem dL_isSo_7 : decode cL_isSo 7 = .ok (.istore 8, 2) := by decide +kernel
theorem dL_isSo_9 : decode cL_isSo 9 = .ok (.iconst 0, 1) := by decide +kernel
theorem dL_isSo_10 : decode cL_isSo 10 = .ok (.istore 9, 2) := by decide +kernel
theorem dL_isSo_12 : decode cL_isSo 12 = .ok (.iconst 0, 1) := by decide +kernel
theorem dL_isSo_13 : decode cL_isSo 13 = .ok (.istore 10, 2) := by decide +kernel
theorem dL_isSo_15 : decode cL_isSo 15 = .ok (.iload 10, 2) := by decide +kernel
theorem dL_isSo_17 : decode cL_isSo 17 = .ok (.aload_n 1, 1) := by decide +kernel
theorem dL_isSo_18 : decode cL_isSo 18 = .ok (.iconst 1, 1) := by decide +kernel
theorem dL_isSo_19 : decode cL_isSo 19 = .ok (.iaload, 1) := by decide +kernel
theorem dL_isSo_20 : decode cL_isSo 20 = .ok (.if_icmp .ge 306, 3) := by decide +kernel
theorem dL_isSo_23 : decode cL_isSo 23 = .ok (.iload 6, 2) := by decide +kernel
theorem dL_isSo_25 : decode cL_isSo 25 = .ok (.ifCond .eq 301, 3) := by decide +kernel
theorem dL_isSo_28 : decode cL_isSo 28 = .ok (.bipush 6, 2) := by decide +kernel
theorem dL_isSo_30 : decode cL_isSo 30 = .ok (.iload 10, 2) := by decide +kernel
theorem dL_isSo_32 : decode cL_isSo 32 = .ok (.imul, 1) := by decide +kernel
theorem dL_isSo_33 : decode cL_isSo 33 = .ok (.istore 11, 2) := by decide +kernel
theorem dL_isSo_35 : decode cL_isSo 35 = .ok (.iload 7, 2) := by decide +kernel
theorem dL_isSo_37 : decode cL_isSo 37 = .ok (.aload_n 3, 1) := by decide +kernel
theorem dL_isSo_38 : decode cL_isSo 38 = .ok (.iload 11, 2) := by decide +kernel
theorem dL_isSo_40 : decode cL_isSo 40 = .ok (.iconst 5, 1) := by decide +kernel
theorem dL_isSo_41 : decode cL_isSo 41 = .ok (.iadd, 1) := by decide +kernel
theorem dL_isSo_42 : decode cL_isSo 42 = .ok (.iaload, 1) := by decide +kernel
theorem dL_isSo_43 : decode cL_isSo 43 = .ok (.iadd, 1) := by decide +kernel
theorem dL_isSo_44 : decode cL_isSo 44 = .ok (.istore 7, 2) := by decide +kernel
theorem dL_isSo_46 : decode cL_isSo 46 = .ok (.iload 8, 2) := by decide +kernel
theorem dL_isSo_48 : decode cL_isSo 48 = .ok (.aload_n 3, 1) := by decide +kernel
theorem dL_isSo_49 : decode cL_isSo 49 = .ok (.iload 11, 2) := by decide +kernel
theorem dL_isSo_51 : decode cL_isSo 51 = .ok (.iconst 4, 1) := by decide +kernel
theorem dL_isSo_52 : decode cL_isSo 52 = .ok (.iadd, 1) := by decide +kernel
theorem dL_isSo_53 : decode cL_isSo 53 = .ok (.iaload, 1) := by decide +kernel
theorem dL_isSo_54 : decode cL_isSo 54 = .ok (.iconst 1, 1) := by decide +kernel
theorem dL_isSo_55 : decode cL_isSo 55 = .ok (.if_icmp .ne 7, 3) := by decide +kernel
theorem dL_isSo_58 : decode cL_isSo 58 = .ok (.iconst 1, 1) := by decide +kernel
theorem dL_isSo_59 : decode cL_isSo 59 = .ok (.goto 4, 3) := by decide +kernel
theorem dL_isSo_62 : decode cL_isSo 62 = .ok (.iconst 0, 1) := by decide +kernel
theorem dL_isSo_63 : decode cL_isSo 63 = .ok (.iadd, 1) := by decide +kernel
theorem dL_isSo_64 : decode cL_isSo 64 = .ok (.istore 8, 2) := by decide +kernel
theorem dL_isSo_66 : decode cL_isSo 66 = .ok (.iload 9, 2) := by decide +kernel
theorem dL_isSo_68 : decode cL_isSo 68 = .ok (.aload_n 3, 1) := by decide +kernel
theorem dL_isSo_69 : decode cL_isSo 69 = .ok (.iload 11, 2) := by decide +kernel
theorem dL_isSo_71 : decode cL_isSo 71 = .ok (.iconst 4, 1) := by decide +kernel
theorem dL_isSo_72 : decode cL_isSo 72 = .ok (.iadd, 1) := by decide +kernel
theorem dL_isSo_73 : decode cL_isSo 73 = .ok (.iaload, 1) := by decide +kernel
theorem dL_isSo_74 : decode cL_isSo 74 = .ok (.iconst 2, 1) := by decide +kernel
theorem dL_isSo_75 : decode cL_isSo 75 = .ok (.if_icmp .ne 7, 3) := by decide +kernel
theorem dL_isSo_78 : decode cL_isSo 78 = .ok (.iconst 1, 1) := by decide +kernel
theorem dL_isSo_79 : decode cL_isSo 79 = .ok (.goto 4, 3) := by decide +kernel
theorem dL_isSo_82 : decode cL_isSo 82 = .ok (.iconst 0, 1) := by decide +kernel
theorem dL_isSo_83 : decode cL_isSo 83 = .ok (.iadd, 1) := by decide +kernel
theorem dL_isSo_84 : decode cL_isSo 84 = .ok (.istore 9, 2) := by decide +kernel
theorem dL_isSo_86 : decode cL_isSo 86 = .ok (.aload_n 0, 1) := by decide +kernel
theorem dL_isSo_87 : decode cL_isSo 87 = .ok (.iload 10, 2) := by decide +kernel
theorem dL_isSo_89 : decode cL_isSo 89 = .ok (.iconst 0, 1) := by decide +kernel
theorem dL_isSo_90 : decode cL_isSo 90 = .ok (.invokevirtual 109, 3) := by decide +kernel
theorem dL_isSo_93 : decode cL_isSo 93 = .ok (.aload_n 3, 1) := by decide +kernel
theorem dL_isSo_94 : decode cL_isSo 94 = .ok (.iload 11, 2) := by decide +kernel
theorem dL_isSo_96 : decode cL_isSo 96 = .ok (.iconst 3, 1) := by decide +kernel
theorem dL_isSo_97 : decode cL_isSo 97 = .ok (.iadd, 1) := by decide +kernel
theorem dL_isSo_98 : decode cL_isSo 98 = .ok (.iaload, 1) := by decide +kernel
theorem dL_isSo_99 : decode cL_isSo 99 = .ok (.if_icmp .ne 160, 3) := by decide +kernel
theorem dL_isSo_102 : decode cL_isSo 102 = .ok (.aload_n 0, 1) := by decide +kernel
theorem dL_isSo_103 : decode cL_isSo 103 = .ok (.iload 10, 2) := by decide +kernel
theorem dL_isSo_105 : decode cL_isSo 105 = .ok (.iconst 1, 1) := by decide +kernel
theorem dL_isSo_106 : decode cL_isSo 106 = .ok (.invokevirtual 109, 3) := by decide +kernel
theorem dL_isSo_109 : decode cL_isSo 109 = .ok (.aload_n 3, 1) := by decide +kernel
theorem dL_isSo_110 : decode cL_isSo 110 = .ok (.iload 11, 2) := by decide +kernel
theorem dL_isSo_112 : decode cL_isSo 112 = .ok (.iconst 4, 1) := by decide +kernel
theorem dL_isSo_113 : decode cL_isSo 113 = .ok (.iadd, 1) := by decide +kernel
theorem dL_isSo_114 : decode cL_isSo 114 = .ok (.iaload, 1) := by decide +kernel
theorem dL_isSo_115 : decode cL_isSo 115 = .ok (.if_icmp .ne 144, 3) := by decide +kernel
theorem dL_isSo_118 : decode cL_isSo 118 = .ok (.aload_n 0, 1) := by decide +kernel
theorem dL_isSo_119 : decode cL_isSo 119 = .ok (.iload 10, 2) := by decide +kernel
theorem dL_isSo_121 : decode cL_isSo 121 = .ok (.iconst 2, 1) := by decide +kernel
theorem dL_isSo_122 : decode cL_isSo 122 = .ok (.invokevirtual 109, 3) := by decide +kernel
theorem dL_isSo_125 : decode cL_isSo 125 = .ok (.aload_n 1, 1) := by decide +kernel
theorem dL_isSo_126 : decode cL_isSo 126 = .ok (.aload 4, 2) := by decide +kernel
theorem dL_isSo_128 : decode cL_isSo 128 = .ok (.iload 10, 2) := by decide +kernel
theorem dL_isSo_130 : decode cL_isSo 130 = .ok (.iconst 2, 1) := by decide +kernel
theorem dL_isSo_131 : decode cL_isSo 131 = .ok (.invokestatic 38, 3) := by decide +kernel
theorem dL_isSo_134 : decode cL_isSo 134 = .ok (.if_icmp .ne 125, 3) := by decide +kernel
theorem dL_isSo_137 : decode cL_isSo 137 = .ok (.aload_n 0, 1) := by decide +kernel
theorem dL_isSo_138 : decode cL_isSo 138 = .ok (.iload 10, 2) := by decide +kernel
theorem dL_isSo_140 : decode cL_isSo 140 = .ok (.iconst 3, 1) := by decide +kernel
theorem dL_isSo_141 : decode cL_isSo 141 = .ok (.invokevirtual 109, 3) := by decide +kernel
theorem dL_isSo_144 : decode cL_isSo 144 = .ok (.aload_n 1, 1) := by decide +kernel
theorem dL_isSo_145 : decode cL_isSo 145 = .ok (.aload 4, 2) := by decide +kernel
theorem dL_isSo_147 : decode cL_isSo 147 = .ok (.iload 10, 2) := by decide +kernel
theorem dL_isSo_149 : decode cL_isSo 149 = .ok (.iconst 1, 1) := by decide +kernel
theorem dL_isSo_150 : decode cL_isSo 150 = .ok (.invokestatic 38, 3) := by decide +kernel
theorem dL_isSo_153 : decode cL_isSo 153 = .ok (.if_icmp .ne 106, 3) := by decide +kernel
theorem dL_isSo_156 : decode cL_isSo 156 = .ok (.aload_n 0, 1) := by decide +kernel
theorem dL_isSo_157 : decode cL_isSo 157 = .ok (.iload 10, 2) := by decide +kernel
theorem dL_isSo_159 : decode cL_isSo 159 = .ok (.iconst 4, 1) := by decide +kernel
theorem dL_isSo_160 : decode cL_isSo 160 = .ok (.invokevirtual 109, 3) := by decide +kernel
theorem dL_isSo_163 : decode cL_isSo 163 = .ok (.aload_n 1, 1) := by decide +kernel
theorem dL_isSo_164 : decode cL_isSo 164 = .ok (.aload 4, 2) := by decide +kernel
theorem dL_isSo_166 : decode cL_isSo 166 = .ok (.iload 10, 2) := by decide +kernel
theorem dL_isSo_168 : decode cL_isSo 168 = .ok (.iconst 0, 1) := by decide +kernel
theorem dL_isSo_169 : decode cL_isSo 169 = .ok (.invokestatic 34, 3) := by decide +kernel
theorem dL_isSo_172 : decode cL_isSo 172 = .ok (.if_icmp .ne 87, 3) := by decide +kernel
theorem dL_isSo_175 : decode cL_isSo 175 = .ok (.aload_n 0, 1) := by decide +kernel
theorem dL_isSo_176 : decode cL_isSo 176 = .ok (.iload 10, 2) := by decide +kernel
theorem dL_isSo_178 : decode cL_isSo 178 = .ok (.iconst 5, 1) := by decide +kernel
theorem dL_isSo_179 : decode cL_isSo 179 = .ok (.invokevirtual 109, 3) := by decide +kernel
theorem dL_isSo_182 : decode cL_isSo 182 = .ok (.aload_n 1, 1) := by decide +kernel
theorem dL_isSo_183 : decode cL_isSo 183 = .ok (.aload_n 3, 1) := by decide +kernel
theorem dL_isSo_184 : decode cL_isSo 184 = .ok (.aload 4, 2) := by decide +kernel
theorem dL_isSo_186 : decode cL_isSo 186 = .ok (.iload 10, 2) := by decide +kernel
theorem dL_isSo_188 : decode cL_isSo 188 = .ok (.invokestatic 53, 3) := by decide +kernel
theorem dL_isSo_191 : decode cL_isSo 191 = .ok (.if_icmp .ne 68, 3) := by decide +kernel
theorem dL_isSo_194 : decode cL_isSo 194 = .ok (.aload_n 0, 1) := by decide +kernel
theorem dL_isSo_195 : decode cL_isSo 195 = .ok (.iload 10, 2) := by decide +kernel
theorem dL_isSo_197 : decode cL_isSo 197 = .ok (.bipush 6, 2) := by decide +kernel
theorem dL_isSo_199 : decode cL_isSo 199 = .ok (.invokevirtual 109, 3) := by decide +kernel
theorem dL_isSo_202 : decode cL_isSo 202 = .ok (.aload_n 3, 1) := by decide +kernel
theorem dL_isSo_203 : decode cL_isSo 203 = .ok (.iload 11, 2) := by decide +kernel
theorem dL_isSo_205 : decode cL_isSo 205 = .ok (.iconst 5, 1) := by decide +kernel
theorem dL_isSo_206 : decode cL_isSo 206 = .ok (.iadd, 1) := by decide +kernel
theorem dL_isSo_207 : decode cL_isSo 207 = .ok (.iaload, 1) := by decide +kernel
theorem dL_isSo_208 : decode cL_isSo 208 = .ok (.if_icmp .ne 51, 3) := by decide +kernel
theorem dL_isSo_211 : decode cL_isSo 211 = .ok (.aload_n 0, 1) := by decide +kernel
theorem dL_isSo_212 : decode cL_isSo 212 = .ok (.iload 10, 2) := by decide +kernel
theorem dL_isSo_214 : decode cL_isSo 214 = .ok (.bipush 7, 2) := by decide +kernel
theorem dL_isSo_216 : decode cL_isSo 216 = .ok (.invokevirtual 109, 3) := by decide +kernel
theorem dL_isSo_219 : decode cL_isSo 219 = .ok (.iload 10, 2) := by decide +kernel
theorem dL_isSo_221 : decode cL_isSo 221 = .ok (.aload_n 2, 1) := by decide +kernel
theorem dL_isSo_222 : decode cL_isSo 222 = .ok (.aload_n 1, 1) := by decide +kernel
theorem dL_isSo_223 : decode cL_isSo 223 = .ok (.iconst 0, 1) := by decide +kernel
theorem dL_isSo_224 : decode cL_isSo 224 = .ok (.iaload, 1) := by decide +kernel
theorem dL_isSo_225 : decode cL_isSo 225 = .ok (.bipush 60, 2) := by decide +kernel
theorem dL_isSo_227 : decode cL_isSo 227 = .ok (.idiv, 1) := by decide +kernel
theorem dL_isSo_228 : decode cL_isSo 228 = .ok (.bipush 24, 2) := by decide +kernel
theorem dL_isSo_230 : decode cL_isSo 230 = .ok (.irem, 1) := by decide +kernel
theorem dL_isSo_231 : decode cL_isSo 231 = .ok (.iaload, 1) := by decide +kernel
theorem dL_isSo_232 : decode cL_isSo 232 = .ok (.if_icmp .ge 7, 3) := by decide +kernel
theorem dL_isSo_235 : decode cL_isSo 235 = .ok (.iconst 1, 1) := by decide +kernel
theorem dL_isSo_236 : decode cL_isSo 236 = .ok (.goto 4, 3) := by decide +kernel
theorem dL_isSo_239 : decode cL_isSo 239 = .ok (.iconst 0, 1) := by decide +kernel
theorem dL_isSo_240 : decode cL_isSo 240 = .ok (.if_icmp .ne 19, 3) := by decide +kernel
theorem dL_isSo_243 : decode cL_isSo 243 = .ok (.aload_n 0, 1) := by decide +kernel
theorem dL_isSo_244 : decode cL_isSo 244 = .ok (.iload 10, 2) := by decide +kernel
theorem dL_isSo_246 : decode cL_isSo 246 = .ok (.bipush 8, 2) := by decide +kernel
theorem dL_isSo_248 : decode cL_isSo 248 = .ok (.invokevirtual 109, 3) := by decide +kernel
theorem dL_isSo_251 : decode cL_isSo 251 = .ok (.iconst (-1), 1) := by decide +kernel
theorem dL_isSo_252 : decode cL_isSo 252 = .ok (.if_icmp .ne 7, 3) := by decide +kernel
theorem dL_isSo_255 : decode cL_isSo 255 = .ok (.iconst 1, 1) := by decide +kernel
theorem dL_isSo_256 : decode cL_isSo 256 = .ok (.goto 4, 3) := by decide +kernel
theorem dL_isSo_259 : decode cL_isSo 259 = .ok (.iconst 0, 1) := by decide +kernel
theorem dL_isSo_260 : decode cL_isSo 260 = .ok (.istore 6, 2) := by decide +kernel
theorem dL_isSo_262 : decode cL_isSo 262 = .ok (.iload 6, 2) := by decide +kernel
theorem dL_isSo_264 : decode cL_isSo 264 = .ok (.ifCond .eq 53, 3) := by decide +kernel
theorem dL_isSo_267 : decode cL_isSo 267 = .ok (.aload_n 3, 1) := by decide +kernel
theorem dL_isSo_268 : decode cL_isSo 268 = .ok (.iload 11, 2) := by decide +kernel
theorem dL_isSo_270 : decode cL_isSo 270 = .ok (.iconst 3, 1) := by decide +kernel
theorem dL_isSo_271 : decode cL_isSo 271 = .ok (.iadd, 1) := by decide +kernel
theorem dL_isSo_272 : decode cL_isSo 272 = .ok (.iaload, 1) := by decide +kernel
theorem dL_isSo_273 : decode cL_isSo 273 = .ok (.aload_n 3, 1) := by decide +kernel
theorem dL_isSo_274 : decode cL_isSo 274 = .ok (.iload 11, 2) := by decide +kernel
theorem dL_isSo_276 : decode cL_isSo 276 = .ok (.iaload, 1) := by decide +kernel
theorem dL_isSo_277 : decode cL_isSo 277 = .ok (.if_icmp .lt 40, 3) := by decide +kernel
theorem dL_isSo_280 : decode cL_isSo 280 = .ok (.aload_n 3, 1) := by decide +kernel
theorem dL_isSo_281 : decode cL_isSo 281 = .ok (.iload 11, 2) := by decide +kernel
theorem dL_isSo_283 : decode cL_isSo 283 = .ok (.iconst 3, 1) := by decide +kernel
theorem dL_isSo_284 : decode cL_isSo 284 = .ok (.iadd, 1) := by decide +kernel
theorem dL_isSo_285 : decode cL_isSo 285 = .ok (.iaload, 1) := by decide +kernel
theorem dL_isSo_286 : decode cL_isSo 286 = .ok (.aload_n 3, 1) := by decide +kernel
theorem dL_isSo_287 : decode cL_isSo 287 = .ok (.iload 11, 2) := by decide +kernel
theorem dL_isSo_289 : decode cL_isSo 289 = .ok (.iconst 1, 1) := by decide +kernel
theorem dL_isSo_290 : decode cL_isSo 290 = .ok (.iadd, 1) := by decide +kernel
theorem dL_isSo_291 : decode cL_isSo 291 = .ok (.iaload, 1) := by decide +kernel
theorem dL_isSo_292 : decode cL_isSo 292 = .ok (.if_icmp .gt 25, 3) := by decide +kernel
theorem dL_isSo_295 : decode cL_isSo 295 = .ok (.aload_n 1, 1) := by decide +kernel
theorem dL_isSo_296 : decode cL_isSo 296 = .ok (.aload 4, 2) := by decide +kernel
theorem dL_isSo_298 : decode cL_isSo 298 = .ok (.iload 10, 2) := by decide +kernel
theorem dL_isSo_300 : decode cL_isSo 300 = .ok (.iconst 2, 1) := by decide +kernel
theorem dL_isSo_301 : decode cL_isSo 301 = .ok (.invokestatic 38, 3) := by decide +kernel
theorem dL_isSo_304 : decode cL_isSo 304 = .ok (.aload_n 3, 1) := by decide +kernel
theorem dL_isSo_305 : decode cL_isSo 305 = .ok (.iload 11, 2) := by decide +kernel
theorem dL_isSo_307 : decode cL_isSo 307 = .ok (.iconst 2, 1) := by decide +kernel
theorem dL_isSo_308 : decode cL_isSo 308 = .ok (.iadd, 1) := by decide +kernel
theorem dL_isSo_309 : decode cL_isSo 309 = .ok (.iaload, 1) := by decide +kernel
theorem dL_isSo_310 : decode cL_isSo 310 = .ok (.if_icmp .gt 7, 3) := by decide +kernel
theorem dL_isSo_313 : decode cL_isSo 313 = .ok (.iconst 1, 1) := by decide +kernel
theorem dL_isSo_314 : decode cL_isSo 314 = .ok (.goto 4, 3) := by decide +kernel
theorem dL_isSo_317 : decode cL_isSo 317 = .ok (.iconst 0, 1) := by decide +kernel
theorem dL_isSo_318 : decode cL_isSo 318 = .ok (.istore 6, 2) := by decide +kernel
theorem dL_isSo_320 : decode cL_isSo 320 = .ok (.iinc 10 1, 3) := by decide +kernel
theorem dL_isSo_323 : decode cL_isSo 323 = .ok (.goto (-308), 3) := by decide +kernel
theorem dL_isSo_326 : decode cL_isSo 326 = .ok (.iconst 0, 1) := by decide +kernel
theorem dL_isSo_327 : decode cL_isSo 327 = .ok (.istore 10, 2) := by decide +kernel
theorem dL_isSo_329 : decode cL_isSo 329 = .ok (.iconst 0, 1) := by decide +kernel
theorem dL_isSo_330 : decode cL_isSo 330 = .ok (.istore 11, 2) := by decide +kernel
theorem dL_isSo_332 : decode cL_isSo 332 = .ok (.iload 11, 2) := by decide +kernel
theorem dL_isSo_334 : decode cL_isSo 334 = .ok (.aload_n 1, 1) := by decide +kernel
theorem dL_isSo_335 : decode cL_isSo 335 = .ok (.iconst 2, 1) := by decide +kernel
theorem dL_isSo_336 : decode cL_isSo 336 = .ok (.iaload, 1) := by decide +kernel
theorem dL_isSo_337 : decode cL_isSo 337 = .ok (.if_icmp .ge 424, 3) := by decide +kernel
theorem dL_isSo_340 : decode cL_isSo 340 = .ok (.iload 6, 2) := by decide +kernel
theorem dL_isSo_342 : decode cL_isSo 342 = .ok (.ifCond .eq 419, 3) := by decide +kernel
theorem dL_isSo_345 : decode cL_isSo 345 = .ok (.aload 4, 2) := by decide +kernel
theorem dL_isSo_347 : decode cL_isSo 347 = .ok (.iload 11, 2) := by decide +kernel
theorem dL_isSo_349 : decode cL_isSo 349 = .ok (.laload, 1) := by decide +kernel
theorem dL_isSo_350 : decode cL_isSo 350 = .ok (.lstore 12, 2) := by decide +kernel
theorem dL_isSo_352 : decode cL_isSo 352 = .ok (.aload 5, 2) := by decide +kernel
theorem dL_isSo_354 : decode cL_isSo 354 = .ok (.iload 11, 2) := by decide +kernel
theorem dL_isSo_356 : decode cL_isSo 356 = .ok (.laload, 1) := by decide +kernel
theorem dL_isSo_357 : decode cL_isSo 357 = .ok (.ldc2_w 112, 3) := by decide +kernel
theorem dL_isSo_360 : decode cL_isSo 360 = .ok (.land, 1) := by decide +kernel
theorem dL_isSo_361 : decode cL_isSo 361 = .ok (.l2i, 1) := by decide +kernel
theorem dL_isSo_362 : decode cL_isSo 362 = .ok (.iconst 1, 1) := by decide +kernel
theorem dL_isSo_363 : decode cL_isSo 363 = .ok (.isub, 1) := by decide +kernel
theorem dL_isSo_364 : decode cL_isSo 364 = .ok (.istore 14, 2) := by decide +kernel
theorem dL_isSo_366 : decode cL_isSo 366 = .ok (.aload 5, 2) := by decide +kernel
theorem dL_isSo_368 : decode cL_isSo 368 = .ok (.iload 11, 2) := by decide +kernel
theorem dL_isSo_370 : decode cL_isSo 370 = .ok (.laload, 1) := by decide +kernel
theorem dL_isSo_371 : decode cL_isSo 371 = .ok (.bipush 20, 2) := by decide +kernel
theorem dL_isSo_373 : decode cL_isSo 373 = .ok (.lshr, 1) := by decide +kernel
theorem dL_isSo_374 : decode cL_isSo 374 = .ok (.l2i, 1) := by decide +kernel
theorem dL_isSo_375 : decode cL_isSo 375 = .ok (.iconst 1, 1) := by decide +kernel
theorem dL_isSo_376 : decode cL_isSo 376 = .ok (.isub, 1) := by decide +kernel
theorem dL_isSo_377 : decode cL_isSo 377 = .ok (.istore 15, 2) := by decide +kernel
theorem dL_isSo_379 : decode cL_isSo 379 = .ok (.aload_n 0, 1) := by decide +kernel
theorem dL_isSo_380 : decode cL_isSo 380 = .ok (.iload 11, 2) := by decide +kernel
theorem dL_isSo_382 : decode cL_isSo 382 = .ok (.iconst 0, 1) := by decide +kernel
theorem dL_isSo_383 : decode cL_isSo 383 = .ok (.invokevirtual 114, 3) := by decide +kernel
theorem dL_isSo_386 : decode cL_isSo 386 = .ok (.lload 12, 2) := by decide +kernel
theorem dL_isSo_388 : decode cL_isSo 388 = .ok (.invokestatic 27, 3) := by decide +kernel
theorem dL_isSo_391 : decode cL_isSo 391 = .ok (.if_icmp .ne 161, 3) := by decide +kernel
theorem dL_isSo_394 : decode cL_isSo 394 = .ok (.aload_n 0, 1) := by decide +kernel
theorem dL_isSo_395 : decode cL_isSo 395 = .ok (.iload 11, 2) := by decide +kernel
theorem dL_isSo_397 : decode cL_isSo 397 = .ok (.iconst 1, 1) := by decide +kernel
theorem dL_isSo_398 : decode cL_isSo 398 = .ok (.invokevirtual 114, 3) := by decide +kernel
theorem dL_isSo_401 : decode cL_isSo 401 = .ok (.lload 12, 2) := by decide +kernel
theorem dL_isSo_403 : decode cL_isSo 403 = .ok (.invokestatic 24, 3) := by decide +kernel
theorem dL_isSo_406 : decode cL_isSo 406 = .ok (.if_icmp .ne 146, 3) := by decide +kernel
theorem dL_isSo_409 : decode cL_isSo 409 = .ok (.aload_n 0, 1) := by decide +kernel
theorem dL_isSo_410 : decode cL_isSo 410 = .ok (.iload 11, 2) := by decide +kernel
theorem dL_isSo_412 : decode cL_isSo 412 = .ok (.iconst 2, 1) := by decide +kernel
theorem dL_isSo_413 : decode cL_isSo 413 = .ok (.invokevirtual 114, 3) := by decide +kernel
theorem dL_isSo_416 : decode cL_isSo 416 = .ok (.lload 12, 2) := by decide +kernel
theorem dL_isSo_418 : decode cL_isSo 418 = .ok (.invokestatic 15, 3) := by decide +kernel
theorem dL_isSo_421 : decode cL_isSo 421 = .ok (.if_icmp .ne 131, 3) := by decide +kernel
theorem dL_isSo_424 : decode cL_isSo 424 = .ok (.aload_n 0, 1) := by decide +kernel
theorem dL_isSo_425 : decode cL_isSo 425 = .ok (.iload 11, 2) := by decide +kernel
theorem dL_isSo_427 : decode cL_isSo 427 = .ok (.iconst 3, 1) := by decide +kernel
theorem dL_isSo_428 : decode cL_isSo 428 = .ok (.invokevirtual 114, 3) := by decide +kernel
theorem dL_isSo_431 : decode cL_isSo 431 = .ok (.lload 12, 2) := by decide +kernel
theorem dL_isSo_433 : decode cL_isSo 433 = .ok (.invokestatic 21, 3) := by decide +kernel
theorem dL_isSo_436 : decode cL_isSo 436 = .ok (.ifCond .ge 8, 3) := by decide +kernel
theorem dL_isSo_439 : decode cL_isSo 439 = .ok (.bipush (-9), 2) := by decide +kernel
theorem dL_isSo_441 : decode cL_isSo 441 = .ok (.goto 8, 3) := by decide +kernel
theorem dL_isSo_444 : decode cL_isSo 444 = .ok (.lload 12, 2) := by decide +kernel
theorem dL_isSo_446 : decode cL_isSo 446 = .ok (.invokestatic 21, 3) := by decide +kernel
theorem dL_isSo_449 : decode cL_isSo 449 = .ok (.if_icmp .ne 103, 3) := by decide +kernel
theorem dL_isSo_452 : decode cL_isSo 452 = .ok (.aload_n 0, 1) := by decide +kernel
theorem dL_isSo_453 : decode cL_isSo 453 = .ok (.iload 11, 2) := by decide +kernel
theorem dL_isSo_455 : decode cL_isSo 455 = .ok (.iconst 4, 1) := by decide +kernel
theorem dL_isSo_456 : decode cL_isSo 456 = .ok (.invokevirtual 114, 3) := by decide +kernel
theorem dL_isSo_459 : decode cL_isSo 459 = .ok (.i2l, 1) := by decide +kernel
theorem dL_isSo_460 : decode cL_isSo 460 = .ok (.lload 12, 2) := by decide +kernel
theorem dL_isSo_462 : decode cL_isSo 462 = .ok (.bipush 24, 2) := by decide +kernel
theorem dL_isSo_464 : decode cL_isSo 464 = .ok (.lshr, 1) := by decide +kernel
theorem dL_isSo_465 : decode cL_isSo 465 = .ok (.lcmp, 1) := by decide +kernel
theorem dL_isSo_466 : decode cL_isSo 466 = .ok (.ifCond .ne 86, 3) := by decide +kernel
theorem dL_isSo_469 : decode cL_isSo 469 = .ok (.aload_n 0, 1) := by decide +kernel
theorem dL_isSo_470 : decode cL_isSo 470 = .ok (.iload 11, 2) := by decide +kernel
theorem dL_isSo_472 : decode cL_isSo 472 = .ok (.iconst 5, 1) := by decide +kernel
theorem dL_isSo_473 : decode cL_isSo 473 = .ok (.invokevirtual 114, 3) := by decide +kernel
theorem dL_isSo_476 : decode cL_isSo 476 = .ok (.iload 14, 2) := by decide +kernel
theorem dL_isSo_478 : decode cL_isSo 478 = .ok (.ifCond .ge 8, 3) := by decide +kernel
theorem dL_isSo_481 : decode cL_isSo 481 = .ok (.bipush (-9), 2) := by decide +kernel
theorem dL_isSo_483 : decode cL_isSo 483 = .ok (.goto 5, 3) := by decide +kernel
theorem dL_isSo_486 : decode cL_isSo 486 = .ok (.iload 14, 2) := by decide +kernel
theorem dL_isSo_488 : decode cL_isSo 488 = .ok (.if_icmp .ne 64, 3) := by decide +kernel
theorem dL_isSo_491 : decode cL_isSo 491 = .ok (.aload_n 0, 1) := by decide +kernel
theorem dL_isSo_492 : decode cL_isSo 492 = .ok (.iload 11, 2) := by decide +kernel
theorem dL_isSo_494 : decode cL_isSo 494 = .ok (.bipush 6, 2) := by decide +kernel
theorem dL_isSo_496 : decode cL_isSo 496 = .ok (.invokevirtual 114, 3) := by decide +kernel
theorem dL_isSo_499 : decode cL_isSo 499 = .ok (.iload 15, 2) := by decide +kernel
theorem dL_isSo_501 : decode cL_isSo 501 = .ok (.ifCond .ge 8, 3) := by decide +kernel
theorem dL_isSo_504 : decode cL_isSo 504 = .ok (.bipush (-9), 2) := by decide +kernel
theorem dL_isSo_506 : decode cL_isSo 506 = .ok (.goto 5, 3) := by decide +kernel
theorem dL_isSo_509 : decode cL_isSo 509 = .ok (.iload 15, 2) := by decide +kernel
theorem dL_isSo_511 : decode cL_isSo 511 = .ok (.if_icmp .ne 41, 3) := by decide +kernel
theorem dL_isSo_514 : decode cL_isSo 514 = .ok (.aload_n 0, 1) := by decide +kernel
theorem dL_isSo_515 : decode cL_isSo 515 = .ok (.iload 11, 2) := by decide +kernel
theorem dL_isSo_517 : decode cL_isSo 517 = .ok (.bipush 7, 2) := by decide +kernel
theorem dL_isSo_519 : decode cL_isSo 519 = .ok (.invokevirtual 114, 3) := by decide +kernel
theorem dL_isSo_522 : decode cL_isSo 522 = .ok (.i2l, 1) := by decide +kernel
theorem dL_isSo_523 : decode cL_isSo 523 = .ok (.lload 12, 2) := by decide +kernel
theorem dL_isSo_525 : decode cL_isSo 525 = .ok (.bipush 13, 2) := by decide +kernel
theorem dL_isSo_527 : decode cL_isSo 527 = .ok (.lshr, 1) := by decide +kernel
theorem dL_isSo_528 : decode cL_isSo 528 = .ok (.ldc2_w 117, 3) := by decide +kernel
theorem dL_isSo_531 : decode cL_isSo 531 = .ok (.land, 1) := by decide +kernel
theorem dL_isSo_532 : decode cL_isSo 532 = .ok (.lcmp, 1) := by decide +kernel
theorem dL_isSo_533 : decode cL_isSo 533 = .ok (.ifCond .ne 19, 3) := by decide +kernel
theorem dL_isSo_536 : decode cL_isSo 536 = .ok (.aload_n 0, 1) := by decide +kernel
theorem dL_isSo_537 : decode cL_isSo 537 = .ok (.iload 11, 2) := by decide +kernel
theorem dL_isSo_539 : decode cL_isSo 539 = .ok (.bipush 8, 2) := by decide +kernel
theorem dL_isSo_541 : decode cL_isSo 541 = .ok (.invokevirtual 114, 3) := by decide +kernel
theorem dL_isSo_544 : decode cL_isSo 544 = .ok (.iconst (-1), 1) := by decide +kernel
theorem dL_isSo_545 : decode cL_isSo 545 = .ok (.if_icmp .ne 7, 3) := by decide +kernel
theorem dL_isSo_548 : decode cL_isSo 548 = .ok (.iconst 1, 1) := by decide +kernel
theorem dL_isSo_549 : decode cL_isSo 549 = .ok (.goto 4, 3) := by decide +kernel
theorem dL_isSo_552 : decode cL_isSo 552 = .ok (.iconst 0, 1) := by decide +kernel
theorem dL_isSo_553 : decode cL_isSo 553 = .ok (.istore 6, 2) := by decide +kernel
theorem dL_isSo_555 : decode cL_isSo 555 = .ok (.iconst 0, 1) := by decide +kernel
theorem dL_isSo_556 : decode cL_isSo 556 = .ok (.istore 16, 2) := by decide +kernel
theorem dL_isSo_558 : decode cL_isSo 558 = .ok (.lload 12, 2) := by decide +kernel
theorem dL_isSo_560 : decode cL_isSo 560 = .ok (.invokestatic 15, 3) := by decide +kernel
theorem dL_isSo_563 : decode cL_isSo 563 = .ok (.iconst 2, 1) := by decide +kernel
theorem dL_isSo_564 : decode cL_isSo 564 = .ok (.if_icmp .ge 7, 3) := by decide +kernel
theorem dL_isSo_567 : decode cL_isSo 567 = .ok (.iconst 1, 1) := by decide +kernel
theorem dL_isSo_568 : decode cL_isSo 568 = .ok (.goto 4, 3) := by decide +kernel
theorem dL_isSo_571 : decode cL_isSo 571 = .ok (.iconst 0, 1) := by decide +kernel
theorem dL_isSo_572 : decode cL_isSo 572 = .ok (.istore 17, 2) := by decide +kernel
theorem dL_isSo_574 : decode cL_isSo 574 = .ok (.iconst 0, 1) := by decide +kernel
theorem dL_isSo_575 : decode cL_isSo 575 = .ok (.istore 18, 2) := by decide +kernel
theorem dL_isSo_577 : decode cL_isSo 577 = .ok (.iload 18, 2) := by decide +kernel
theorem dL_isSo_579 : decode cL_isSo 579 = .ok (.aload_n 1, 1) := by decide +kernel
theorem dL_isSo_580 : decode cL_isSo 580 = .ok (.iconst 2, 1) := by decide +kernel
theorem dL_isSo_581 : decode cL_isSo 581 = .ok (.iaload, 1) := by decide +kernel
theorem dL_isSo_582 : decode cL_isSo 582 = .ok (.if_icmp .ge 99, 3) := by decide +kernel
theorem dL_isSo_585 : decode cL_isSo 585 = .ok (.aload 4, 2) := by decide +kernel
theorem dL_isSo_587 : decode cL_isSo 587 = .ok (.iload 18, 2) := by decide +kernel
theorem dL_isSo_589 : decode cL_isSo 589 = .ok (.laload, 1) := by decide +kernel
theorem dL_isSo_590 : decode cL_isSo 590 = .ok (.invokestatic 15, 3) := by decide +kernel
theorem dL_isSo_593 : decode cL_isSo 593 = .ok (.iconst 2, 1) := by decide +kernel
theorem dL_isSo_594 : decode cL_isSo 594 = .ok (.if_icmp .ge 39, 3) := by decide +kernel
theorem dL_isSo_597 : decode cL_isSo 597 = .ok (.aload 4, 2) := by decide +kernel
theorem dL_isSo_599 : decode cL_isSo 599 = .ok (.iload 18, 2) := by decide +kernel
theorem dL_isSo_601 : decode cL_isSo 601 = .ok (.laload, 1) := by decide +kernel
theorem dL_isSo_602 : decode cL_isSo 602 = .ok (.invokestatic 27, 3) := by decide +kernel
theorem dL_isSo_605 : decode cL_isSo 605 = .ok (.lload 12, 2) := by decide +kernel
theorem dL_isSo_607 : decode cL_isSo 607 = .ok (.invokestatic 27, 3) := by decide +kernel
theorem dL_isSo_610 : decode cL_isSo 610 = .ok (.if_icmp .ne 23, 3) := by decide +kernel
theorem dL_isSo_613 : decode cL_isSo 613 = .ok (.aload 4, 2) := by decide +kernel
theorem dL_isSo_615 : decode cL_isSo 615 = .ok (.iload 18, 2) := by decide +kernel
theorem dL_isSo_617 : decode cL_isSo 617 = .ok (.laload, 1) := by decide +kernel
theorem dL_isSo_618 : decode cL_isSo 618 = .ok (.invokestatic 24, 3) := by decide +kernel
theorem dL_isSo_621 : decode cL_isSo 621 = .ok (.lload 12, 2) := by decide +kernel
theorem dL_isSo_623 : decode cL_isSo 623 = .ok (.invokestatic 24, 3) := by decide +kernel
theorem dL_isSo_626 : decode cL_isSo 626 = .ok (.if_icmp .ne 7, 3) := by decide +kernel
theorem dL_isSo_629 : decode cL_isSo 629 = .ok (.iconst 1, 1) := by decide +kernel
theorem dL_isSo_630 : decode cL_isSo 630 = .ok (.goto 4, 3) := by decide +kernel
theorem dL_isSo_633 : decode cL_isSo 633 = .ok (.iconst 0, 1) := by decide +kernel
theorem dL_isSo_634 : decode cL_isSo 634 = .ok (.istore 19, 2) := by decide +kernel
theorem dL_isSo_636 : decode cL_isSo 636 = .ok (.iload 16, 2) := by decide +kernel
theorem dL_isSo_638 : decode cL_isSo 638 = .ok (.iload 19, 2) := by decide +kernel
theorem dL_isSo_640 : decode cL_isSo 640 = .ok (.ifCond .eq 7, 3) := by decide +kernel
theorem dL_isSo_643 : decode cL_isSo 643 = .ok (.iconst 1, 1) := by decide +kernel
theorem dL_isSo_644 : decode cL_isSo 644 = .ok (.goto 4, 3) := by decide +kernel
theorem dL_isSo_647 : decode cL_isSo 647 = .ok (.iconst 0, 1) := by decide +kernel
theorem dL_isSo_648 : decode cL_isSo 648 = .ok (.iadd, 1) := by decide +kernel
theorem dL_isSo_649 : decode cL_isSo 649 = .ok (.istore 16, 2) := by decide +kernel
theorem dL_isSo_651 : decode cL_isSo 651 = .ok (.iload 17, 2) := by decide +kernel
theorem dL_isSo_653 : decode cL_isSo 653 = .ok (.ifCond .eq 19, 3) := by decide +kernel
theorem dL_isSo_656 : decode cL_isSo 656 = .ok (.iload 19, 2) := by decide +kernel
theorem dL_isSo_658 : decode cL_isSo 658 = .ok (.ifCond .eq 10, 3) := by decide +kernel
theorem dL_isSo_661 : decode cL_isSo 661 = .ok (.iload 18, 2) := by decide +kernel
theorem dL_isSo_663 : decode cL_isSo 663 = .ok (.iload 11, 2) := by decide +kernel
theorem dL_isSo_665 : decode cL_isSo 665 = .ok (.if_icmp .lt 7, 3) := by decide +kernel
theorem dL_isSo_668 : decode cL_isSo 668 = .ok (.iconst 1, 1) := by decide +kernel
theorem dL_isSo_669 : decode cL_isSo 669 = .ok (.goto 4, 3) := by decide +kernel
theorem dL_isSo_672 : decode cL_isSo 672 = .ok (.iconst 0, 1) := by decide +kernel
theorem dL_isSo_673 : decode cL_isSo 673 = .ok (.istore 17, 2) := by decide +kernel
theorem dL_isSo_675 : decode cL_isSo 675 = .ok (.iinc 18 1, 3) := by decide +kernel
theorem dL_isSo_678 : decode cL_isSo 678 = .ok (.goto (-101), 3) := by decide +kernel
theorem dL_isSo_681 : decode cL_isSo 681 = .ok (.iload 17, 2) := by decide +kernel
theorem dL_isSo_683 : decode cL_isSo 683 = .ok (.ifCond .eq 72, 3) := by decide +kernel
theorem dL_isSo_686 : decode cL_isSo 686 = .ok (.iload 6, 2) := by decide +kernel
theorem dL_isSo_688 : decode cL_isSo 688 = .ok (.ifCond .eq 61, 3) := by decide +kernel
theorem dL_isSo_691 : decode cL_isSo 691 = .ok (.aload_n 0, 1) := by decide +kernel
theorem dL_isSo_692 : decode cL_isSo 692 = .ok (.iload 10, 2) := by decide +kernel
theorem dL_isSo_694 : decode cL_isSo 694 = .ok (.iconst 0, 1) := by decide +kernel
theorem dL_isSo_695 : decode cL_isSo 695 = .ok (.invokevirtual 119, 3) := by decide +kernel
theorem dL_isSo_698 : decode cL_isSo 698 = .ok (.lload 12, 2) := by decide +kernel
theorem dL_isSo_700 : decode cL_isSo 700 = .ok (.invokestatic 27, 3) := by decide +kernel
theorem dL_isSo_703 : decode cL_isSo 703 = .ok (.if_icmp .ne 46, 3) := by decide +kernel
theorem dL_isSo_706 : decode cL_isSo 706 = .ok (.aload_n 0, 1) := by decide +kernel
theorem dL_isSo_707 : decode cL_isSo 707 = .ok (.iload 10, 2) := by decide +kernel
theorem dL_isSo_709 : decode cL_isSo 709 = .ok (.iconst 1, 1) := by decide +kernel
theorem dL_isSo_710 : decode cL_isSo 710 = .ok (.invokevirtual 119, 3) := by decide +kernel
theorem dL_isSo_713 : decode cL_isSo 713 = .ok (.lload 12, 2) := by decide +kernel
theorem dL_isSo_715 : decode cL_isSo 715 = .ok (.invokestatic 24, 3) := by decide +kernel
theorem dL_isSo_718 : decode cL_isSo 718 = .ok (.if_icmp .ne 31, 3) := by decide +kernel
theorem dL_isSo_721 : decode cL_isSo 721 = .ok (.aload_n 0, 1) := by decide +kernel
theorem dL_isSo_722 : decode cL_isSo 722 = .ok (.iload 10, 2) := by decide +kernel
theorem dL_isSo_724 : decode cL_isSo 724 = .ok (.iconst 2, 1) := by decide +kernel
theorem dL_isSo_725 : decode cL_isSo 725 = .ok (.invokevirtual 119, 3) := by decide +kernel
theorem dL_isSo_728 : decode cL_isSo 728 = .ok (.iload 16, 2) := by decide +kernel
theorem dL_isSo_730 : decode cL_isSo 730 = .ok (.if_icmp .ne 19, 3) := by decide +kernel
theorem dL_isSo_733 : decode cL_isSo 733 = .ok (.aload_n 0, 1) := by decide +kernel
theorem dL_isSo_734 : decode cL_isSo 734 = .ok (.iload 10, 2) := by decide +kernel
theorem dL_isSo_736 : decode cL_isSo 736 = .ok (.iconst 3, 1) := by decide +kernel
theorem dL_isSo_737 : decode cL_isSo 737 = .ok (.invokevirtual 119, 3) := by decide +kernel
theorem dL_isSo_740 : decode cL_isSo 740 = .ok (.iload 11, 2) := by decide +kernel
theorem dL_isSo_742 : decode cL_isSo 742 = .ok (.if_icmp .ne 7, 3) := by decide +kernel
theorem dL_isSo_745 : decode cL_isSo 745 = .ok (.iconst 1, 1) := by decide +kernel
theorem dL_isSo_746 : decode cL_isSo 746 = .ok (.goto 4, 3) := by decide +kernel
theorem dL_isSo_749 : decode cL_isSo 749 = .ok (.iconst 0, 1) := by decide +kernel
theorem dL_isSo_750 : decode cL_isSo 750 = .ok (.istore 6, 2) := by decide +kernel
theorem dL_isSo_752 : decode cL_isSo 752 = .ok (.iinc 10 1, 3) := by decide +kernel
theorem dL_isSo_755 : decode cL_isSo 755 = .ok (.iinc 11 1, 3) := by decide +kernel
theorem dL_isSo_758 : decode cL_isSo 758 = .ok (.goto (-426), 3) := by decide +kernel
theorem dL_isSo_761 : decode cL_isSo 761 = .ok (.iconst 0, 1) := by decide +kernel
theorem dL_isSo_762 : decode cL_isSo 762 = .ok (.istore 11, 2) := by decide +kernel
theorem dL_isSo_764 : decode cL_isSo 764 = .ok (.iload 11, 2) := by decide +kernel
theorem dL_isSo_766 : decode cL_isSo 766 = .ok (.iconst 4, 1) := by decide +kernel
theorem dL_isSo_767 : decode cL_isSo 767 = .ok (.if_icmp .ge 41, 3) := by decide +kernel
theorem dL_isSo_770 : decode cL_isSo 770 = .ok (.iload 6, 2) := by decide +kernel
theorem dL_isSo_772 : decode cL_isSo 772 = .ok (.ifCond .eq 27, 3) := by decide +kernel
theorem dL_isSo_775 : decode cL_isSo 775 = .ok (.aload_n 0, 1) := by decide +kernel
theorem dL_isSo_776 : decode cL_isSo 776 = .ok (.iconst 4, 1) := by decide +kernel
theorem dL_isSo_777 : decode cL_isSo 777 = .ok (.iload 11, 2) := by decide +kernel
theorem dL_isSo_779 : decode cL_isSo 779 = .ok (.iadd, 1) := by decide +kernel
theorem dL_isSo_780 : decode cL_isSo 780 = .ok (.invokevirtual 122, 3) := by decide +kernel
theorem dL_isSo_783 : decode cL_isSo 783 = .ok (.aload_n 1, 1) := by decide +kernel
theorem dL_isSo_784 : decode cL_isSo 784 = .ok (.aload 4, 2) := by decide +kernel
theorem dL_isSo_786 : decode cL_isSo 786 = .ok (.iconst (-1), 1) := by decide +kernel
theorem dL_isSo_787 : decode cL_isSo 787 = .ok (.iload 11, 2) := by decide +kernel
theorem dL_isSo_789 : decode cL_isSo 789 = .ok (.invokestatic 38, 3) := by decide +kernel
theorem dL_isSo_792 : decode cL_isSo 792 = .ok (.if_icmp .ne 7, 3) := by decide +kernel
theorem dL_isSo_795 : decode cL_isSo 795 = .ok (.iconst 1, 1) := by decide +kernel
theorem dL_isSo_796 : decode cL_isSo 796 = .ok (.goto 4, 3) := by decide +kernel
theorem dL_isSo_799 : decode cL_isSo 799 = .ok (.iconst 0, 1) := by decide +kernel
theorem dL_isSo_800 : decode cL_isSo 800 = .ok (.istore 6, 2) := by decide +kernel
theorem dL_isSo_802 : decode cL_isSo 802 = .ok (.iinc 11 1, 3) := by decide +kernel
theorem dL_isSo_805 : decode cL_isSo 805 = .ok (.goto (-41), 3) := by decide +kernel
theorem dL_isSo_808 : decode cL_isSo 808 = .ok (.iload 6, 2) := by decide +kernel
theorem dL_isSo_810 : decode cL_isSo 810 = .ok (.ifCond .eq 169, 3) := by decide +kernel
theorem dL_isSo_813 : decode cL_isSo 813 = .ok (.aload_n 0, 1) := by decide +kernel
theorem dL_isSo_814 : decode cL_isSo 814 = .ok (.iload 10, 2) := by decide +kernel
theorem dL_isSo_816 : decode cL_isSo 816 = .ok (.iconst 0, 1) := by decide +kernel
theorem dL_isSo_817 : decode cL_isSo 817 = .ok (.invokevirtual 119, 3) := by decide +kernel
theorem dL_isSo_820 : decode cL_isSo 820 = .ok (.bipush (-9), 2) := by decide +kernel
theorem dL_isSo_822 : decode cL_isSo 822 = .ok (.if_icmp .ne 157, 3) := by decide +kernel
theorem dL_isSo_825 : decode cL_isSo 825 = .ok (.aload_n 0, 1) := by decide +kernel
theorem dL_isSo_826 : decode cL_isSo 826 = .ok (.iconst (-1), 1) := by decide +kernel
theorem dL_isSo_827 : decode cL_isSo 827 = .ok (.iconst 0, 1) := by decide +kernel
theorem dL_isSo_828 : decode cL_isSo 828 = .ok (.invokevirtual 119, 3) := by decide +kernel
theorem dL_isSo_831 : decode cL_isSo 831 = .ok (.iconst (-1), 1) := by decide +kernel
theorem dL_isSo_832 : decode cL_isSo 832 = .ok (.if_icmp .ne 147, 3) := by decide +kernel
theorem dL_isSo_835 : decode cL_isSo 835 = .ok (.aload_n 0, 1) := by decide +kernel
theorem dL_isSo_836 : decode cL_isSo 836 = .ok (.iconst 0, 1) := by decide +kernel
theorem dL_isSo_837 : decode cL_isSo 837 = .ok (.iconst 4, 1) := by decide +kernel
theorem dL_isSo_838 : decode cL_isSo 838 = .ok (.invokevirtual 119, 3) := by decide +kernel
theorem dL_isSo_841 : decode cL_isSo 841 = .ok (.iconst (-1), 1) := by decide +kernel
theorem dL_isSo_842 : decode cL_isSo 842 = .ok (.if_icmp .ne 137, 3) := by decide +kernel
theorem dL_isSo_845 : decode cL_isSo 845 = .ok (.aload_n 0, 1) := by decide +kernel
theorem dL_isSo_846 : decode cL_isSo 846 = .ok (.iconst 0, 1) := by decide +kernel
theorem dL_isSo_847 : decode cL_isSo 847 = .ok (.invokevirtual 122, 3) := by decide +kernel
theorem dL_isSo_850 : decode cL_isSo 850 = .ok (.aload_n 1, 1) := by decide +kernel
theorem dL_isSo_851 : decode cL_isSo 851 = .ok (.iconst 0, 1) := by decide +kernel
theorem dL_isSo_852 : decode cL_isSo 852 = .ok (.iaload, 1) := by decide +kernel
theorem dL_isSo_853 : decode cL_isSo 853 = .ok (.if_icmp .ne 126, 3) := by decide +kernel
theorem dL_isSo_856 : decode cL_isSo 856 = .ok (.aload_n 0, 1) := by decide +kernel
theorem dL_isSo_857 : decode cL_isSo 857 = .ok (.iconst 1, 1) := by decide +kernel
theorem dL_isSo_858 : decode cL_isSo 858 = .ok (.invokevirtual 122, 3) := by decide +kernel
theorem dL_isSo_861 : decode cL_isSo 861 = .ok (.aload_n 1, 1) := by decide +kernel
theorem dL_isSo_862 : decode cL_isSo 862 = .ok (.iconst 0, 1) := by decide +kernel
theorem dL_isSo_863 : decode cL_isSo 863 = .ok (.iaload, 1) := by decide +kernel
theorem dL_isSo_864 : decode cL_isSo 864 = .ok (.bipush 60, 2) := by decide +kernel
theorem dL_isSo_866 : decode cL_isSo 866 = .ok (.idiv, 1) := by decide +kernel
theorem dL_isSo_867 : decode cL_isSo 867 = .ok (.bipush 24, 2) := by decide +kernel
theorem dL_isSo_869 : decode cL_isSo 869 = .ok (.irem, 1) := by decide +kernel
theorem dL_isSo_870 : decode cL_isSo 870 = .ok (.if_icmp .ne 109, 3) := by decide +kernel
theorem dL_isSo_873 : decode cL_isSo 873 = .ok (.aload_n 0, 1) := by decide +kernel
theorem dL_isSo_874 : decode cL_isSo 874 = .ok (.iconst 2, 1) := by decide +kernel
theorem dL_isSo_875 : decode cL_isSo 875 = .ok (.invokevirtual 122, 3) := by decide +kernel
theorem dL_isSo_878 : decode cL_isSo 878 = .ok (.aload_n 1, 1) := by decide +kernel
theorem dL_isSo_879 : decode cL_isSo 879 = .ok (.iconst 1, 1) := by decide +kernel
theorem dL_isSo_880 : decode cL_isSo 880 = .ok (.iaload, 1) := by decide +kernel
theorem dL_isSo_881 : decode cL_isSo 881 = .ok (.if_icmp .ne 98, 3) := by decide +kernel
theorem dL_isSo_884 : decode cL_isSo 884 = .ok (.aload_n 0, 1) := by decide +kernel
theorem dL_isSo_885 : decode cL_isSo 885 = .ok (.iconst 3, 1) := by decide +kernel
theorem dL_isSo_886 : decode cL_isSo 886 = .ok (.invokevirtual 122, 3) := by decide +kernel
theorem dL_isSo_889 : decode cL_isSo 889 = .ok (.aload_n 1, 1) := by decide +kernel
theorem dL_isSo_890 : decode cL_isSo 890 = .ok (.iconst 2, 1) := by decide +kernel
theorem dL_isSo_891 : decode cL_isSo 891 = .ok (.iaload, 1) := by decide +kernel
theorem dL_isSo_892 : decode cL_isSo 892 = .ok (.if_icmp .ne 87, 3) := by decide +kernel
theorem dL_isSo_895 : decode cL_isSo 895 = .ok (.aload_n 0, 1) := by decide +kernel
theorem dL_isSo_896 : decode cL_isSo 896 = .ok (.bipush 8, 2) := by decide +kernel
theorem dL_isSo_898 : decode cL_isSo 898 = .ok (.invokevirtual 122, 3) := by decide +kernel
theorem dL_isSo_901 : decode cL_isSo 901 = .ok (.iload 10, 2) := by decide +kernel
theorem dL_isSo_903 : decode cL_isSo 903 = .ok (.if_icmp .ne 76, 3) := by decide +kernel
theorem dL_isSo_906 : decode cL_isSo 906 = .ok (.aload_n 0, 1) := by decide +kernel
theorem dL_isSo_907 : decode cL_isSo 907 = .ok (.bipush 9, 2) := by decide +kernel
theorem dL_isSo_909 : decode cL_isSo 909 = .ok (.invokevirtual 122, 3) := by decide +kernel
theorem dL_isSo_912 : decode cL_isSo 912 = .ok (.iload 7, 2) := by decide +kernel
theorem dL_isSo_914 : decode cL_isSo 914 = .ok (.if_icmp .ne 65, 3) := by decide +kernel
theorem dL_isSo_917 : decode cL_isSo 917 = .ok (.aload_n 0, 1) := by decide +kernel
theorem dL_isSo_918 : decode cL_isSo 918 = .ok (.bipush 10, 2) := by decide +kernel
theorem dL_isSo_920 : decode cL_isSo 920 = .ok (.invokevirtual 122, 3) := by decide +kernel
theorem dL_isSo_923 : decode cL_isSo 923 = .ok (.aload_n 1, 1) := by decide +kernel
theorem dL_isSo_924 : decode cL_isSo 924 = .ok (.iconst 3, 1) := by decide +kernel
theorem dL_isSo_925 : decode cL_isSo 925 = .ok (.iaload, 1) := by decide +kernel
theorem dL_isSo_926 : decode cL_isSo 926 = .ok (.if_icmp .ne 53, 3) := by decide +kernel
theorem dL_isSo_929 : decode cL_isSo 929 = .ok (.aload_n 0, 1) := by decide +kernel
theorem dL_isSo_930 : decode cL_isSo 930 = .ok (.bipush 11, 2) := by decide +kernel
theorem dL_isSo_932 : decode cL_isSo 932 = .ok (.invokevirtual 122, 3) := by decide +kernel
theorem dL_isSo_935 : decode cL_isSo 935 = .ok (.iload 8, 2) := by decide +kernel
theorem dL_isSo_937 : decode cL_isSo 937 = .ok (.if_icmp .ne 42, 3) := by decide +kernel
theorem dL_isSo_940 : decode cL_isSo 940 = .ok (.aload_n 0, 1) := by decide +kernel
theorem dL_isSo_941 : decode cL_isSo 941 = .ok (.bipush 12, 2) := by decide +kernel
theorem dL_isSo_943 : decode cL_isSo 943 = .ok (.invokevirtual 122, 3) := by decide +kernel
theorem dL_isSo_946 : decode cL_isSo 946 = .ok (.iload 9, 2) := by decide +kernel
theorem dL_isSo_948 : decode cL_isSo 948 = .ok (.if_icmp .ne 31, 3) := by decide +kernel
theorem dL_isSo_951 : decode cL_isSo 951 = .ok (.aload_n 0, 1) := by decide +kernel
theorem dL_isSo_952 : decode cL_isSo 952 = .ok (.aload_n 1, 1) := by decide +kernel
theorem dL_isSo_953 : decode cL_isSo 953 = .ok (.iconst 1, 1) := by decide +kernel
theorem dL_isSo_954 : decode cL_isSo 954 = .ok (.iaload, 1) := by decide +kernel
theorem dL_isSo_955 : decode cL_isSo 955 = .ok (.iconst 0, 1) := by decide +kernel
theorem dL_isSo_956 : decode cL_isSo 956 = .ok (.invokevirtual 109, 3) := by decide +kernel
theorem dL_isSo_959 : decode cL_isSo 959 = .ok (.iconst (-1), 1) := by decide +kernel
theorem dL_isSo_960 : decode cL_isSo 960 = .ok (.if_icmp .ne 19, 3) := by decide +kernel
theorem dL_isSo_963 : decode cL_isSo 963 = .ok (.aload_n 0, 1) := by decide +kernel
theorem dL_isSo_964 : decode cL_isSo 964 = .ok (.aload_n 1, 1) := by decide +kernel
theorem dL_isSo_965 : decode cL_isSo 965 = .ok (.iconst 2, 1) := by decide +kernel
theorem dL_isSo_966 : decode cL_isSo 966 = .ok (.iaload, 1) := by decide +kernel
theorem dL_isSo_967 : decode cL_isSo 967 = .ok (.iconst 0, 1) := by decide +kernel
theorem dL_isSo_968 : decode cL_isSo 968 = .ok (.invokevirtual 114, 3) := by decide +kernel
theorem dL_isSo_971 : decode cL_isSo 971 = .ok (.iconst (-1), 1) := by decide +kernel
theorem dL_isSo_972 : decode cL_isSo 972 = .ok (.if_icmp .ne 7, 3) := by decide +kernel
theorem dL_isSo_975 : decode cL_isSo 975 = .ok (.iconst 1, 1) := by decide +kernel
theorem dL_isSo_976 : decode cL_isSo 976 = .ok (.goto 4, 3) := by decide +kernel
theorem dL_isSo_979 : decode cL_isSo 979 = .ok (.iconst 0, 1) := by decide +kernel
theorem dL_isSo_980 : decode cL_isSo 980 = .ok (.ireturn, 1) := by decide +kernel
set_option maxRecDepth 100000 in
theorem ggL_law_X4_init : GoodIn wsL_law wsX4_init := goodIn_app (a := [.code yX4_init cX4_init 1 none]) (goodIn_r [.code yX4_init cX4_init 1 none] [8] rfl (by decide +kernel)) (goodIn_app (goodIn_app (goodIn_app (goodIn_app (goodIn_app (goodIn_app (goodIn_r wsX4_init_r1 [9, 10, 11, 12, 13, 14, 15, 16, 17, 18, 19, 20, 21, 22, 23, 24, 3, 25, 26, 27, 28, 29, 30, 31] rfl (by decide +kernel)) (goodIn_app (goodIn_r wsX4_init_r2 [32, 33, 34, 35, 36, 37, 38, 39, 40, 41, 42, 43, 44, 45, 46, 47, 48, 49, 50, 51, 52, 53, 54, 55] rfl (by decide +kernel)) (goodIn_r wsX4_init_r3 [56, 57, 58, 59, 60] rfl (by decide +kernel)))) (goodIn_r wsX30 [403, 404, 405, 406] rfl (by decide +kernel))) (goodIn_r wsX40 [400, 401, 402] rfl (by decide +kernel))) (goodIn_r wsX20 [407, 408, 409] rfl (by decide +kernel))) (goodIn_r wsX10 [410, 411, 412, 413, 414, 415, 416, 417] rfl (by decide +kernel))) (goodIn_r wsX00 [418, 419, 420, 421, 422, 423, 424, 425, 426] rfl (by decide +kernel)))
set_option maxRecDepth 20000 in
theorem gL_law_X4_init : GoodIn wsL_law (wsX4_init) := ggL_law_X4_init
set_option maxRecDepth 100000 in
theorem ggL_law_L_isSo : GoodIn wsL_law wsL_isSo := goodIn_app (a := [.code yL_isSo cL_isSo 20 (some .boolean)]) (goodIn_r [.code yL_isSo cL_isSo 20 (some .boolean)] [64] rfl (by decide +kernel)) (goodIn_app (goodIn_app (goodIn_app (goodIn_app (goodIn_app (goodIn_app (goodIn_r wsL_isSo_r1 [65, 66, 67, 68, 69, 2, 70, 15, 71, 72, 73, 74, 75, 76, 77, 78, 28, 79, 80, 81, 82, 83, 32, 84] rfl (by decide +kernel)) (goodIn_app (goodIn_r wsL_isSo_r2 [85, 48, 49, 86, 87, 88, 89, 46, 47, 90, 91, 92, 93, 94, 95, 96, 97, 98, 99, 100, 101, 102, 103, 104] rfl (by decide +kernel)) (goodIn_app (goodIn_r wsL_isSo_r3 [105, 106, 107, 108, 109, 110, 111, 112, 113, 114, 115, 116, 117, 118, 14, 119, 25, 120, 121, 122, 123, 124, 125, 126] rfl (by decide +kernel)) (goodIn_app (goodIn_r wsL_isSo_r4 [63, 127, 128, 129, 130, 131, 132, 133, 134, 135, 136, 137, 138, 139, 140, 141, 142, 143, 144, 145, 146, 147, 148, 149] rfl (by decide +kernel)) (goodIn_app (goodIn_r wsL_isSo_r5 [150, 151, 152, 153, 154, 155, 156, 157, 158, 159, 160, 161, 162, 163, 164, 165, 166, 167, 168, 169, 170, 171, 172, 173] rfl (by decide +kernel)) (goodIn_app (goodIn_r wsL_isSo_r6 [174, 175, 176, 177, 178, 179, 180, 181, 182, 183, 184, 185, 186, 187, 188, 189, 190, 191, 192, 193, 194, 195, 196, 20] rfl (by decide +kernel)) (goodIn_r wsL_isSo_r7 [197, 198, 199, 200, 201, 202, 203, 204, 205, 206, 207, 208, 209, 210, 42, 211, 212, 213, 214, 41] rfl (by decide +kernel)))))))) (goodIn_r wsX40 [400, 401, 402] rfl (by decide +kernel))) (goodIn_r wsX30 [403, 404, 405, 406] rfl (by decide +kernel))) (goodIn_r wsX10 [410, 411, 412, 413, 414, 415, 416, 417] rfl (by decide +kernel))) (goodIn_r wsX00 [418, 419, 420, 421, 422, 423, 424, 425, 426] rfl (by decide +kernel))) (goodIn_r wsX20 [407, 408, 409] rfl (by decide +kernel)))
set_option maxRecDepth 20000 in
theorem gL_law_L_isSo : GoodIn wsL_law (va_wsS RL 126 yL_isSo wsL_isSo) := goodIn_app (goodIn_of _ (by decide +kernel)) ggL_law_L_isSo
set_option maxRecDepth 20000 in
theorem ggL_law_L_cell : GoodIn wsL_law wsL_cell := goodIn_r _ [217, 218] (by decide +kernel) (by decide +kernel)
set_option maxRecDepth 20000 in
theorem gL_law_L_cell : GoodIn wsL_law (va_wsS RL 130 yL_cell wsL_cell) := goodIn_app (goodIn_of _ (by decide +kernel)) ggL_law_L_cell
set_option maxRecDepth 100000 in
theorem ggL_law_L_acts : GoodIn wsL_law wsL_acts := goodIn_app (a := [.code yL_acts cL_acts 11 (some .boolean)]) (goodIn_r [.code yL_acts cL_acts 11 (some .boolean)] [221] rfl (by decide +kernel)) (goodIn_app (goodIn_app (goodIn_app (goodIn_app (goodIn_app (goodIn_app (goodIn_r wsL_acts_r1 [222, 223, 224, 63, 225, 5, 226, 227, 228, 229, 230, 231, 2, 232, 15, 71, 194, 20, 233, 234, 235, 236, 237, 238] rfl (by decide +kernel)) (goodIn_app (goodIn_r wsL_acts_r2 [19, 239, 59, 240, 241, 242, 243, 114, 244, 245, 246, 247, 14, 248, 124, 25, 249, 250, 251, 252, 29, 33, 253, 254] rfl (by decide +kernel)) (goodIn_app (goodIn_r wsL_acts_r3 [255, 28, 256, 80, 257, 37, 258, 38, 39, 40, 41, 42, 259, 260, 261, 32, 262, 85, 46, 263, 47, 48, 49, 50] rfl (by decide +kernel)) (goodIn_app (goodIn_r wsL_acts_r4 [51, 52, 53, 264, 265, 266, 267, 268, 269, 270, 271, 272, 273, 274, 275, 276, 277, 278, 279, 280, 73, 74, 76, 77] rfl (by decide +kernel)) (goodIn_app (goodIn_r wsL_acts_r5 [78, 79, 281, 282, 283, 284, 285, 82, 83, 84, 286, 287, 288, 289, 290, 291, 292, 293, 294, 295, 296, 297, 298, 299] rfl (by decide +kernel)) (goodIn_app (goodIn_r wsL_acts_r6 [94, 95, 96, 97, 90, 91, 92, 93, 199, 200, 201, 202, 300, 301, 302, 303, 72, 125, 126, 127, 128, 129, 130, 131] rfl (by decide +kernel)) (goodIn_app (goodIn_r wsL_acts_r7 [132, 133, 134, 135, 304, 305, 306, 307, 308, 309, 139, 140, 141, 142, 310, 311, 312, 313, 195, 193, 314, 315, 316, 317] rfl (by decide +kernel)) (goodIn_app (goodIn_r wsL_acts_r8 [318, 319, 320, 321, 322, 323, 324, 325, 326, 117, 118, 119, 120, 121, 122, 123, 327, 328, 329, 330, 331, 332, 333, 334] rfl (by decide +kernel)) (goodIn_app (goodIn_r wsL_acts_r9 [335, 113, 115, 336, 87, 88, 89, 337, 99, 100, 101, 102, 103, 104, 338, 339, 340, 341, 342, 343, 344, 345, 346, 347] rfl (by decide +kernel)) (goodIn_app (goodIn_r wsL_acts_r10 [162, 163, 164, 348, 349, 350, 351, 143, 144, 145, 352, 353, 354, 355, 356, 357, 358, 359, 360, 136, 137, 138, 361, 362] rfl (by decide +kernel)) (goodIn_app (goodIn_r wsL_acts_r11 [363, 364, 365, 366, 146, 147, 148, 367, 368, 369, 370, 371, 372, 373, 374, 375, 376, 377, 378, 379, 380, 381, 382, 383] rfl (by decide +kernel)) (goodIn_r wsL_acts_r12 [384, 385, 386, 387, 388, 389, 390, 391, 392, 393, 394, 395, 106, 107, 108, 109, 110, 111, 112, 396, 397, 398, 399] rfl (by decide +kernel))))))))))))) (goodIn_r wsX40 [400, 401, 402] rfl (by decide +kernel))) (goodIn_r wsX30 [403, 404, 405, 406] rfl (by decide +kernel))) (goodIn_r wsX10 [410, 411, 412, 413, 414, 415, 416, 417] rfl (by decide +kernel))) (goodIn_r wsX20 [407, 408, 409] rfl (by decide +kernel))) (goodIn_r wsX00 [418, 419, 420, 421, 422, 423, 424, 425, 426] rfl (by decide +kernel)))
set_option maxRecDepth 20000 in
theorem gL_law_L_acts : GoodIn wsL_law (va_wsS RL 134 yL_acts wsL_acts) := goodIn_app (goodIn_of _ (by decide +kernel)) ggL_law_L_acts
set_option maxRecDepth 20000 in
theorem ggL_law_L_low : GoodIn wsL_law wsL_low := goodIn_r _ [225, 5] (by decide +kernel) (by decide +kernel)
set_option maxRecDepth 20000 in
theorem gL_law_L_low : GoodIn wsL_law (va_wsS RL 92 yL_low wsL_low) := goodIn_app (goodIn_of _ (by decide +kernel)) ggL_law_L_low
set_option maxRecDepth 100000 in
theorem ggL_law_X4_count : GoodIn wsL_law wsX4_count := goodIn_app (a := [.code yX4_count cX4_count 2 (some .int)]) (goodIn_r [.code yX4_count cX4_count 2 (some .int)] [192] rfl (by decide +kernel)) (goodIn_app (goodIn_app (goodIn_app (goodIn_app (goodIn_app (goodIn_app (goodIn_r wsX4_count_r1 [15, 193, 71, 194, 74, 195, 196, 20, 197, 198, 121, 122, 14, 123, 124, 199, 200, 201, 32, 202, 85, 48, 203, 204] rfl (by decide +kernel)) (goodIn_app (goodIn_r wsX4_count_r2 [205, 206, 173, 174, 175, 176, 177, 178, 179, 180, 46, 47, 181, 182, 183, 184, 207, 208, 209, 28, 210, 80, 42, 211] rfl (by decide +kernel)) (goodIn_r wsX4_count_r3 [212, 213, 214, 41] rfl (by decide +kernel)))) (goodIn_r wsX40 [400, 401, 402] rfl (by decide +kernel))) (goodIn_r wsX30 [403, 404, 405, 406] rfl (by decide +kernel))) (goodIn_r wsX10 [410, 411, 412, 413, 414, 415, 416, 417] rfl (by decide +kernel))) (goodIn_r wsX00 [418, 419, 420, 421, 422, 423, 424, 425, 426] rfl (by decide +kernel))) (goodIn_r wsX20 [407, 408, 409] rfl (by decide +kernel)))
set_option maxRecDepth 20000 in
theorem gL_law_X4_count : GoodIn wsL_law (wsV RL 122 RX4 yX4_count wsX4_count) := goodIn_app (goodIn_of _ (by decide +kernel)) ggL_law_X4_count
theorem dL_law_0 : decode cL_law 0 = .ok (.new 70, 3) := by decide +kernel
theorem dL_law_3 : decode cL_law 3 = .ok (.dup, 1) := by decide +kernel
theorem dL_law_4 : decode cL_law 4 = .ok (.invokespecial 125, 3) := by decide +kernel
theorem dL_law_7 : decode cL_law 7 = .ok (.astore_n 1, 1) := by decide +kernel
theorem dL_law_8 : decode cL_law 8 = .ok (.iconst 4, 1) := by decide +kernel
theorem dL_law_9 : decode cL_law 9 = .ok (.newarray .int, 2) := by decide +kernel
theorem dL_law_11 : decode cL_law 11 = .ok (.astore_n 2, 1) := by decide +kernel
theorem dL_law_12 : decode cL_law 12 = .ok (.bipush 24, 2) := by decide +kernel
theorem dL_law_14 : decode cL_law 14 = .ok (.newarray .int, 2) := by decide +kernel
theorem dL_law_16 : decode cL_law 16 = .ok (.astore_n 3, 1) := by decide +kernel
theorem dL_law_17 : decode cL_law 17 = .ok (.bipush 30, 2) := by decide +kernel
theorem dL_law_19 : decode cL_law 19 = .ok (.newarray .int, 2) := by decide +kernel
theorem dL_law_21 : decode cL_law 21 = .ok (.astore 4, 2) := by decide +kernel
theorem dL_law_23 : decode cL_law 23 = .ok (.bipush 40, 2) := by decide +kernel
theorem dL_law_25 : decode cL_law 25 = .ok (.newarray .long, 2) := by decide +kernel
theorem dL_law_27 : decode cL_law 27 = .ok (.astore 5, 2) := by decide +kernel
theorem dL_law_29 : decode cL_law 29 = .ok (.bipush 40, 2) := by decide +kernel
theorem dL_law_31 : decode cL_law 31 = .ok (.newarray .long, 2) := by decide +kernel
theorem dL_law_33 : decode cL_law 33 = .ok (.astore 6, 2) := by decide +kernel
theorem dL_law_35 : decode cL_law 35 = .ok (.iconst 0, 1) := by decide +kernel
theorem dL_law_36 : decode cL_law 36 = .ok (.istore 7, 2) := by decide +kernel
theorem dL_law_38 : decode cL_law 38 = .ok (.iload 7, 2) := by decide +kernel
theorem dL_law_40 : decode cL_law 40 = .ok (.bipush 24, 2) := by decide +kernel
theorem dL_law_42 : decode cL_law 42 = .ok (.if_icmp .ge 14, 3) := by decide +kernel
theorem dL_law_45 : decode cL_law 45 = .ok (.aload_n 3, 1) := by decide +kernel
theorem dL_law_46 : decode cL_law 46 = .ok (.iload 7, 2) := by decide +kernel
theorem dL_law_48 : decode cL_law 48 = .ok (.iconst 5, 1) := by decide +kernel
theorem dL_law_49 : decode cL_law 49 = .ok (.iastore, 1) := by decide +kernel
theorem dL_law_50 : decode cL_law 50 = .ok (.iinc 7 1, 3) := by decide +kernel
theorem dL_law_53 : decode cL_law 53 = .ok (.goto (-15), 3) := by decide +kernel
theorem dL_law_56 : decode cL_law 56 = .ok (.aload_n 1, 1) := by decide +kernel
theorem dL_law_57 : decode cL_law 57 = .ok (.aload_n 2, 1) := by decide +kernel
theorem dL_law_58 : decode cL_law 58 = .ok (.aload_n 3, 1) := by decide +kernel
theorem dL_law_59 : decode cL_law 59 = .ok (.aload 4, 2) := by decide +kernel
theorem dL_law_61 : decode cL_law 61 = .ok (.aload 5, 2) := by decide +kernel
theorem dL_law_63 : decode cL_law 63 = .ok (.aload 6, 2) := by decide +kernel
theorem dL_law_65 : decode cL_law 65 = .ok (.invokestatic 126, 3) := by decide +kernel
theorem dL_law_68 : decode cL_law 68 = .ok (.istore 7, 2) := by decide +kernel
theorem dL_law_70 : decode cL_law 70 = .ok (.iconst 0, 1) := by decide +kernel
theorem dL_law_71 : decode cL_law 71 = .ok (.istore 8, 2) := by decide +kernel
theorem dL_law_73 : decode cL_law 73 = .ok (.iload 8, 2) := by decide +kernel
theorem dL_law_75 : decode cL_law 75 = .ok (.bipush 8, 2) := by decide +kernel
theorem dL_law_77 : decode cL_law 77 = .ok (.if_icmp .ge 60, 3) := by decide +kernel
theorem dL_law_80 : decode cL_law 80 = .ok (.iload 7, 2) := by decide +kernel
theorem dL_law_82 : decode cL_law 82 = .ok (.ifCond .eq 55, 3) := by decide +kernel
theorem dL_law_85 : decode cL_law 85 = .ok (.aload_n 1, 1) := by decide +kernel
theorem dL_law_86 : decode cL_law 86 = .ok (.aload_n 2, 1) := by decide +kernel
theorem dL_law_87 : decode cL_law 87 = .ok (.aload_n 3, 1) := by decide +kernel
theorem dL_law_88 : decode cL_law 88 = .ok (.aload 4, 2) := by decide +kernel
theorem dL_law_90 : decode cL_law 90 = .ok (.aload 5, 2) := by decide +kernel
theorem dL_law_92 : decode cL_law 92 = .ok (.aload 6, 2) := by decide +kernel
theorem dL_law_94 : decode cL_law 94 = .ok (.aload_n 0, 1) := by decide +kernel
theorem dL_law_95 : decode cL_law 95 = .ok (.iconst 1, 1) := by decide +kernel
theorem dL_law_96 : decode cL_law 96 = .ok (.iload 8, 2) := by decide +kernel
theorem dL_law_98 : decode cL_law 98 = .ok (.iadd, 1) := by decide +kernel
theorem dL_law_99 : decode cL_law 99 = .ok (.invokestatic 130, 3) := by decide +kernel
theorem dL_law_102 : decode cL_law 102 = .ok (.ldc 8, 2) := by decide +kernel
theorem dL_law_104 : decode cL_law 104 = .ok (.iand, 1) := by decide +kernel
theorem dL_law_105 : decode cL_law 105 = .ok (.sipush 768, 3) := by decide +kernel
theorem dL_law_108 : decode cL_law 108 = .ok (.idiv, 1) := by decide +kernel
theorem dL_law_109 : decode cL_law 109 = .ok (.sipush 768, 3) := by decide +kernel
theorem dL_law_112 : decode cL_law 112 = .ok (.imul, 1) := by decide +kernel
theorem dL_law_113 : decode cL_law 113 = .ok (.iload 8, 2) := by decide +kernel
theorem dL_law_115 : decode cL_law 115 = .ok (.iconst 3, 1) := by decide +kernel
theorem dL_law_116 : decode cL_law 116 = .ok (.if_icmp .ge 7, 3) := by decide +kernel
theorem dL_law_119 : decode cL_law 119 = .ok (.iconst 0, 1) := by decide +kernel
theorem dL_law_120 : decode cL_law 120 = .ok (.goto 5, 3) := by decide +kernel
theorem dL_law_123 : decode cL_law 123 = .ok (.bipush 8, 2) := by decide +kernel
theorem dL_law_125 : decode cL_law 125 = .ok (.iadd, 1) := by decide +kernel
theorem dL_law_126 : decode cL_law 126 = .ok (.invokestatic 134, 3) := by decide +kernel
theorem dL_law_129 : decode cL_law 129 = .ok (.istore 7, 2) := by decide +kernel
theorem dL_law_131 : decode cL_law 131 = .ok (.iinc 8 1, 3) := by decide +kernel
theorem dL_law_134 : decode cL_law 134 = .ok (.goto (-61), 3) := by decide +kernel
theorem dL_law_137 : decode cL_law 137 = .ok (.bipush 8, 2) := by decide +kernel
theorem dL_law_139 : decode cL_law 139 = .ok (.aload_n 0, 1) := by decide +kernel
theorem dL_law_140 : decode cL_law 140 = .ok (.iconst 0, 1) := by decide +kernel
theorem dL_law_141 : decode cL_law 141 = .ok (.invokestatic 130, 3) := by decide +kernel
theorem dL_law_144 : decode cL_law 144 = .ok (.bipush 48, 2) := by decide +kernel
theorem dL_law_146 : decode cL_law 146 = .ok (.invokestatic 92, 3) := by decide +kernel
theorem dL_law_149 : decode cL_law 149 = .ok (.iadd, 1) := by decide +kernel
theorem dL_law_150 : decode cL_law 150 = .ok (.istore 8, 2) := by decide +kernel
theorem dL_law_152 : decode cL_law 152 = .ok (.iconst 0, 1) := by decide +kernel
theorem dL_law_153 : decode cL_law 153 = .ok (.istore 9, 2) := by decide +kernel
theorem dL_law_155 : decode cL_law 155 = .ok (.iload 9, 2) := by decide +kernel
theorem dL_law_157 : decode cL_law 157 = .ok (.iload 8, 2) := by decide +kernel
theorem dL_law_159 : decode cL_law 159 = .ok (.if_icmp .ge 67, 3) := by decide +kernel
theorem dL_law_162 : decode cL_law 162 = .ok (.iload 7, 2) := by decide +kernel
theorem dL_law_164 : decode cL_law 164 = .ok (.ifCond .eq 62, 3) := by decide +kernel
theorem dL_law_167 : decode cL_law 167 = .ok (.aload_n 1, 1) := by decide +kernel
theorem dL_law_168 : decode cL_law 168 = .ok (.aload_n 2, 1) := by decide +kernel
theorem dL_law_169 : decode cL_law 169 = .ok (.aload_n 3, 1) := by decide +kernel
theorem dL_law_170 : decode cL_law 170 = .ok (.aload 4, 2) := by decide +kernel
theorem dL_law_172 : decode cL_law 172 = .ok (.aload 5, 2) := by decide +kernel
theorem dL_law_174 : decode cL_law 174 = .ok (.aload 6, 2) := by decide +kernel
theorem dL_law_176 : decode cL_law 176 = .ok (.aload_n 0, 1) := by decide +kernel
theorem dL_law_177 : decode cL_law 177 = .ok (.bipush 9, 2) := by decide +kernel
theorem dL_law_179 : decode cL_law 179 = .ok (.iload 9, 2) := by decide +kernel
theorem dL_law_181 : decode cL_law 181 = .ok (.iadd, 1) := by decide +kernel
theorem dL_law_182 : decode cL_law 182 = .ok (.invokestatic 130, 3) := by decide +kernel
theorem dL_law_185 : decode cL_law 185 = .ok (.sipush 7919, 3) := by decide +kernel
theorem dL_law_188 : decode cL_law 188 = .ok (.iload 9, 2) := by decide +kernel
theorem dL_law_190 : decode cL_law 190 = .ok (.imul, 1) := by decide +kernel
theorem dL_law_191 : decode cL_law 191 = .ok (.ixor, 1) := by decide +kernel
theorem dL_law_192 : decode cL_law 192 = .ok (.invokestatic 134, 3) := by decide +kernel
theorem dL_law_195 : decode cL_law 195 = .ok (.ifCond .eq 22, 3) := by decide +kernel
theorem dL_law_198 : decode cL_law 198 = .ok (.aload_n 1, 1) := by decide +kernel
theorem dL_law_199 : decode cL_law 199 = .ok (.aload_n 2, 1) := by decide +kernel
theorem dL_law_200 : decode cL_law 200 = .ok (.aload_n 3, 1) := by decide +kernel
theorem dL_law_201 : decode cL_law 201 = .ok (.aload 4, 2) := by decide +kernel
theorem dL_law_203 : decode cL_law 203 = .ok (.aload 5, 2) := by decide +kernel
theorem dL_law_205 : decode cL_law 205 = .ok (.aload 6, 2) := by decide +kernel
theorem dL_law_207 : decode cL_law 207 = .ok (.invokestatic 126, 3) := by decide +kernel
theorem dL_law_210 : decode cL_law 210 = .ok (.ifCond .eq 7, 3) := by decide +kernel
theorem dL_law_213 : decode cL_law 213 = .ok (.iconst 1, 1) := by decide +kernel
theorem dL_law_214 : decode cL_law 214 = .ok (.goto 4, 3) := by decide +kernel
theorem dL_law_217 : decode cL_law 217 = .ok (.iconst 0, 1) := by decide +kernel
theorem dL_law_218 : decode cL_law 218 = .ok (.istore 7, 2) := by decide +kernel
theorem dL_law_220 : decode cL_law 220 = .ok (.iinc 9 1, 3) := by decide +kernel
theorem dL_law_223 : decode cL_law 223 = .ok (.goto (-68), 3) := by decide +kernel
theorem dL_law_226 : decode cL_law 226 = .ok (.iload 7, 2) := by decide +kernel
theorem dL_law_228 : decode cL_law 228 = .ok (.ifCond .eq 26, 3) := by decide +kernel
theorem dL_law_231 : decode cL_law 231 = .ok (.aload_n 1, 1) := by decide +kernel
theorem dL_law_232 : decode cL_law 232 = .ok (.bipush 14, 2) := by decide +kernel
theorem dL_law_234 : decode cL_law 234 = .ok (.invokevirtual 122, 3) := by decide +kernel
theorem dL_law_237 : decode cL_law 237 = .ok (.iconst (-1), 1) := by decide +kernel
theorem dL_law_238 : decode cL_law 238 = .ok (.if_icmp .ne 16, 3) := by decide +kernel
theorem dL_law_241 : decode cL_law 241 = .ok (.aload_n 1, 1) := by decide +kernel
theorem dL_law_242 : decode cL_law 242 = .ok (.iconst (-1), 1) := by decide +kernel
theorem dL_law_243 : decode cL_law 243 = .ok (.invokevirtual 122, 3) := by decide +kernel
theorem dL_law_246 : decode cL_law 246 = .ok (.iconst (-1), 1) := by decide +kernel
theorem dL_law_247 : decode cL_law 247 = .ok (.if_icmp .ne 7, 3) := by decide +kernel
theorem dL_law_250 : decode cL_law 250 = .ok (.iconst 1, 1) := by decide +kernel
theorem dL_law_251 : decode cL_law 251 = .ok (.goto 4, 3) := by decide +kernel
theorem dL_law_254 : decode cL_law 254 = .ok (.iconst 0, 1) := by decide +kernel
theorem dL_law_255 : decode cL_law 255 = .ok (.ireturn, 1) := by decide +kernel
