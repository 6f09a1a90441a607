theorem dL_law_0 : decode code 0 = .ok (.new 8, 3) := by decide +kernel
theorem dL_law_3 : decode code 3 = .ok (.dup, 1) := by decide +kernel
theorem dL_law_4 : decode code 4 = .ok (.aload_n 0, 1) := by decide +kernel
theorem dL_law_5 : decode code 5 = .ok (.iconst 0, 1) := by decide +kernel
theorem dL_law_6 : decode code 6 = .ok (.invokestatic 53, 3) := by decide +kernel
theorem dL_law_9 : decode code 9 = .ok (.invokespecial 59, 3) := by decide +kernel
theorem dL_law_12 : decode code 12 = .ok (.astore_n 1, 1) := by decide +kernel
theorem dL_law_13 : decode code 13 = .ok (.new 62, 3) := by decide +kernel
theorem dL_law_16 : decode code 16 = .ok (.dup, 1) := by decide +kernel
theorem dL_law_17 : decode code 17 = .ok (.aload_n 0, 1) := by decide +kernel
theorem dL_law_18 : decode code 18 = .ok (.iconst 0, 1) := by decide +kernel
theorem dL_law_19 : decode code 19 = .ok (.invokestatic 53, 3) := by decide +kernel
theorem dL_law_22 : decode code 22 = .ok (.invokespecial 64, 3) := by decide +kernel
theorem dL_law_25 : decode code 25 = .ok (.astore_n 2, 1) := by decide +kernel
theorem dL_law_26 : decode code 26 = .ok (.iconst 1, 1) := by decide +kernel
theorem dL_law_27 : decode code 27 = .ok (.newarray .long, 2) := by decide +kernel
theorem dL_law_29 : decode code 29 = .ok (.astore_n 3, 1) := by decide +kernel
theorem dL_law_30 : decode code 30 = .ok (.iconst 1, 1) := by decide +kernel
theorem dL_law_31 : decode code 31 = .ok (.istore 4, 2) := by decide +kernel
theorem dL_law_33 : decode code 33 = .ok (.iload 4, 2) := by decide +kernel
theorem dL_law_35 : decode code 35 = .ok (.aload_n 0, 1) := by decide +kernel
theorem dL_law_36 : decode code 36 = .ok (.arraylength, 1) := by decide +kernel
theorem dL_law_37 : decode code 37 = .ok (.bipush 8, 2) := by decide +kernel
theorem dL_law_39 : decode code 39 = .ok (.isub, 1) := by decide +kernel
theorem dL_law_40 : decode code 40 = .ok (.if_icmp .gt 1060, 3) := by decide +kernel
theorem dL_law_43 : decode code 43 = .ok (.aload_n 0, 1) := by decide +kernel
theorem dL_law_44 : decode code 44 = .ok (.iload 4, 2) := by decide +kernel
theorem dL_law_46 : decode code 46 = .ok (.iaload, 1) := by decide +kernel
theorem dL_law_47 : decode code 47 = .ok (.bipush 15, 2) := by decide +kernel
theorem dL_law_49 : decode code 49 = .ok (.iand, 1) := by decide +kernel
theorem dL_law_50 : decode code 50 = .ok (.tableswitch 1044 0 11 #[62, 180, 260, 351, 469, 525, 593, 672, 740, 820, 833, 912], 62) := by decide +kernel
theorem dL_law_112 : decode code 112 = .ok (.aload_n 1, 1) := by decide +kernel
theorem dL_law_113 : decode code 113 = .ok (.aload_n 0, 1) := by decide +kernel
theorem dL_law_114 : decode code 114 = .ok (.iload 4, 2) := by decide +kernel
theorem dL_law_116 : decode code 116 = .ok (.iconst 1, 1) := by decide +kernel
theorem dL_law_117 : decode code 117 = .ok (.iadd, 1) := by decide +kernel
theorem dL_law_118 : decode code 118 = .ok (.iaload, 1) := by decide +kernel
theorem dL_law_119 : decode code 119 = .ok (.aload_n 0, 1) := by decide +kernel
theorem dL_law_120 : decode code 120 = .ok (.iload 4, 2) := by decide +kernel
theorem dL_law_122 : decode code 122 = .ok (.iconst 2, 1) := by decide +kernel
theorem dL_law_123 : decode code 123 = .ok (.iadd, 1) := by decide +kernel
theorem dL_law_124 : decode code 124 = .ok (.iaload, 1) := by decide +kernel
theorem dL_law_125 : decode code 125 = .ok (.aload_n 0, 1) := by decide +kernel
theorem dL_law_126 : decode code 126 = .ok (.iload 4, 2) := by decide +kernel
theorem dL_law_128 : decode code 128 = .ok (.iconst 3, 1) := by decide +kernel
theorem dL_law_129 : decode code 129 = .ok (.iadd, 1) := by decide +kernel
theorem dL_law_130 : decode code 130 = .ok (.iaload, 1) := by decide +kernel
theorem dL_law_131 : decode code 131 = .ok (.aload_n 0, 1) := by decide +kernel
theorem dL_law_132 : decode code 132 = .ok (.iload 4, 2) := by decide +kernel
theorem dL_law_134 : decode code 134 = .ok (.iconst 4, 1) := by decide +kernel
theorem dL_law_135 : decode code 135 = .ok (.iadd, 1) := by decide +kernel
theorem dL_law_136 : decode code 136 = .ok (.iaload, 1) := by decide +kernel
theorem dL_law_137 : decode code 137 = .ok (.aload_n 0, 1) := by decide +kernel
theorem dL_law_138 : decode code 138 = .ok (.iload 4, 2) := by decide +kernel
theorem dL_law_140 : decode code 140 = .ok (.iconst 5, 1) := by decide +kernel
theorem dL_law_141 : decode code 141 = .ok (.iadd, 1) := by decide +kernel
theorem dL_law_142 : decode code 142 = .ok (.iaload, 1) := by decide +kernel
theorem dL_law_143 : decode code 143 = .ok (.aload_n 0, 1) := by decide +kernel
theorem dL_law_144 : decode code 144 = .ok (.iload 4, 2) := by decide +kernel
theorem dL_law_146 : decode code 146 = .ok (.bipush 6, 2) := by decide +kernel
theorem dL_law_148 : decode code 148 = .ok (.iadd, 1) := by decide +kernel
theorem dL_law_149 : decode code 149 = .ok (.iaload, 1) := by decide +kernel
theorem dL_law_150 : decode code 150 = .ok (.aload_n 3, 1) := by decide +kernel
theorem dL_law_151 : decode code 151 = .ok (.invokestatic 65, 3) := by decide +kernel
theorem dL_law_154 : decode code 154 = .ok (.istore 5, 2) := by decide +kernel
theorem dL_law_156 : decode code 156 = .ok (.aload_n 2, 1) := by decide +kernel
theorem dL_law_157 : decode code 157 = .ok (.aload_n 0, 1) := by decide +kernel
theorem dL_law_158 : decode code 158 = .ok (.iload 4, 2) := by decide +kernel
theorem dL_law_160 : decode code 160 = .ok (.iconst 1, 1) := by decide +kernel
theorem dL_law_161 : decode code 161 = .ok (.iadd, 1) := by decide +kernel
theorem dL_law_162 : decode code 162 = .ok (.iaload, 1) := by decide +kernel
theorem dL_law_163 : decode code 163 = .ok (.aload_n 0, 1) := by decide +kernel
theorem dL_law_164 : decode code 164 = .ok (.iload 4, 2) := by decide +kernel
theorem dL_law_166 : decode code 166 = .ok (.iconst 2, 1) := by decide +kernel
theorem dL_law_167 : decode code 167 = .ok (.iadd, 1) := by decide +kernel
theorem dL_law_168 : decode code 168 = .ok (.iaload, 1) := by decide +kernel
theorem dL_law_169 : decode code 169 = .ok (.aload_n 0, 1) := by decide +kernel
theorem dL_law_170 : decode code 170 = .ok (.iload 4, 2) := by decide +kernel
theorem dL_law_172 : decode code 172 = .ok (.iconst 3, 1) := by decide +kernel
theorem dL_law_173 : decode code 173 = .ok (.iadd, 1) := by decide +kernel
theorem dL_law_174 : decode code 174 = .ok (.iaload, 1) := by decide +kernel
theorem dL_law_175 : decode code 175 = .ok (.aload_n 0, 1) := by decide +kernel
theorem dL_law_176 : decode code 176 = .ok (.iload 4, 2) := by decide +kernel
theorem dL_law_178 : decode code 178 = .ok (.iconst 4, 1) := by decide +kernel
theorem dL_law_179 : decode code 179 = .ok (.iadd, 1) := by decide +kernel
theorem dL_law_180 : decode code 180 = .ok (.iaload, 1) := by decide +kernel
theorem dL_law_181 : decode code 181 = .ok (.aload_n 0, 1) := by decide +kernel
theorem dL_law_182 : decode code 182 = .ok (.iload 4, 2) := by decide +kernel
theorem dL_law_184 : decode code 184 = .ok (.iconst 5, 1) := by decide +kernel
theorem dL_law_185 : decode code 185 = .ok (.iadd, 1) := by decide +kernel
theorem dL_law_186 : decode code 186 = .ok (.iaload, 1) := by decide +kernel
theorem dL_law_187 : decode code 187 = .ok (.aload_n 0, 1) := by decide +kernel
theorem dL_law_188 : decode code 188 = .ok (.iload 4, 2) := by decide +kernel
theorem dL_law_190 : decode code 190 = .ok (.bipush 6, 2) := by decide +kernel
theorem dL_law_192 : decode code 192 = .ok (.iadd, 1) := by decide +kernel
theorem dL_law_193 : decode code 193 = .ok (.iaload, 1) := by decide +kernel
theorem dL_law_194 : decode code 194 = .ok (.invokevirtual 68, 3) := by decide +kernel
theorem dL_law_197 : decode code 197 = .ok (.istore 6, 2) := by decide +kernel
theorem dL_law_199 : decode code 199 = .ok (.aload_n 2, 1) := by decide +kernel
theorem dL_law_200 : decode code 200 = .ok (.invokevirtual 69, 3) := by decide +kernel
theorem dL_law_203 : decode code 203 = .ok (.iload 5, 2) := by decide +kernel
theorem dL_law_205 : decode code 205 = .ok (.if_icmp .eq 5, 3) := by decide +kernel
theorem dL_law_208 : decode code 208 = .ok (.iconst 0, 1) := by decide +kernel
theorem dL_law_209 : decode code 209 = .ok (.ireturn, 1) := by decide +kernel
theorem dL_law_210 : decode code 210 = .ok (.iload 5, 2) := by decide +kernel
theorem dL_law_212 : decode code 212 = .ok (.ifCond .ne 15, 3) := by decide +kernel
theorem dL_law_215 : decode code 215 = .ok (.aload_n 3, 1) := by decide +kernel
theorem dL_law_216 : decode code 216 = .ok (.iconst 0, 1) := by decide +kernel
theorem dL_law_217 : decode code 217 = .ok (.laload, 1) := by decide +kernel
theorem dL_law_218 : decode code 218 = .ok (.iload 6, 2) := by decide +kernel
theorem dL_law_220 : decode code 220 = .ok (.i2l, 1) := by decide +kernel
theorem dL_law_221 : decode code 221 = .ok (.lcmp, 1) := by decide +kernel
theorem dL_law_222 : decode code 222 = .ok (.ifCond .eq 5, 3) := by decide +kernel
theorem dL_law_225 : decode code 225 = .ok (.iconst 0, 1) := by decide +kernel
theorem dL_law_226 : decode code 226 = .ok (.ireturn, 1) := by decide +kernel
theorem dL_law_227 : decode code 227 = .ok (.goto 867, 3) := by decide +kernel
theorem dL_law_230 : decode code 230 = .ok (.aload_n 1, 1) := by decide +kernel
theorem dL_law_231 : decode code 231 = .ok (.aload_n 0, 1) := by decide +kernel
theorem dL_law_232 : decode code 232 = .ok (.iload 4, 2) := by decide +kernel
theorem dL_law_234 : decode code 234 = .ok (.iconst 1, 1) := by decide +kernel
theorem dL_law_235 : decode code 235 = .ok (.iadd, 1) := by decide +kernel
theorem dL_law_236 : decode code 236 = .ok (.iaload, 1) := by decide +kernel
theorem dL_law_237 : decode code 237 = .ok (.aload_n 0, 1) := by decide +kernel
theorem dL_law_238 : decode code 238 = .ok (.iload 4, 2) := by decide +kernel
theorem dL_law_240 : decode code 240 = .ok (.iconst 2, 1) := by decide +kernel
theorem dL_law_241 : decode code 241 = .ok (.iadd, 1) := by decide +kernel
theorem dL_law_242 : decode code 242 = .ok (.iaload, 1) := by decide +kernel
theorem dL_law_243 : decode code 243 = .ok (.aload_n 0, 1) := by decide +kernel
theorem dL_law_244 : decode code 244 = .ok (.iload 4, 2) := by decide +kernel
theorem dL_law_246 : decode code 246 = .ok (.iconst 3, 1) := by decide +kernel
theorem dL_law_247 : decode code 247 = .ok (.iadd, 1) := by decide +kernel
theorem dL_law_248 : decode code 248 = .ok (.iaload, 1) := by decide +kernel
theorem dL_law_249 : decode code 249 = .ok (.aload_n 3, 1) := by decide +kernel
theorem dL_law_250 : decode code 250 = .ok (.invokestatic 73, 3) := by decide +kernel
theorem dL_law_253 : decode code 253 = .ok (.istore 5, 2) := by decide +kernel
theorem dL_law_255 : decode code 255 = .ok (.aload_n 2, 1) := by decide +kernel
theorem dL_law_256 : decode code 256 = .ok (.aload_n 0, 1) := by decide +kernel
theorem dL_law_257 : decode code 257 = .ok (.iload 4, 2) := by decide +kernel
theorem dL_law_259 : decode code 259 = .ok (.iconst 1, 1) := by decide +kernel
theorem dL_law_260 : decode code 260 = .ok (.iadd, 1) := by decide +kernel
theorem dL_law_261 : decode code 261 = .ok (.iaload, 1) := by decide +kernel
theorem dL_law_262 : decode code 262 = .ok (.aload_n 0, 1) := by decide +kernel
theorem dL_law_263 : decode code 263 = .ok (.iload 4, 2) := by decide +kernel
theorem dL_law_265 : decode code 265 = .ok (.iconst 2, 1) := by decide +kernel
theorem dL_law_266 : decode code 266 = .ok (.iadd, 1) := by decide +kernel
theorem dL_law_267 : decode code 267 = .ok (.iaload, 1) := by decide +kernel
theorem dL_law_268 : decode code 268 = .ok (.aload_n 0, 1) := by decide +kernel
theorem dL_law_269 : decode code 269 = .ok (.iload 4, 2) := by decide +kernel
theorem dL_law_271 : decode code 271 = .ok (.iconst 3, 1) := by decide +kernel
theorem dL_law_272 : decode code 272 = .ok (.iadd, 1) := by decide +kernel
theorem dL_law_273 : decode code 273 = .ok (.iaload, 1) := by decide +kernel
theorem dL_law_274 : decode code 274 = .ok (.invokevirtual 76, 3) := by decide +kernel
theorem dL_law_277 : decode code 277 = .ok (.istore 6, 2) := by decide +kernel
theorem dL_law_279 : decode code 279 = .ok (.aload_n 2, 1) := by decide +kernel
theorem dL_law_280 : decode code 280 = .ok (.invokevirtual 69, 3) := by decide +kernel
theorem dL_law_283 : decode code 283 = .ok (.iload 5, 2) := by decide +kernel
theorem dL_law_285 : decode code 285 = .ok (.if_icmp .eq 5, 3) := by decide +kernel
theorem dL_law_288 : decode code 288 = .ok (.iconst 0, 1) := by decide +kernel
theorem dL_law_289 : decode code 289 = .ok (.ireturn, 1) := by decide +kernel
theorem dL_law_290 : decode code 290 = .ok (.iload 5, 2) := by decide +kernel
theorem dL_law_292 : decode code 292 = .ok (.ifCond .ne 15, 3) := by decide +kernel
theorem dL_law_295 : decode code 295 = .ok (.aload_n 3, 1) := by decide +kernel
theorem dL_law_296 : decode code 296 = .ok (.iconst 0, 1) := by decide +kernel
theorem dL_law_297 : decode code 297 = .ok (.laload, 1) := by decide +kernel
theorem dL_law_298 : decode code 298 = .ok (.iload 6, 2) := by decide +kernel
theorem dL_law_300 : decode code 300 = .ok (.i2l, 1) := by decide +kernel
theorem dL_law_301 : decode code 301 = .ok (.lcmp, 1) := by decide +kernel
theorem dL_law_302 : decode code 302 = .ok (.ifCond .eq 5, 3) := by decide +kernel
theorem dL_law_305 : decode code 305 = .ok (.iconst 0, 1) := by decide +kernel
theorem dL_law_306 : decode code 306 = .ok (.ireturn, 1) := by decide +kernel
theorem dL_law_307 : decode code 307 = .ok (.goto 787, 3) := by decide +kernel
theorem dL_law_310 : decode code 310 = .ok (.aload_n 1, 1) := by decide +kernel
theorem dL_law_311 : decode code 311 = .ok (.aload_n 0, 1) := by decide +kernel
theorem dL_law_312 : decode code 312 = .ok (.iload 4, 2) := by decide +kernel
theorem dL_law_314 : decode code 314 = .ok (.iconst 1, 1) := by decide +kernel
theorem dL_law_315 : decode code 315 = .ok (.iadd, 1) := by decide +kernel
theorem dL_law_316 : decode code 316 = .ok (.iaload, 1) := by decide +kernel
theorem dL_law_317 : decode code 317 = .ok (.aload_n 0, 1) := by decide +kernel
theorem dL_law_318 : decode code 318 = .ok (.iload 4, 2) := by decide +kernel
theorem dL_law_320 : decode code 320 = .ok (.iconst 2, 1) := by decide +kernel
theorem dL_law_321 : decode code 321 = .ok (.iadd, 1) := by decide +kernel
theorem dL_law_322 : decode code 322 = .ok (.iaload, 1) := by decide +kernel
theorem dL_law_323 : decode code 323 = .ok (.ifCond .eq 7, 3) := by decide +kernel
theorem dL_law_326 : decode code 326 = .ok (.iconst 1, 1) := by decide +kernel
theorem dL_law_327 : decode code 327 = .ok (.goto 4, 3) := by decide +kernel
theorem dL_law_330 : decode code 330 = .ok (.iconst 0, 1) := by decide +kernel
theorem dL_law_331 : decode code 331 = .ok (.aload_n 3, 1) := by decide +kernel
theorem dL_law_332 : decode code 332 = .ok (.invokestatic 77, 3) := by decide +kernel
theorem dL_law_335 : decode code 335 = .ok (.istore 5, 2) := by decide +kernel
theorem dL_law_337 : decode code 337 = .ok (.aload_n 2, 1) := by decide +kernel
theorem dL_law_338 : decode code 338 = .ok (.aload_n 0, 1) := by decide +kernel
theorem dL_law_339 : decode code 339 = .ok (.iload 4, 2) := by decide +kernel
theorem dL_law_341 : decode code 341 = .ok (.iconst 1, 1) := by decide +kernel
theorem dL_law_342 : decode code 342 = .ok (.iadd, 1) := by decide +kernel
theorem dL_law_343 : decode code 343 = .ok (.iaload, 1) := by decide +kernel
theorem dL_law_344 : decode code 344 = .ok (.aload_n 0, 1) := by decide +kernel
theorem dL_law_345 : decode code 345 = .ok (.iload 4, 2) := by decide +kernel
theorem dL_law_347 : decode code 347 = .ok (.iconst 2, 1) := by decide +kernel
theorem dL_law_348 : decode code 348 = .ok (.iadd, 1) := by decide +kernel
theorem dL_law_349 : decode code 349 = .ok (.iaload, 1) := by decide +kernel
theorem dL_law_350 : decode code 350 = .ok (.ifCond .eq 7, 3) := by decide +kernel
theorem dL_law_353 : decode code 353 = .ok (.iconst 1, 1) := by decide +kernel
theorem dL_law_354 : decode code 354 = .ok (.goto 4, 3) := by decide +kernel
theorem dL_law_357 : decode code 357 = .ok (.iconst 0, 1) := by decide +kernel
theorem dL_law_358 : decode code 358 = .ok (.invokevirtual 80, 3) := by decide +kernel
theorem dL_law_361 : decode code 361 = .ok (.istore 6, 2) := by decide +kernel
theorem dL_law_363 : decode code 363 = .ok (.aload_n 2, 1) := by decide +kernel
theorem dL_law_364 : decode code 364 = .ok (.invokevirtual 69, 3) := by decide +kernel
theorem dL_law_367 : decode code 367 = .ok (.iload 5, 2) := by decide +kernel
theorem dL_law_369 : decode code 369 = .ok (.if_icmp .eq 5, 3) := by decide +kernel
theorem dL_law_372 : decode code 372 = .ok (.iconst 0, 1) := by decide +kernel
theorem dL_law_373 : decode code 373 = .ok (.ireturn, 1) := by decide +kernel
theorem dL_law_374 : decode code 374 = .ok (.iload 5, 2) := by decide +kernel
theorem dL_law_376 : decode code 376 = .ok (.ifCond .ne 22, 3) := by decide +kernel
theorem dL_law_379 : decode code 379 = .ok (.aload_n 3, 1) := by decide +kernel
theorem dL_law_380 : decode code 380 = .ok (.iconst 0, 1) := by decide +kernel
theorem dL_law_381 : decode code 381 = .ok (.laload, 1) := by decide +kernel
theorem dL_law_382 : decode code 382 = .ok (.iload 6, 2) := by decide +kernel
theorem dL_law_384 : decode code 384 = .ok (.ifCond .eq 7, 3) := by decide +kernel
theorem dL_law_387 : decode code 387 = .ok (.lconst 1, 1) := by decide +kernel
theorem dL_law_388 : decode code 388 = .ok (.goto 4, 3) := by decide +kernel
theorem dL_law_391 : decode code 391 = .ok (.lconst 0, 1) := by decide +kernel
theorem dL_law_392 : decode code 392 = .ok (.lcmp, 1) := by decide +kernel
theorem dL_law_393 : decode code 393 = .ok (.ifCond .eq 5, 3) := by decide +kernel
theorem dL_law_396 : decode code 396 = .ok (.iconst 0, 1) := by decide +kernel
theorem dL_law_397 : decode code 397 = .ok (.ireturn, 1) := by decide +kernel
theorem dL_law_398 : decode code 398 = .ok (.goto 696, 3) := by decide +kernel
theorem dL_law_401 : decode code 401 = .ok (.aload_n 1, 1) := by decide +kernel
theorem dL_law_402 : decode code 402 = .ok (.aload_n 0, 1) := by decide +kernel
theorem dL_law_403 : decode code 403 = .ok (.iload 4, 2) := by decide +kernel
theorem dL_law_405 : decode code 405 = .ok (.iconst 1, 1) := by decide +kernel
theorem dL_law_406 : decode code 406 = .ok (.iadd, 1) := by decide +kernel
theorem dL_law_407 : decode code 407 = .ok (.iaload, 1) := by decide +kernel
theorem dL_law_408 : decode code 408 = .ok (.aload_n 0, 1) := by decide +kernel
theorem dL_law_409 : decode code 409 = .ok (.iload 4, 2) := by decide +kernel
theorem dL_law_411 : decode code 411 = .ok (.iconst 2, 1) := by decide +kernel
theorem dL_law_412 : decode code 412 = .ok (.iadd, 1) := by decide +kernel
theorem dL_law_413 : decode code 413 = .ok (.iaload, 1) := by decide +kernel
theorem dL_law_414 : decode code 414 = .ok (.aload_n 0, 1) := by decide +kernel
theorem dL_law_415 : decode code 415 = .ok (.iload 4, 2) := by decide +kernel
