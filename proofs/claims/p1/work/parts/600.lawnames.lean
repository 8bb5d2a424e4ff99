/-! the law: words, decode rows -/
abbrev R_Lw : String := "UnwindMillLaw"
theorem d_law_0 : decode code 0 = .ok (.new 8, 3) := by decide +kernel
theorem d_law_3 : decode code 3 = .ok (.dup, 1) := by decide +kernel
theorem d_law_4 : decode code 4 = .ok (.invokespecial 20, 3) := by decide +kernel
theorem d_law_7 : decode code 7 = .ok (.astore_n 1, 1) := by decide +kernel
theorem d_law_8 : decode code 8 = .ok (.new 21, 3) := by decide +kernel
theorem d_law_11 : decode code 11 = .ok (.dup, 1) := by decide +kernel
theorem d_law_12 : decode code 12 = .ok (.invokespecial 23, 3) := by decide +kernel
theorem d_law_15 : decode code 15 = .ok (.astore_n 2, 1) := by decide +kernel
theorem d_law_16 : decode code 16 = .ok (.iconst 1, 1) := by decide +kernel
theorem d_law_17 : decode code 17 = .ok (.newarray .long, 2) := by decide +kernel
theorem d_law_19 : decode code 19 = .ok (.astore_n 3, 1) := by decide +kernel
theorem d_law_20 : decode code 20 = .ok (.iconst 0, 1) := by decide +kernel
theorem d_law_21 : decode code 21 = .ok (.istore 4, 2) := by decide +kernel
theorem d_law_23 : decode code 23 = .ok (.iload 4, 2) := by decide +kernel
theorem d_law_25 : decode code 25 = .ok (.aload_n 0, 1) := by decide +kernel
theorem d_law_26 : decode code 26 = .ok (.arraylength, 1) := by decide +kernel
theorem d_law_27 : decode code 27 = .ok (.bipush 6, 2) := by decide +kernel
theorem d_law_29 : decode code 29 = .ok (.isub, 1) := by decide +kernel
theorem d_law_30 : decode code 30 = .ok (.if_icmp .gt 590, 3) := by decide +kernel
theorem d_law_33 : decode code 33 = .ok (.aload_n 0, 1) := by decide +kernel
theorem d_law_34 : decode code 34 = .ok (.iload 4, 2) := by decide +kernel
theorem d_law_36 : decode code 36 = .ok (.iaload, 1) := by decide +kernel
theorem d_law_37 : decode code 37 = .ok (.bipush 15, 2) := by decide +kernel
theorem d_law_39 : decode code 39 = .ok (.iand, 1) := by decide +kernel
theorem d_law_40 : decode code 40 = .ok (.tableswitch 574 0 11 #[64, 137, 210, 247, 288, 313, 381, 406, 474, 499, 524, 549], 64) := by decide +kernel
theorem d_law_104 : decode code 104 = .ok (.aload_n 1, 1) := by decide +kernel
theorem d_law_105 : decode code 105 = .ok (.aload_n 0, 1) := by decide +kernel
theorem d_law_106 : decode code 106 = .ok (.iload 4, 2) := by decide +kernel
theorem d_law_108 : decode code 108 = .ok (.iconst 1, 1) := by decide +kernel
theorem d_law_109 : decode code 109 = .ok (.iadd, 1) := by decide +kernel
theorem d_law_110 : decode code 110 = .ok (.iaload, 1) := by decide +kernel
theorem d_law_111 : decode code 111 = .ok (.aload_n 0, 1) := by decide +kernel
theorem d_law_112 : decode code 112 = .ok (.iload 4, 2) := by decide +kernel
theorem d_law_114 : decode code 114 = .ok (.iconst 2, 1) := by decide +kernel
theorem d_law_115 : decode code 115 = .ok (.iadd, 1) := by decide +kernel
theorem d_law_116 : decode code 116 = .ok (.iaload, 1) := by decide +kernel
theorem d_law_117 : decode code 117 = .ok (.aload_n 0, 1) := by decide +kernel
theorem d_law_118 : decode code 118 = .ok (.iload 4, 2) := by decide +kernel
theorem d_law_120 : decode code 120 = .ok (.iconst 3, 1) := by decide +kernel
theorem d_law_121 : decode code 121 = .ok (.iadd, 1) := by decide +kernel
theorem d_law_122 : decode code 122 = .ok (.iaload, 1) := by decide +kernel
theorem d_law_123 : decode code 123 = .ok (.aload_n 0, 1) := by decide +kernel
theorem d_law_124 : decode code 124 = .ok (.iload 4, 2) := by decide +kernel
theorem d_law_126 : decode code 126 = .ok (.iconst 4, 1) := by decide +kernel
theorem d_law_127 : decode code 127 = .ok (.iadd, 1) := by decide +kernel
theorem d_law_128 : decode code 128 = .ok (.iaload, 1) := by decide +kernel
theorem d_law_129 : decode code 129 = .ok (.aload_n 0, 1) := by decide +kernel
theorem d_law_130 : decode code 130 = .ok (.iload 4, 2) := by decide +kernel
theorem d_law_132 : decode code 132 = .ok (.iconst 5, 1) := by decide +kernel
theorem d_law_133 : decode code 133 = .ok (.iadd, 1) := by decide +kernel
theorem d_law_134 : decode code 134 = .ok (.iaload, 1) := by decide +kernel
theorem d_law_135 : decode code 135 = .ok (.invokevirtual 24, 3) := by decide +kernel
theorem d_law_138 : decode code 138 = .ok (.aload_n 2, 1) := by decide +kernel
theorem d_law_139 : decode code 139 = .ok (.aload_n 0, 1) := by decide +kernel
theorem d_law_140 : decode code 140 = .ok (.iload 4, 2) := by decide +kernel
theorem d_law_142 : decode code 142 = .ok (.iconst 1, 1) := by decide +kernel
theorem d_law_143 : decode code 143 = .ok (.iadd, 1) := by decide +kernel
theorem d_law_144 : decode code 144 = .ok (.iaload, 1) := by decide +kernel
theorem d_law_145 : decode code 145 = .ok (.aload_n 0, 1) := by decide +kernel
theorem d_law_146 : decode code 146 = .ok (.iload 4, 2) := by decide +kernel
theorem d_law_148 : decode code 148 = .ok (.iconst 2, 1) := by decide +kernel
theorem d_law_149 : decode code 149 = .ok (.iadd, 1) := by decide +kernel
theorem d_law_150 : decode code 150 = .ok (.iaload, 1) := by decide +kernel
theorem d_law_151 : decode code 151 = .ok (.aload_n 0, 1) := by decide +kernel
theorem d_law_152 : decode code 152 = .ok (.iload 4, 2) := by decide +kernel
theorem d_law_154 : decode code 154 = .ok (.iconst 3, 1) := by decide +kernel
theorem d_law_155 : decode code 155 = .ok (.iadd, 1) := by decide +kernel
theorem d_law_156 : decode code 156 = .ok (.iaload, 1) := by decide +kernel
theorem d_law_157 : decode code 157 = .ok (.aload_n 0, 1) := by decide +kernel
theorem d_law_158 : decode code 158 = .ok (.iload 4, 2) := by decide +kernel
theorem d_law_160 : decode code 160 = .ok (.iconst 4, 1) := by decide +kernel
theorem d_law_161 : decode code 161 = .ok (.iadd, 1) := by decide +kernel
theorem d_law_162 : decode code 162 = .ok (.iaload, 1) := by decide +kernel
theorem d_law_163 : decode code 163 = .ok (.aload_n 0, 1) := by decide +kernel
theorem d_law_164 : decode code 164 = .ok (.iload 4, 2) := by decide +kernel
theorem d_law_166 : decode code 166 = .ok (.iconst 5, 1) := by decide +kernel
theorem d_law_167 : decode code 167 = .ok (.iadd, 1) := by decide +kernel
theorem d_law_168 : decode code 168 = .ok (.iaload, 1) := by decide +kernel
theorem d_law_169 : decode code 169 = .ok (.invokevirtual 28, 3) := by decide +kernel
theorem d_law_172 : decode code 172 = .ok (.if_icmp .eq 442, 3) := by decide +kernel
theorem d_law_175 : decode code 175 = .ok (.iconst 0, 1) := by decide +kernel
theorem d_law_176 : decode code 176 = .ok (.ireturn, 1) := by decide +kernel
theorem d_law_177 : decode code 177 = .ok (.aload_n 1, 1) := by decide +kernel
theorem d_law_178 : decode code 178 = .ok (.aload_n 0, 1) := by decide +kernel
theorem d_law_179 : decode code 179 = .ok (.iload 4, 2) := by decide +kernel
theorem d_law_181 : decode code 181 = .ok (.iconst 1, 1) := by decide +kernel
theorem d_law_182 : decode code 182 = .ok (.iadd, 1) := by decide +kernel
theorem d_law_183 : decode code 183 = .ok (.iaload, 1) := by decide +kernel
theorem d_law_184 : decode code 184 = .ok (.aload_n 0, 1) := by decide +kernel
theorem d_law_185 : decode code 185 = .ok (.iload 4, 2) := by decide +kernel
theorem d_law_187 : decode code 187 = .ok (.iconst 2, 1) := by decide +kernel
theorem d_law_188 : decode code 188 = .ok (.iadd, 1) := by decide +kernel
theorem d_law_189 : decode code 189 = .ok (.iaload, 1) := by decide +kernel
theorem d_law_190 : decode code 190 = .ok (.aload_n 0, 1) := by decide +kernel
theorem d_law_191 : decode code 191 = .ok (.iload 4, 2) := by decide +kernel
theorem d_law_193 : decode code 193 = .ok (.iconst 3, 1) := by decide +kernel
theorem d_law_194 : decode code 194 = .ok (.iadd, 1) := by decide +kernel
theorem d_law_195 : decode code 195 = .ok (.iaload, 1) := by decide +kernel
theorem d_law_196 : decode code 196 = .ok (.aload_n 0, 1) := by decide +kernel
theorem d_law_197 : decode code 197 = .ok (.iload 4, 2) := by decide +kernel
theorem d_law_199 : decode code 199 = .ok (.iconst 4, 1) := by decide +kernel
theorem d_law_200 : decode code 200 = .ok (.iadd, 1) := by decide +kernel
theorem d_law_201 : decode code 201 = .ok (.iaload, 1) := by decide +kernel
theorem d_law_202 : decode code 202 = .ok (.aload_n 0, 1) := by decide +kernel
theorem d_law_203 : decode code 203 = .ok (.iload 4, 2) := by decide +kernel
theorem d_law_205 : decode code 205 = .ok (.iconst 5, 1) := by decide +kernel
theorem d_law_206 : decode code 206 = .ok (.iadd, 1) := by decide +kernel
theorem d_law_207 : decode code 207 = .ok (.iaload, 1) := by decide +kernel
theorem d_law_208 : decode code 208 = .ok (.invokevirtual 29, 3) := by decide +kernel
theorem d_law_211 : decode code 211 = .ok (.aload_n 2, 1) := by decide +kernel
theorem d_law_212 : decode code 212 = .ok (.aload_n 0, 1) := by decide +kernel
theorem d_law_213 : decode code 213 = .ok (.iload 4, 2) := by decide +kernel
theorem d_law_215 : decode code 215 = .ok (.iconst 1, 1) := by decide +kernel
theorem d_law_216 : decode code 216 = .ok (.iadd, 1) := by decide +kernel
theorem d_law_217 : decode code 217 = .ok (.iaload, 1) := by decide +kernel
theorem d_law_218 : decode code 218 = .ok (.aload_n 0, 1) := by decide +kernel
theorem d_law_219 : decode code 219 = .ok (.iload 4, 2) := by decide +kernel
theorem d_law_221 : decode code 221 = .ok (.iconst 2, 1) := by decide +kernel
theorem d_law_222 : decode code 222 = .ok (.iadd, 1) := by decide +kernel
theorem d_law_223 : decode code 223 = .ok (.iaload, 1) := by decide +kernel
theorem d_law_224 : decode code 224 = .ok (.aload_n 0, 1) := by decide +kernel
theorem d_law_225 : decode code 225 = .ok (.iload 4, 2) := by decide +kernel
theorem d_law_227 : decode code 227 = .ok (.iconst 3, 1) := by decide +kernel
theorem d_law_228 : decode code 228 = .ok (.iadd, 1) := by decide +kernel
theorem d_law_229 : decode code 229 = .ok (.iaload, 1) := by decide +kernel
theorem d_law_230 : decode code 230 = .ok (.aload_n 0, 1) := by decide +kernel
theorem d_law_231 : decode code 231 = .ok (.iload 4, 2) := by decide +kernel
theorem d_law_233 : decode code 233 = .ok (.iconst 4, 1) := by decide +kernel
theorem d_law_234 : decode code 234 = .ok (.iadd, 1) := by decide +kernel
theorem d_law_235 : decode code 235 = .ok (.iaload, 1) := by decide +kernel
theorem d_law_236 : decode code 236 = .ok (.aload_n 0, 1) := by decide +kernel
theorem d_law_237 : decode code 237 = .ok (.iload 4, 2) := by decide +kernel
theorem d_law_239 : decode code 239 = .ok (.iconst 5, 1) := by decide +kernel
theorem d_law_240 : decode code 240 = .ok (.iadd, 1) := by decide +kernel
theorem d_law_241 : decode code 241 = .ok (.iaload, 1) := by decide +kernel
theorem d_law_242 : decode code 242 = .ok (.invokevirtual 32, 3) := by decide +kernel
theorem d_law_245 : decode code 245 = .ok (.if_icmp .eq 369, 3) := by decide +kernel
theorem d_law_248 : decode code 248 = .ok (.iconst 0, 1) := by decide +kernel
theorem d_law_249 : decode code 249 = .ok (.ireturn, 1) := by decide +kernel
theorem d_law_250 : decode code 250 = .ok (.aload_n 1, 1) := by decide +kernel
theorem d_law_251 : decode code 251 = .ok (.aload_n 0, 1) := by decide +kernel
theorem d_law_252 : decode code 252 = .ok (.iload 4, 2) := by decide +kernel
theorem d_law_254 : decode code 254 = .ok (.iconst 1, 1) := by decide +kernel
theorem d_law_255 : decode code 255 = .ok (.iadd, 1) := by decide +kernel
theorem d_law_256 : decode code 256 = .ok (.iaload, 1) := by decide +kernel
theorem d_law_257 : decode code 257 = .ok (.aload_n 0, 1) := by decide +kernel
theorem d_law_258 : decode code 258 = .ok (.iload 4, 2) := by decide +kernel
theorem d_law_260 : decode code 260 = .ok (.iconst 2, 1) := by decide +kernel
theorem d_law_261 : decode code 261 = .ok (.iadd, 1) := by decide +kernel
theorem d_law_262 : decode code 262 = .ok (.iaload, 1) := by decide +kernel
theorem d_law_263 : decode code 263 = .ok (.invokevirtual 33, 3) := by decide +kernel
theorem d_law_266 : decode code 266 = .ok (.aload_n 2, 1) := by decide +kernel
theorem d_law_267 : decode code 267 = .ok (.aload_n 0, 1) := by decide +kernel
theorem d_law_268 : decode code 268 = .ok (.iload 4, 2) := by decide +kernel
theorem d_law_270 : decode code 270 = .ok (.iconst 1, 1) := by decide +kernel
theorem d_law_271 : decode code 271 = .ok (.iadd, 1) := by decide +kernel
theorem d_law_272 : decode code 272 = .ok (.iaload, 1) := by decide +kernel
theorem d_law_273 : decode code 273 = .ok (.aload_n 0, 1) := by decide +kernel
theorem d_law_274 : decode code 274 = .ok (.iload 4, 2) := by decide +kernel
theorem d_law_276 : decode code 276 = .ok (.iconst 2, 1) := by decide +kernel
theorem d_law_277 : decode code 277 = .ok (.iadd, 1) := by decide +kernel
theorem d_law_278 : decode code 278 = .ok (.iaload, 1) := by decide +kernel
theorem d_law_279 : decode code 279 = .ok (.invokevirtual 37, 3) := by decide +kernel
theorem d_law_282 : decode code 282 = .ok (.if_icmp .eq 332, 3) := by decide +kernel
theorem d_law_285 : decode code 285 = .ok (.iconst 0, 1) := by decide +kernel
theorem d_law_286 : decode code 286 = .ok (.ireturn, 1) := by decide +kernel
theorem d_law_287 : decode code 287 = .ok (.aload_n 1, 1) := by decide +kernel
theorem d_law_288 : decode code 288 = .ok (.aload_n 0, 1) := by decide +kernel
theorem d_law_289 : decode code 289 = .ok (.iload 4, 2) := by decide +kernel
theorem d_law_291 : decode code 291 = .ok (.iconst 1, 1) := by decide +kernel
theorem d_law_292 : decode code 292 = .ok (.iadd, 1) := by decide +kernel
theorem d_law_293 : decode code 293 = .ok (.iaload, 1) := by decide +kernel
theorem d_law_294 : decode code 294 = .ok (.ifCond .eq 7, 3) := by decide +kernel
theorem d_law_297 : decode code 297 = .ok (.iconst 1, 1) := by decide +kernel
theorem d_law_298 : decode code 298 = .ok (.goto 4, 3) := by decide +kernel
theorem d_law_301 : decode code 301 = .ok (.iconst 0, 1) := by decide +kernel
theorem d_law_302 : decode code 302 = .ok (.invokevirtual 38, 3) := by decide +kernel
theorem d_law_305 : decode code 305 = .ok (.aload_n 2, 1) := by decide +kernel
theorem d_law_306 : decode code 306 = .ok (.aload_n 0, 1) := by decide +kernel
theorem d_law_307 : decode code 307 = .ok (.iload 4, 2) := by decide +kernel
theorem d_law_309 : decode code 309 = .ok (.iconst 1, 1) := by decide +kernel
theorem d_law_310 : decode code 310 = .ok (.iadd, 1) := by decide +kernel
theorem d_law_311 : decode code 311 = .ok (.iaload, 1) := by decide +kernel
theorem d_law_312 : decode code 312 = .ok (.ifCond .eq 7, 3) := by decide +kernel
theorem d_law_315 : decode code 315 = .ok (.iconst 1, 1) := by decide +kernel
theorem d_law_316 : decode code 316 = .ok (.goto 4, 3) := by decide +kernel
theorem d_law_319 : decode code 319 = .ok (.iconst 0, 1) := by decide +kernel
theorem d_law_320 : decode code 320 = .ok (.invokevirtual 42, 3) := by decide +kernel
theorem d_law_323 : decode code 323 = .ok (.if_icmp .eq 291, 3) := by decide +kernel
theorem d_law_326 : decode code 326 = .ok (.iconst 0, 1) := by decide +kernel
theorem d_law_327 : decode code 327 = .ok (.ireturn, 1) := by decide +kernel
theorem d_law_328 : decode code 328 = .ok (.aload_n 1, 1) := by decide +kernel
theorem d_law_329 : decode code 329 = .ok (.aload_n 0, 1) := by decide +kernel
theorem d_law_330 : decode code 330 = .ok (.iload 4, 2) := by decide +kernel
theorem d_law_332 : decode code 332 = .ok (.iconst 1, 1) := by decide +kernel
theorem d_law_333 : decode code 333 = .ok (.iadd, 1) := by decide +kernel
theorem d_law_334 : decode code 334 = .ok (.iaload, 1) := by decide +kernel
theorem d_law_335 : decode code 335 = .ok (.invokevirtual 43, 3) := by decide +kernel
theorem d_law_338 : decode code 338 = .ok (.aload_n 2, 1) := by decide +kernel
theorem d_law_339 : decode code 339 = .ok (.aload_n 0, 1) := by decide +kernel
theorem d_law_340 : decode code 340 = .ok (.iload 4, 2) := by decide +kernel
theorem d_law_342 : decode code 342 = .ok (.iconst 1, 1) := by decide +kernel
theorem d_law_343 : decode code 343 = .ok (.iadd, 1) := by decide +kernel
theorem d_law_344 : decode code 344 = .ok (.iaload, 1) := by decide +kernel
theorem d_law_345 : decode code 345 = .ok (.invokevirtual 47, 3) := by decide +kernel
theorem d_law_348 : decode code 348 = .ok (.if_icmp .eq 266, 3) := by decide +kernel
theorem d_law_351 : decode code 351 = .ok (.iconst 0, 1) := by decide +kernel
theorem d_law_352 : decode code 352 = .ok (.ireturn, 1) := by decide +kernel
theorem d_law_353 : decode code 353 = .ok (.aload_n 1, 1) := by decide +kernel
theorem d_law_354 : decode code 354 = .ok (.aload_n 0, 1) := by decide +kernel
theorem d_law_355 : decode code 355 = .ok (.iload 4, 2) := by decide +kernel
theorem d_law_357 : decode code 357 = .ok (.iconst 1, 1) := by decide +kernel
theorem d_law_358 : decode code 358 = .ok (.iadd, 1) := by decide +kernel
theorem d_law_359 : decode code 359 = .ok (.iaload, 1) := by decide +kernel
theorem d_law_360 : decode code 360 = .ok (.aload_n 0, 1) := by decide +kernel
theorem d_law_361 : decode code 361 = .ok (.iload 4, 2) := by decide +kernel
theorem d_law_363 : decode code 363 = .ok (.iconst 2, 1) := by decide +kernel
theorem d_law_364 : decode code 364 = .ok (.iadd, 1) := by decide +kernel
theorem d_law_365 : decode code 365 = .ok (.iaload, 1) := by decide +kernel
theorem d_law_366 : decode code 366 = .ok (.aload_n 3, 1) := by decide +kernel
theorem d_law_367 : decode code 367 = .ok (.invokestatic 48, 3) := by decide +kernel
theorem d_law_370 : decode code 370 = .ok (.istore 5, 2) := by decide +kernel
theorem d_law_372 : decode code 372 = .ok (.aload_n 2, 1) := by decide +kernel
theorem d_law_373 : decode code 373 = .ok (.aload_n 0, 1) := by decide +kernel
theorem d_law_374 : decode code 374 = .ok (.iload 4, 2) := by decide +kernel
theorem d_law_376 : decode code 376 = .ok (.iconst 1, 1) := by decide +kernel
theorem d_law_377 : decode code 377 = .ok (.iadd, 1) := by decide +kernel
theorem d_law_378 : decode code 378 = .ok (.iaload, 1) := by decide +kernel
theorem d_law_379 : decode code 379 = .ok (.aload_n 0, 1) := by decide +kernel
theorem d_law_380 : decode code 380 = .ok (.iload 4, 2) := by decide +kernel
theorem d_law_382 : decode code 382 = .ok (.iconst 2, 1) := by decide +kernel
theorem d_law_383 : decode code 383 = .ok (.iadd, 1) := by decide +kernel
theorem d_law_384 : decode code 384 = .ok (.iaload, 1) := by decide +kernel
theorem d_law_385 : decode code 385 = .ok (.invokevirtual 53, 3) := by decide +kernel
theorem d_law_388 : decode code 388 = .ok (.istore 6, 2) := by decide +kernel
theorem d_law_390 : decode code 390 = .ok (.aload_n 2, 1) := by decide +kernel
theorem d_law_391 : decode code 391 = .ok (.invokevirtual 54, 3) := by decide +kernel
theorem d_law_394 : decode code 394 = .ok (.iload 5, 2) := by decide +kernel
theorem d_law_396 : decode code 396 = .ok (.if_icmp .eq 5, 3) := by decide +kernel
theorem d_law_399 : decode code 399 = .ok (.iconst 0, 1) := by decide +kernel
theorem d_law_400 : decode code 400 = .ok (.ireturn, 1) := by decide +kernel
theorem d_law_401 : decode code 401 = .ok (.iload 5, 2) := by decide +kernel
theorem d_law_403 : decode code 403 = .ok (.ifCond .ne 15, 3) := by decide +kernel
theorem d_law_406 : decode code 406 = .ok (.aload_n 3, 1) := by decide +kernel
theorem d_law_407 : decode code 407 = .ok (.iconst 0, 1) := by decide +kernel
theorem d_law_408 : decode code 408 = .ok (.laload, 1) := by decide +kernel
theorem d_law_409 : decode code 409 = .ok (.iload 6, 2) := by decide +kernel
theorem d_law_411 : decode code 411 = .ok (.i2l, 1) := by decide +kernel
theorem d_law_412 : decode code 412 = .ok (.lcmp, 1) := by decide +kernel
theorem d_law_413 : decode code 413 = .ok (.ifCond .eq 5, 3) := by decide +kernel
theorem d_law_416 : decode code 416 = .ok (.iconst 0, 1) := by decide +kernel
theorem d_law_417 : decode code 417 = .ok (.ireturn, 1) := by decide +kernel
theorem d_law_418 : decode code 418 = .ok (.goto 196, 3) := by decide +kernel
theorem d_law_421 : decode code 421 = .ok (.aload_n 1, 1) := by decide +kernel
theorem d_law_422 : decode code 422 = .ok (.aload_n 0, 1) := by decide +kernel
theorem d_law_423 : decode code 423 = .ok (.iload 4, 2) := by decide +kernel
theorem d_law_425 : decode code 425 = .ok (.iconst 1, 1) := by decide +kernel
theorem d_law_426 : decode code 426 = .ok (.iadd, 1) := by decide +kernel
theorem d_law_427 : decode code 427 = .ok (.iaload, 1) := by decide +kernel
theorem d_law_428 : decode code 428 = .ok (.invokevirtual 58, 3) := by decide +kernel
theorem d_law_431 : decode code 431 = .ok (.aload_n 2, 1) := by decide +kernel
theorem d_law_432 : decode code 432 = .ok (.aload_n 0, 1) := by decide +kernel
theorem d_law_433 : decode code 433 = .ok (.iload 4, 2) := by decide +kernel
theorem d_law_435 : decode code 435 = .ok (.iconst 1, 1) := by decide +kernel
theorem d_law_436 : decode code 436 = .ok (.iadd, 1) := by decide +kernel
theorem d_law_437 : decode code 437 = .ok (.iaload, 1) := by decide +kernel
theorem d_law_438 : decode code 438 = .ok (.invokevirtual 61, 3) := by decide +kernel
theorem d_law_441 : decode code 441 = .ok (.if_icmp .eq 173, 3) := by decide +kernel
theorem d_law_444 : decode code 444 = .ok (.iconst 0, 1) := by decide +kernel
theorem d_law_445 : decode code 445 = .ok (.ireturn, 1) := by decide +kernel
theorem d_law_446 : decode code 446 = .ok (.aload_n 1, 1) := by decide +kernel
theorem d_law_447 : decode code 447 = .ok (.aload_n 0, 1) := by decide +kernel
theorem d_law_448 : decode code 448 = .ok (.iload 4, 2) := by decide +kernel
theorem d_law_450 : decode code 450 = .ok (.iconst 1, 1) := by decide +kernel
theorem d_law_451 : decode code 451 = .ok (.iadd, 1) := by decide +kernel
theorem d_law_452 : decode code 452 = .ok (.iaload, 1) := by decide +kernel
theorem d_law_453 : decode code 453 = .ok (.aload_n 0, 1) := by decide +kernel
theorem d_law_454 : decode code 454 = .ok (.iload 4, 2) := by decide +kernel
theorem d_law_456 : decode code 456 = .ok (.iconst 2, 1) := by decide +kernel
theorem d_law_457 : decode code 457 = .ok (.iadd, 1) := by decide +kernel
theorem d_law_458 : decode code 458 = .ok (.iaload, 1) := by decide +kernel
theorem d_law_459 : decode code 459 = .ok (.aload_n 3, 1) := by decide +kernel
theorem d_law_460 : decode code 460 = .ok (.invokestatic 62, 3) := by decide +kernel
theorem d_law_463 : decode code 463 = .ok (.istore 5, 2) := by decide +kernel
theorem d_law_465 : decode code 465 = .ok (.aload_n 2, 1) := by decide +kernel
theorem d_law_466 : decode code 466 = .ok (.aload_n 0, 1) := by decide +kernel
theorem d_law_467 : decode code 467 = .ok (.iload 4, 2) := by decide +kernel
theorem d_law_469 : decode code 469 = .ok (.iconst 1, 1) := by decide +kernel
theorem d_law_470 : decode code 470 = .ok (.iadd, 1) := by decide +kernel
theorem d_law_471 : decode code 471 = .ok (.iaload, 1) := by decide +kernel
theorem d_law_472 : decode code 472 = .ok (.aload_n 0, 1) := by decide +kernel
theorem d_law_473 : decode code 473 = .ok (.iload 4, 2) := by decide +kernel
theorem d_law_475 : decode code 475 = .ok (.iconst 2, 1) := by decide +kernel
theorem d_law_476 : decode code 476 = .ok (.iadd, 1) := by decide +kernel
theorem d_law_477 : decode code 477 = .ok (.iaload, 1) := by decide +kernel
theorem d_law_478 : decode code 478 = .ok (.invokevirtual 64, 3) := by decide +kernel
theorem d_law_481 : decode code 481 = .ok (.istore 6, 2) := by decide +kernel
theorem d_law_483 : decode code 483 = .ok (.aload_n 2, 1) := by decide +kernel
theorem d_law_484 : decode code 484 = .ok (.invokevirtual 54, 3) := by decide +kernel
theorem d_law_487 : decode code 487 = .ok (.iload 5, 2) := by decide +kernel
theorem d_law_489 : decode code 489 = .ok (.if_icmp .eq 5, 3) := by decide +kernel
theorem d_law_492 : decode code 492 = .ok (.iconst 0, 1) := by decide +kernel
theorem d_law_493 : decode code 493 = .ok (.ireturn, 1) := by decide +kernel
theorem d_law_494 : decode code 494 = .ok (.iload 5, 2) := by decide +kernel
theorem d_law_496 : decode code 496 = .ok (.ifCond .ne 15, 3) := by decide +kernel
theorem d_law_499 : decode code 499 = .ok (.aload_n 3, 1) := by decide +kernel
theorem d_law_500 : decode code 500 = .ok (.iconst 0, 1) := by decide +kernel
theorem d_law_501 : decode code 501 = .ok (.laload, 1) := by decide +kernel
theorem d_law_502 : decode code 502 = .ok (.iload 6, 2) := by decide +kernel
theorem d_law_504 : decode code 504 = .ok (.i2l, 1) := by decide +kernel
theorem d_law_505 : decode code 505 = .ok (.lcmp, 1) := by decide +kernel
theorem d_law_506 : decode code 506 = .ok (.ifCond .eq 5, 3) := by decide +kernel
theorem d_law_509 : decode code 509 = .ok (.iconst 0, 1) := by decide +kernel
theorem d_law_510 : decode code 510 = .ok (.ireturn, 1) := by decide +kernel
theorem d_law_511 : decode code 511 = .ok (.goto 103, 3) := by decide +kernel
theorem d_law_514 : decode code 514 = .ok (.aload_n 1, 1) := by decide +kernel
theorem d_law_515 : decode code 515 = .ok (.aload_n 0, 1) := by decide +kernel
theorem d_law_516 : decode code 516 = .ok (.iload 4, 2) := by decide +kernel
theorem d_law_518 : decode code 518 = .ok (.iconst 1, 1) := by decide +kernel
theorem d_law_519 : decode code 519 = .ok (.iadd, 1) := by decide +kernel
theorem d_law_520 : decode code 520 = .ok (.iaload, 1) := by decide +kernel
theorem d_law_521 : decode code 521 = .ok (.invokevirtual 65, 3) := by decide +kernel
theorem d_law_524 : decode code 524 = .ok (.aload_n 2, 1) := by decide +kernel
theorem d_law_525 : decode code 525 = .ok (.aload_n 0, 1) := by decide +kernel
theorem d_law_526 : decode code 526 = .ok (.iload 4, 2) := by decide +kernel
theorem d_law_528 : decode code 528 = .ok (.iconst 1, 1) := by decide +kernel
theorem d_law_529 : decode code 529 = .ok (.iadd, 1) := by decide +kernel
theorem d_law_530 : decode code 530 = .ok (.iaload, 1) := by decide +kernel
theorem d_law_531 : decode code 531 = .ok (.invokevirtual 68, 3) := by decide +kernel
theorem d_law_534 : decode code 534 = .ok (.if_icmp .eq 80, 3) := by decide +kernel
theorem d_law_537 : decode code 537 = .ok (.iconst 0, 1) := by decide +kernel
theorem d_law_538 : decode code 538 = .ok (.ireturn, 1) := by decide +kernel
theorem d_law_539 : decode code 539 = .ok (.aload_n 1, 1) := by decide +kernel
theorem d_law_540 : decode code 540 = .ok (.aload_n 0, 1) := by decide +kernel
theorem d_law_541 : decode code 541 = .ok (.iload 4, 2) := by decide +kernel
theorem d_law_543 : decode code 543 = .ok (.iconst 1, 1) := by decide +kernel
theorem d_law_544 : decode code 544 = .ok (.iadd, 1) := by decide +kernel
theorem d_law_545 : decode code 545 = .ok (.iaload, 1) := by decide +kernel
theorem d_law_546 : decode code 546 = .ok (.invokevirtual 69, 3) := by decide +kernel
theorem d_law_549 : decode code 549 = .ok (.aload_n 2, 1) := by decide +kernel
theorem d_law_550 : decode code 550 = .ok (.aload_n 0, 1) := by decide +kernel
theorem d_law_551 : decode code 551 = .ok (.iload 4, 2) := by decide +kernel
theorem d_law_553 : decode code 553 = .ok (.iconst 1, 1) := by decide +kernel
theorem d_law_554 : decode code 554 = .ok (.iadd, 1) := by decide +kernel
theorem d_law_555 : decode code 555 = .ok (.iaload, 1) := by decide +kernel
theorem d_law_556 : decode code 556 = .ok (.invokevirtual 72, 3) := by decide +kernel
theorem d_law_559 : decode code 559 = .ok (.if_icmp .eq 55, 3) := by decide +kernel
theorem d_law_562 : decode code 562 = .ok (.iconst 0, 1) := by decide +kernel
theorem d_law_563 : decode code 563 = .ok (.ireturn, 1) := by decide +kernel
theorem d_law_564 : decode code 564 = .ok (.aload_n 1, 1) := by decide +kernel
theorem d_law_565 : decode code 565 = .ok (.aload_n 0, 1) := by decide +kernel
theorem d_law_566 : decode code 566 = .ok (.iload 4, 2) := by decide +kernel
theorem d_law_568 : decode code 568 = .ok (.iconst 1, 1) := by decide +kernel
theorem d_law_569 : decode code 569 = .ok (.iadd, 1) := by decide +kernel
theorem d_law_570 : decode code 570 = .ok (.iaload, 1) := by decide +kernel
theorem d_law_571 : decode code 571 = .ok (.invokevirtual 73, 3) := by decide +kernel
theorem d_law_574 : decode code 574 = .ok (.aload_n 2, 1) := by decide +kernel
theorem d_law_575 : decode code 575 = .ok (.aload_n 0, 1) := by decide +kernel
theorem d_law_576 : decode code 576 = .ok (.iload 4, 2) := by decide +kernel
theorem d_law_578 : decode code 578 = .ok (.iconst 1, 1) := by decide +kernel
theorem d_law_579 : decode code 579 = .ok (.iadd, 1) := by decide +kernel
theorem d_law_580 : decode code 580 = .ok (.iaload, 1) := by decide +kernel
theorem d_law_581 : decode code 581 = .ok (.invokevirtual 76, 3) := by decide +kernel
theorem d_law_584 : decode code 584 = .ok (.if_icmp .eq 30, 3) := by decide +kernel
theorem d_law_587 : decode code 587 = .ok (.iconst 0, 1) := by decide +kernel
theorem d_law_588 : decode code 588 = .ok (.ireturn, 1) := by decide +kernel
theorem d_law_589 : decode code 589 = .ok (.aload_n 1, 1) := by decide +kernel
theorem d_law_590 : decode code 590 = .ok (.aload_n 0, 1) := by decide +kernel
theorem d_law_591 : decode code 591 = .ok (.iload 4, 2) := by decide +kernel
theorem d_law_593 : decode code 593 = .ok (.iconst 1, 1) := by decide +kernel
theorem d_law_594 : decode code 594 = .ok (.iadd, 1) := by decide +kernel
theorem d_law_595 : decode code 595 = .ok (.iaload, 1) := by decide +kernel
theorem d_law_596 : decode code 596 = .ok (.invokevirtual 77, 3) := by decide +kernel
theorem d_law_599 : decode code 599 = .ok (.aload_n 2, 1) := by decide +kernel
theorem d_law_600 : decode code 600 = .ok (.aload_n 0, 1) := by decide +kernel
theorem d_law_601 : decode code 601 = .ok (.iload 4, 2) := by decide +kernel
theorem d_law_603 : decode code 603 = .ok (.iconst 1, 1) := by decide +kernel
theorem d_law_604 : decode code 604 = .ok (.iadd, 1) := by decide +kernel
theorem d_law_605 : decode code 605 = .ok (.iaload, 1) := by decide +kernel
theorem d_law_606 : decode code 606 = .ok (.invokevirtual 80, 3) := by decide +kernel
theorem d_law_609 : decode code 609 = .ok (.if_icmp .eq 5, 3) := by decide +kernel
theorem d_law_612 : decode code 612 = .ok (.iconst 0, 1) := by decide +kernel
theorem d_law_613 : decode code 613 = .ok (.ireturn, 1) := by decide +kernel
theorem d_law_614 : decode code 614 = .ok (.iinc 4 6, 3) := by decide +kernel
theorem d_law_617 : decode code 617 = .ok (.goto (-594), 3) := by decide +kernel
theorem d_law_620 : decode code 620 = .ok (.iconst 1, 1) := by decide +kernel
theorem d_law_621 : decode code 621 = .ok (.ireturn, 1) := by decide +kernel
set_option maxRecDepth 100000 in
theorem wl_Lw_24 : Cond.methodLink R_Lw 24 M_UM_node.1 ∈ um_AW := um_in 361 (by decide +kernel) rfl
set_option maxRecDepth 100000 in
theorem wnf_UM_node : Cond.instanceMethod M_UM_node.1 ∈ um_AW := um_in 362 (by decide +kernel) rfl
set_option maxRecDepth 100000 in
theorem wvf_UM_node : Cond.selects R_UM M_UM_node.1 M_UM_node.1 ∈ um_AW := um_in 363 (by decide +kernel) rfl
theorem g_Lw_24 : um_Iv um_cl um_AW R_Lw 24 0 M_UM_node 5 := ⟨⟨um_gd, wc_UM_node, wii_UM, ⟨by decide, by decide, by decide +kernel⟩, Or.inl wl_Lw_24⟩, (R_UM, F_UM, 4), rfl, wnf_UM_node, wvf_UM_node⟩
set_option maxRecDepth 100000 in
theorem wl_Lw_28 : Cond.methodLink R_Lw 28 M_Mo_node.1 ∈ um_AW := um_in 939 (by decide +kernel) rfl
set_option maxRecDepth 100000 in
theorem wnf_Mo_node : Cond.instanceMethod M_Mo_node.1 ∈ um_AW := um_in 940 (by decide +kernel) rfl
set_option maxRecDepth 100000 in
theorem wvf_Mo_node : Cond.selects R_Mo M_Mo_node.1 M_Mo_node.1 ∈ um_AW := um_in 941 (by decide +kernel) rfl
theorem g_Lw_28 : um_Iv um_cl um_AW R_Lw 28 8 M_Mo_node 5 := ⟨⟨um_gd, wc_Mo_node, wii_Mo, ⟨by decide, by decide, by decide +kernel⟩, Or.inl wl_Lw_28⟩, (R_Mo, F_Mo, 58), rfl, wnf_Mo_node, wvf_Mo_node⟩
set_option maxRecDepth 100000 in
theorem wl_Lw_29 : Cond.methodLink R_Lw 29 M_UM_catchBehind.1 ∈ um_AW := um_in 385 (by decide +kernel) rfl
set_option maxRecDepth 100000 in
theorem wnf_UM_catchBehind : Cond.instanceMethod M_UM_catchBehind.1 ∈ um_AW := um_in 386 (by decide +kernel) rfl
set_option maxRecDepth 100000 in
theorem wvf_UM_catchBehind : Cond.selects R_UM M_UM_catchBehind.1 M_UM_catchBehind.1 ∈ um_AW := um_in 387 (by decide +kernel) rfl
theorem g_Lw_29 : um_Iv um_cl um_AW R_Lw 29 0 M_UM_catchBehind 5 := ⟨⟨um_gd, wc_UM_catchBehind, wii_UM, ⟨by decide, by decide, by decide +kernel⟩, Or.inl wl_Lw_29⟩, (R_UM, F_UM, 4), rfl, wnf_UM_catchBehind, wvf_UM_catchBehind⟩
set_option maxRecDepth 100000 in
theorem wl_Lw_32 : Cond.methodLink R_Lw 32 M_Mo_catchBehind.1 ∈ um_AW := um_in 970 (by decide +kernel) rfl
set_option maxRecDepth 100000 in
theorem wnf_Mo_catchBehind : Cond.instanceMethod M_Mo_catchBehind.1 ∈ um_AW := um_in 971 (by decide +kernel) rfl
set_option maxRecDepth 100000 in
theorem wvf_Mo_catchBehind : Cond.selects R_Mo M_Mo_catchBehind.1 M_Mo_catchBehind.1 ∈ um_AW := um_in 972 (by decide +kernel) rfl
theorem g_Lw_32 : um_Iv um_cl um_AW R_Lw 32 8 M_Mo_catchBehind 5 := ⟨⟨um_gd, wc_Mo_catchBehind, wii_Mo, ⟨by decide, by decide, by decide +kernel⟩, Or.inl wl_Lw_32⟩, (R_Mo, F_Mo, 58), rfl, wnf_Mo_catchBehind, wvf_Mo_catchBehind⟩
set_option maxRecDepth 100000 in
theorem wl_Lw_33 : Cond.methodLink R_Lw 33 M_UM_body.1 ∈ um_AW := um_in 389 (by decide +kernel) rfl
set_option maxRecDepth 100000 in
theorem wnf_UM_body : Cond.instanceMethod M_UM_body.1 ∈ um_AW := um_in 390 (by decide +kernel) rfl
set_option maxRecDepth 100000 in
theorem wvf_UM_body : Cond.selects R_UM M_UM_body.1 M_UM_body.1 ∈ um_AW := um_in 391 (by decide +kernel) rfl
theorem g_Lw_33 : um_Iv um_cl um_AW R_Lw 33 0 M_UM_body 2 := ⟨⟨um_gd, wc_UM_body, wii_UM, ⟨by decide, by decide, by decide +kernel⟩, Or.inl wl_Lw_33⟩, (R_UM, F_UM, 4), rfl, wnf_UM_body, wvf_UM_body⟩
set_option maxRecDepth 100000 in
theorem wl_Lw_37 : Cond.methodLink R_Lw 37 M_Mo_body.1 ∈ um_AW := um_in 974 (by decide +kernel) rfl
set_option maxRecDepth 100000 in
theorem wnf_Mo_body : Cond.instanceMethod M_Mo_body.1 ∈ um_AW := um_in 975 (by decide +kernel) rfl
set_option maxRecDepth 100000 in
theorem wvf_Mo_body : Cond.selects R_Mo M_Mo_body.1 M_Mo_body.1 ∈ um_AW := um_in 976 (by decide +kernel) rfl
theorem g_Lw_37 : um_Iv um_cl um_AW R_Lw 37 8 M_Mo_body 2 := ⟨⟨um_gd, wc_Mo_body, wii_Mo, ⟨by decide, by decide, by decide +kernel⟩, Or.inl wl_Lw_37⟩, (R_Mo, F_Mo, 58), rfl, wnf_Mo_body, wvf_Mo_body⟩
set_option maxRecDepth 100000 in
theorem wl_Lw_38 : Cond.methodLink R_Lw 38 M_UM_lay.1 ∈ um_AW := um_in 397 (by decide +kernel) rfl
set_option maxRecDepth 100000 in
theorem wnf_UM_lay : Cond.instanceMethod M_UM_lay.1 ∈ um_AW := um_in 398 (by decide +kernel) rfl
set_option maxRecDepth 100000 in
theorem wvf_UM_lay : Cond.selects R_UM M_UM_lay.1 M_UM_lay.1 ∈ um_AW := um_in 399 (by decide +kernel) rfl
theorem g_Lw_38 : um_Iv um_cl um_AW R_Lw 38 0 M_UM_lay 1 := ⟨⟨um_gd, wc_UM_lay, wii_UM, ⟨by decide, by decide, by decide +kernel⟩, Or.inl wl_Lw_38⟩, (R_UM, F_UM, 4), rfl, wnf_UM_lay, wvf_UM_lay⟩
set_option maxRecDepth 100000 in
theorem wl_Lw_42 : Cond.methodLink R_Lw 42 M_Mo_lay.1 ∈ um_AW := um_in 978 (by decide +kernel) rfl
set_option maxRecDepth 100000 in
theorem wnf_Mo_lay : Cond.instanceMethod M_Mo_lay.1 ∈ um_AW := um_in 979 (by decide +kernel) rfl
set_option maxRecDepth 100000 in
theorem wvf_Mo_lay : Cond.selects R_Mo M_Mo_lay.1 M_Mo_lay.1 ∈ um_AW := um_in 980 (by decide +kernel) rfl
theorem g_Lw_42 : um_Iv um_cl um_AW R_Lw 42 8 M_Mo_lay 1 := ⟨⟨um_gd, wc_Mo_lay, wii_Mo, ⟨by decide, by decide, by decide +kernel⟩, Or.inl wl_Lw_42⟩, (R_Mo, F_Mo, 58), rfl, wnf_Mo_lay, wvf_Mo_lay⟩
set_option maxRecDepth 100000 in
theorem wl_Lw_43 : Cond.methodLink R_Lw 43 M_UM_laid.1 ∈ um_AW := um_in 574 (by decide +kernel) rfl
set_option maxRecDepth 100000 in
theorem wnf_UM_laid : Cond.instanceMethod M_UM_laid.1 ∈ um_AW := um_in 575 (by decide +kernel) rfl
set_option maxRecDepth 100000 in
theorem wvf_UM_laid : Cond.selects R_UM M_UM_laid.1 M_UM_laid.1 ∈ um_AW := um_in 576 (by decide +kernel) rfl
theorem g_Lw_43 : um_Iv um_cl um_AW R_Lw 43 0 M_UM_laid 1 := ⟨⟨um_gd, wc_UM_laid, wii_UM, ⟨by decide, by decide, by decide +kernel⟩, Or.inl wl_Lw_43⟩, (R_UM, F_UM, 4), rfl, wnf_UM_laid, wvf_UM_laid⟩
set_option maxRecDepth 100000 in
theorem wl_Lw_47 : Cond.methodLink R_Lw 47 M_Mo_laid.1 ∈ um_AW := um_in 1080 (by decide +kernel) rfl
set_option maxRecDepth 100000 in
theorem wnf_Mo_laid : Cond.instanceMethod M_Mo_laid.1 ∈ um_AW := um_in 1081 (by decide +kernel) rfl
set_option maxRecDepth 100000 in
theorem wvf_Mo_laid : Cond.selects R_Mo M_Mo_laid.1 M_Mo_laid.1 ∈ um_AW := um_in 1082 (by decide +kernel) rfl
theorem g_Lw_47 : um_Iv um_cl um_AW R_Lw 47 8 M_Mo_laid 1 := ⟨⟨um_gd, wc_Mo_laid, wii_Mo, ⟨by decide, by decide, by decide +kernel⟩, Or.inl wl_Lw_47⟩, (R_Mo, F_Mo, 58), rfl, wnf_Mo_laid, wvf_Mo_laid⟩
set_option maxRecDepth 100000 in
theorem wl_Lw_53 : Cond.methodLink R_Lw 53 M_Mo_instruction.1 ∈ um_AW := um_in 1084 (by decide +kernel) rfl
set_option maxRecDepth 100000 in
theorem wnf_Mo_instruction : Cond.instanceMethod M_Mo_instruction.1 ∈ um_AW := um_in 1085 (by decide +kernel) rfl
set_option maxRecDepth 100000 in
theorem wvf_Mo_instruction : Cond.selects R_Mo M_Mo_instruction.1 M_Mo_instruction.1 ∈ um_AW := um_in 1086 (by decide +kernel) rfl
theorem g_Lw_53 : um_Iv um_cl um_AW R_Lw 53 8 M_Mo_instruction 2 := ⟨⟨um_gd, wc_Mo_instruction, wii_Mo, ⟨by decide, by decide, by decide +kernel⟩, Or.inl wl_Lw_53⟩, (R_Mo, F_Mo, 58), rfl, wnf_Mo_instruction, wvf_Mo_instruction⟩
set_option maxRecDepth 100000 in
theorem wl_Lw_54 : Cond.methodLink R_Lw 54 M_Mo_thrown.1 ∈ um_AW := um_in 935 (by decide +kernel) rfl
set_option maxRecDepth 100000 in
theorem wnf_Mo_thrown : Cond.instanceMethod M_Mo_thrown.1 ∈ um_AW := um_in 936 (by decide +kernel) rfl
set_option maxRecDepth 100000 in
theorem wvf_Mo_thrown : Cond.selects R_Mo M_Mo_thrown.1 M_Mo_thrown.1 ∈ um_AW := um_in 937 (by decide +kernel) rfl
theorem g_Lw_54 : um_Iv um_cl um_AW R_Lw 54 8 M_Mo_thrown 0 := ⟨⟨um_gd, wc_Mo_thrown, wii_Mo, ⟨by decide, by decide, by decide +kernel⟩, Or.inl wl_Lw_54⟩, (R_Mo, F_Mo, 58), rfl, wnf_Mo_thrown, wvf_Mo_thrown⟩
set_option maxRecDepth 100000 in
theorem wl_Lw_58 : Cond.methodLink R_Lw 58 M_UM_entry.1 ∈ um_AW := um_in 582 (by decide +kernel) rfl
set_option maxRecDepth 100000 in
theorem wnf_UM_entry : Cond.instanceMethod M_UM_entry.1 ∈ um_AW := um_in 583 (by decide +kernel) rfl
set_option maxRecDepth 100000 in
theorem wvf_UM_entry : Cond.selects R_UM M_UM_entry.1 M_UM_entry.1 ∈ um_AW := um_in 584 (by decide +kernel) rfl
theorem g_Lw_58 : um_Iv um_cl um_AW R_Lw 58 0 M_UM_entry 1 := ⟨⟨um_gd, wc_UM_entry, wii_UM, ⟨by decide, by decide, by decide +kernel⟩, Or.inl wl_Lw_58⟩, (R_UM, F_UM, 4), rfl, wnf_UM_entry, wvf_UM_entry⟩
set_option maxRecDepth 100000 in
theorem wl_Lw_61 : Cond.methodLink R_Lw 61 M_Mo_entry.1 ∈ um_AW := um_in 1088 (by decide +kernel) rfl
set_option maxRecDepth 100000 in
theorem wnf_Mo_entry : Cond.instanceMethod M_Mo_entry.1 ∈ um_AW := um_in 1089 (by decide +kernel) rfl
set_option maxRecDepth 100000 in
theorem wvf_Mo_entry : Cond.selects R_Mo M_Mo_entry.1 M_Mo_entry.1 ∈ um_AW := um_in 1090 (by decide +kernel) rfl
theorem g_Lw_61 : um_Iv um_cl um_AW R_Lw 61 8 M_Mo_entry 1 := ⟨⟨um_gd, wc_Mo_entry, wii_Mo, ⟨by decide, by decide, by decide +kernel⟩, Or.inl wl_Lw_61⟩, (R_Mo, F_Mo, 58), rfl, wnf_Mo_entry, wvf_Mo_entry⟩
set_option maxRecDepth 100000 in
theorem wl_Lw_64 : Cond.methodLink R_Lw 64 M_Mo_row_II.1 ∈ um_AW := um_in 1092 (by decide +kernel) rfl
set_option maxRecDepth 100000 in
theorem wnf_Mo_row_II : Cond.instanceMethod M_Mo_row_II.1 ∈ um_AW := um_in 1093 (by decide +kernel) rfl
set_option maxRecDepth 100000 in
theorem wvf_Mo_row_II : Cond.selects R_Mo M_Mo_row_II.1 M_Mo_row_II.1 ∈ um_AW := um_in 1094 (by decide +kernel) rfl
theorem g_Lw_64 : um_Iv um_cl um_AW R_Lw 64 8 M_Mo_row_II 2 := ⟨⟨um_gd, wc_Mo_row_II, wii_Mo, ⟨by decide, by decide, by decide +kernel⟩, Or.inl wl_Lw_64⟩, (R_Mo, F_Mo, 58), rfl, wnf_Mo_row_II, wvf_Mo_row_II⟩
set_option maxRecDepth 100000 in
theorem wl_Lw_65 : Cond.methodLink R_Lw 65 M_UM_run.1 ∈ um_AW := um_in 587 (by decide +kernel) rfl
set_option maxRecDepth 100000 in
theorem wnf_UM_run : Cond.instanceMethod M_UM_run.1 ∈ um_AW := um_in 588 (by decide +kernel) rfl
set_option maxRecDepth 100000 in
theorem wvf_UM_run : Cond.selects R_UM M_UM_run.1 M_UM_run.1 ∈ um_AW := um_in 589 (by decide +kernel) rfl
theorem g_Lw_65 : um_Iv um_cl um_AW R_Lw 65 0 M_UM_run 1 := ⟨⟨um_gd, wc_UM_run, wii_UM, ⟨by decide, by decide, by decide +kernel⟩, Or.inl wl_Lw_65⟩, (R_UM, F_UM, 4), rfl, wnf_UM_run, wvf_UM_run⟩
set_option maxRecDepth 100000 in
theorem wl_Lw_68 : Cond.methodLink R_Lw 68 M_Mo_run.1 ∈ um_AW := um_in 1096 (by decide +kernel) rfl
set_option maxRecDepth 100000 in
theorem wnf_Mo_run : Cond.instanceMethod M_Mo_run.1 ∈ um_AW := um_in 1097 (by decide +kernel) rfl
set_option maxRecDepth 100000 in
theorem wvf_Mo_run : Cond.selects R_Mo M_Mo_run.1 M_Mo_run.1 ∈ um_AW := um_in 1098 (by decide +kernel) rfl
theorem g_Lw_68 : um_Iv um_cl um_AW R_Lw 68 8 M_Mo_run 1 := ⟨⟨um_gd, wc_Mo_run, wii_Mo, ⟨by decide, by decide, by decide +kernel⟩, Or.inl wl_Lw_68⟩, (R_Mo, F_Mo, 58), rfl, wnf_Mo_run, wvf_Mo_run⟩
set_option maxRecDepth 100000 in
theorem wl_Lw_69 : Cond.methodLink R_Lw 69 M_UM_latest.1 ∈ um_AW := um_in 640 (by decide +kernel) rfl
set_option maxRecDepth 100000 in
theorem wnf_UM_latest : Cond.instanceMethod M_UM_latest.1 ∈ um_AW := um_in 641 (by decide +kernel) rfl
set_option maxRecDepth 100000 in
theorem wvf_UM_latest : Cond.selects R_UM M_UM_latest.1 M_UM_latest.1 ∈ um_AW := um_in 642 (by decide +kernel) rfl
theorem g_Lw_69 : um_Iv um_cl um_AW R_Lw 69 0 M_UM_latest 1 := ⟨⟨um_gd, wc_UM_latest, wii_UM, ⟨by decide, by decide, by decide +kernel⟩, Or.inl wl_Lw_69⟩, (R_UM, F_UM, 4), rfl, wnf_UM_latest, wvf_UM_latest⟩
set_option maxRecDepth 100000 in
theorem wl_Lw_72 : Cond.methodLink R_Lw 72 M_Mo_latest.1 ∈ um_AW := um_in 1131 (by decide +kernel) rfl
set_option maxRecDepth 100000 in
theorem wnf_Mo_latest : Cond.instanceMethod M_Mo_latest.1 ∈ um_AW := um_in 1132 (by decide +kernel) rfl
set_option maxRecDepth 100000 in
theorem wvf_Mo_latest : Cond.selects R_Mo M_Mo_latest.1 M_Mo_latest.1 ∈ um_AW := um_in 1133 (by decide +kernel) rfl
theorem g_Lw_72 : um_Iv um_cl um_AW R_Lw 72 8 M_Mo_latest 1 := ⟨⟨um_gd, wc_Mo_latest, wii_Mo, ⟨by decide, by decide, by decide +kernel⟩, Or.inl wl_Lw_72⟩, (R_Mo, F_Mo, 58), rfl, wnf_Mo_latest, wvf_Mo_latest⟩
set_option maxRecDepth 100000 in
theorem wl_Lw_73 : Cond.methodLink R_Lw 73 M_UM_out.1 ∈ um_AW := um_in 644 (by decide +kernel) rfl
set_option maxRecDepth 100000 in
theorem wnf_UM_out : Cond.instanceMethod M_UM_out.1 ∈ um_AW := um_in 645 (by decide +kernel) rfl
set_option maxRecDepth 100000 in
theorem wvf_UM_out : Cond.selects R_UM M_UM_out.1 M_UM_out.1 ∈ um_AW := um_in 646 (by decide +kernel) rfl
theorem g_Lw_73 : um_Iv um_cl um_AW R_Lw 73 0 M_UM_out 1 := ⟨⟨um_gd, wc_UM_out, wii_UM, ⟨by decide, by decide, by decide +kernel⟩, Or.inl wl_Lw_73⟩, (R_UM, F_UM, 4), rfl, wnf_UM_out, wvf_UM_out⟩
set_option maxRecDepth 100000 in
theorem wl_Lw_76 : Cond.methodLink R_Lw 76 M_Mo_out.1 ∈ um_AW := um_in 1135 (by decide +kernel) rfl
set_option maxRecDepth 100000 in
theorem wnf_Mo_out : Cond.instanceMethod M_Mo_out.1 ∈ um_AW := um_in 1136 (by decide +kernel) rfl
set_option maxRecDepth 100000 in
theorem wvf_Mo_out : Cond.selects R_Mo M_Mo_out.1 M_Mo_out.1 ∈ um_AW := um_in 1137 (by decide +kernel) rfl
theorem g_Lw_76 : um_Iv um_cl um_AW R_Lw 76 8 M_Mo_out 1 := ⟨⟨um_gd, wc_Mo_out, wii_Mo, ⟨by decide, by decide, by decide +kernel⟩, Or.inl wl_Lw_76⟩, (R_Mo, F_Mo, 58), rfl, wnf_Mo_out, wvf_Mo_out⟩
set_option maxRecDepth 100000 in
theorem wl_Lw_77 : Cond.methodLink R_Lw 77 M_UM_variable.1 ∈ um_AW := um_in 648 (by decide +kernel) rfl
set_option maxRecDepth 100000 in
theorem wnf_UM_variable : Cond.instanceMethod M_UM_variable.1 ∈ um_AW := um_in 649 (by decide +kernel) rfl
set_option maxRecDepth 100000 in
theorem wvf_UM_variable : Cond.selects R_UM M_UM_variable.1 M_UM_variable.1 ∈ um_AW := um_in 650 (by decide +kernel) rfl
theorem g_Lw_77 : um_Iv um_cl um_AW R_Lw 77 0 M_UM_variable 1 := ⟨⟨um_gd, wc_UM_variable, wii_UM, ⟨by decide, by decide, by decide +kernel⟩, Or.inl wl_Lw_77⟩, (R_UM, F_UM, 4), rfl, wnf_UM_variable, wvf_UM_variable⟩
set_option maxRecDepth 100000 in
theorem wl_Lw_80 : Cond.methodLink R_Lw 80 M_Mo_variable.1 ∈ um_AW := um_in 1139 (by decide +kernel) rfl
set_option maxRecDepth 100000 in
theorem wnf_Mo_variable : Cond.instanceMethod M_Mo_variable.1 ∈ um_AW := um_in 1140 (by decide +kernel) rfl
set_option maxRecDepth 100000 in
theorem wvf_Mo_variable : Cond.selects R_Mo M_Mo_variable.1 M_Mo_variable.1 ∈ um_AW := um_in 1141 (by decide +kernel) rfl
theorem g_Lw_80 : um_Iv um_cl um_AW R_Lw 80 8 M_Mo_variable 1 := ⟨⟨um_gd, wc_Mo_variable, wii_Mo, ⟨by decide, by decide, by decide +kernel⟩, Or.inl wl_Lw_80⟩, (R_Mo, F_Mo, 58), rfl, wnf_Mo_variable, wvf_Mo_variable⟩
