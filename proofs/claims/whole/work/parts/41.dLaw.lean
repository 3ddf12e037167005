theorem d_Law_law_0 : decode code 0 = .ok (.new 8, 3) := by decide +kernel
theorem d_Law_law_3 : decode code 3 = .ok (.dup, 1) := by decide +kernel
theorem d_Law_law_4 : decode code 4 = .ok (.invokespecial 26, 3) := by decide +kernel
theorem d_Law_law_7 : decode code 7 = .ok (.astore_n 1, 1) := by decide +kernel
theorem d_Law_law_8 : decode code 8 = .ok (.new 27, 3) := by decide +kernel
theorem d_Law_law_11 : decode code 11 = .ok (.dup, 1) := by decide +kernel
theorem d_Law_law_12 : decode code 12 = .ok (.invokespecial 29, 3) := by decide +kernel
theorem d_Law_law_15 : decode code 15 = .ok (.astore_n 2, 1) := by decide +kernel
theorem d_Law_law_16 : decode code 16 = .ok (.iconst 1, 1) := by decide +kernel
theorem d_Law_law_17 : decode code 17 = .ok (.newarray .long, 2) := by decide +kernel
theorem d_Law_law_19 : decode code 19 = .ok (.astore_n 3, 1) := by decide +kernel
theorem d_Law_law_20 : decode code 20 = .ok (.iconst 0, 1) := by decide +kernel
theorem d_Law_law_21 : decode code 21 = .ok (.istore 4, 2) := by decide +kernel
theorem d_Law_law_23 : decode code 23 = .ok (.iload 4, 2) := by decide +kernel
theorem d_Law_law_25 : decode code 25 = .ok (.aload_n 0, 1) := by decide +kernel
theorem d_Law_law_26 : decode code 26 = .ok (.arraylength, 1) := by decide +kernel
theorem d_Law_law_27 : decode code 27 = .ok (.bipush 6, 2) := by decide +kernel
theorem d_Law_law_29 : decode code 29 = .ok (.isub, 1) := by decide +kernel
theorem d_Law_law_30 : decode code 30 = .ok (.if_icmp .gt 736, 3) := by decide +kernel
theorem d_Law_law_33 : decode code 33 = .ok (.aload_n 0, 1) := by decide +kernel
theorem d_Law_law_34 : decode code 34 = .ok (.iload 4, 2) := by decide +kernel
theorem d_Law_law_36 : decode code 36 = .ok (.iaload, 1) := by decide +kernel
theorem d_Law_law_37 : decode code 37 = .ok (.bipush 15, 2) := by decide +kernel
theorem d_Law_law_39 : decode code 39 = .ok (.iand, 1) := by decide +kernel
theorem d_Law_law_40 : decode code 40 = .ok (.tableswitch 720 0 15 #[80, 151, 176, 189, 202, 215, 252, 301, 357, 413, 468, 531, 568, 605, 654, 667], 80) := by decide +kernel
theorem d_Law_law_120 : decode code 120 = .ok (.aload_n 1, 1) := by decide +kernel
theorem d_Law_law_121 : decode code 121 = .ok (.aload_n 0, 1) := by decide +kernel
theorem d_Law_law_122 : decode code 122 = .ok (.iload 4, 2) := by decide +kernel
theorem d_Law_law_124 : decode code 124 = .ok (.iconst 1, 1) := by decide +kernel
theorem d_Law_law_125 : decode code 125 = .ok (.iadd, 1) := by decide +kernel
theorem d_Law_law_126 : decode code 126 = .ok (.iaload, 1) := by decide +kernel
theorem d_Law_law_127 : decode code 127 = .ok (.aload_n 0, 1) := by decide +kernel
theorem d_Law_law_128 : decode code 128 = .ok (.iload 4, 2) := by decide +kernel
theorem d_Law_law_130 : decode code 130 = .ok (.iconst 2, 1) := by decide +kernel
theorem d_Law_law_131 : decode code 131 = .ok (.iadd, 1) := by decide +kernel
theorem d_Law_law_132 : decode code 132 = .ok (.iaload, 1) := by decide +kernel
theorem d_Law_law_133 : decode code 133 = .ok (.aload_n 0, 1) := by decide +kernel
theorem d_Law_law_134 : decode code 134 = .ok (.iload 4, 2) := by decide +kernel
theorem d_Law_law_136 : decode code 136 = .ok (.iconst 3, 1) := by decide +kernel
theorem d_Law_law_137 : decode code 137 = .ok (.iadd, 1) := by decide +kernel
theorem d_Law_law_138 : decode code 138 = .ok (.iaload, 1) := by decide +kernel
theorem d_Law_law_139 : decode code 139 = .ok (.aload_n 0, 1) := by decide +kernel
theorem d_Law_law_140 : decode code 140 = .ok (.iload 4, 2) := by decide +kernel
theorem d_Law_law_142 : decode code 142 = .ok (.iconst 4, 1) := by decide +kernel
theorem d_Law_law_143 : decode code 143 = .ok (.iadd, 1) := by decide +kernel
theorem d_Law_law_144 : decode code 144 = .ok (.iaload, 1) := by decide +kernel
theorem d_Law_law_145 : decode code 145 = .ok (.aload_n 0, 1) := by decide +kernel
theorem d_Law_law_146 : decode code 146 = .ok (.iload 4, 2) := by decide +kernel
theorem d_Law_law_148 : decode code 148 = .ok (.iconst 5, 1) := by decide +kernel
theorem d_Law_law_149 : decode code 149 = .ok (.iadd, 1) := by decide +kernel
theorem d_Law_law_150 : decode code 150 = .ok (.iaload, 1) := by decide +kernel
theorem d_Law_law_151 : decode code 151 = .ok (.invokevirtual 30, 3) := by decide +kernel
theorem d_Law_law_154 : decode code 154 = .ok (.aload_n 2, 1) := by decide +kernel
theorem d_Law_law_155 : decode code 155 = .ok (.aload_n 0, 1) := by decide +kernel
theorem d_Law_law_156 : decode code 156 = .ok (.iload 4, 2) := by decide +kernel
theorem d_Law_law_158 : decode code 158 = .ok (.iconst 1, 1) := by decide +kernel
theorem d_Law_law_159 : decode code 159 = .ok (.iadd, 1) := by decide +kernel
theorem d_Law_law_160 : decode code 160 = .ok (.iaload, 1) := by decide +kernel
theorem d_Law_law_161 : decode code 161 = .ok (.aload_n 0, 1) := by decide +kernel
theorem d_Law_law_162 : decode code 162 = .ok (.iload 4, 2) := by decide +kernel
theorem d_Law_law_164 : decode code 164 = .ok (.iconst 2, 1) := by decide +kernel
theorem d_Law_law_165 : decode code 165 = .ok (.iadd, 1) := by decide +kernel
theorem d_Law_law_166 : decode code 166 = .ok (.iaload, 1) := by decide +kernel
theorem d_Law_law_167 : decode code 167 = .ok (.aload_n 0, 1) := by decide +kernel
theorem d_Law_law_168 : decode code 168 = .ok (.iload 4, 2) := by decide +kernel
theorem d_Law_law_170 : decode code 170 = .ok (.iconst 3, 1) := by decide +kernel
theorem d_Law_law_171 : decode code 171 = .ok (.iadd, 1) := by decide +kernel
theorem d_Law_law_172 : decode code 172 = .ok (.iaload, 1) := by decide +kernel
theorem d_Law_law_173 : decode code 173 = .ok (.aload_n 0, 1) := by decide +kernel
theorem d_Law_law_174 : decode code 174 = .ok (.iload 4, 2) := by decide +kernel
theorem d_Law_law_176 : decode code 176 = .ok (.iconst 4, 1) := by decide +kernel
theorem d_Law_law_177 : decode code 177 = .ok (.iadd, 1) := by decide +kernel
theorem d_Law_law_178 : decode code 178 = .ok (.iaload, 1) := by decide +kernel
theorem d_Law_law_179 : decode code 179 = .ok (.aload_n 0, 1) := by decide +kernel
theorem d_Law_law_180 : decode code 180 = .ok (.iload 4, 2) := by decide +kernel
theorem d_Law_law_182 : decode code 182 = .ok (.iconst 5, 1) := by decide +kernel
theorem d_Law_law_183 : decode code 183 = .ok (.iadd, 1) := by decide +kernel
theorem d_Law_law_184 : decode code 184 = .ok (.iaload, 1) := by decide +kernel
theorem d_Law_law_185 : decode code 185 = .ok (.invokevirtual 34, 3) := by decide +kernel
theorem d_Law_law_188 : decode code 188 = .ok (.goto 572, 3) := by decide +kernel
theorem d_Law_law_191 : decode code 191 = .ok (.aload_n 1, 1) := by decide +kernel
theorem d_Law_law_192 : decode code 192 = .ok (.aload_n 0, 1) := by decide +kernel
theorem d_Law_law_193 : decode code 193 = .ok (.iload 4, 2) := by decide +kernel
theorem d_Law_law_195 : decode code 195 = .ok (.iconst 1, 1) := by decide +kernel
theorem d_Law_law_196 : decode code 196 = .ok (.iadd, 1) := by decide +kernel
theorem d_Law_law_197 : decode code 197 = .ok (.iaload, 1) := by decide +kernel
theorem d_Law_law_198 : decode code 198 = .ok (.invokevirtual 35, 3) := by decide +kernel
theorem d_Law_law_201 : decode code 201 = .ok (.aload_n 2, 1) := by decide +kernel
theorem d_Law_law_202 : decode code 202 = .ok (.aload_n 0, 1) := by decide +kernel
theorem d_Law_law_203 : decode code 203 = .ok (.iload 4, 2) := by decide +kernel
theorem d_Law_law_205 : decode code 205 = .ok (.iconst 1, 1) := by decide +kernel
theorem d_Law_law_206 : decode code 206 = .ok (.iadd, 1) := by decide +kernel
theorem d_Law_law_207 : decode code 207 = .ok (.iaload, 1) := by decide +kernel
theorem d_Law_law_208 : decode code 208 = .ok (.invokevirtual 38, 3) := by decide +kernel
theorem d_Law_law_211 : decode code 211 = .ok (.if_icmp .eq 549, 3) := by decide +kernel
theorem d_Law_law_214 : decode code 214 = .ok (.iconst 0, 1) := by decide +kernel
theorem d_Law_law_215 : decode code 215 = .ok (.ireturn, 1) := by decide +kernel
theorem d_Law_law_216 : decode code 216 = .ok (.aload_n 1, 1) := by decide +kernel
theorem d_Law_law_217 : decode code 217 = .ok (.invokevirtual 39, 3) := by decide +kernel
theorem d_Law_law_220 : decode code 220 = .ok (.aload_n 2, 1) := by decide +kernel
theorem d_Law_law_221 : decode code 221 = .ok (.invokevirtual 43, 3) := by decide +kernel
theorem d_Law_law_224 : decode code 224 = .ok (.if_icmp .eq 536, 3) := by decide +kernel
theorem d_Law_law_227 : decode code 227 = .ok (.iconst 0, 1) := by decide +kernel
theorem d_Law_law_228 : decode code 228 = .ok (.ireturn, 1) := by decide +kernel
theorem d_Law_law_229 : decode code 229 = .ok (.aload_n 1, 1) := by decide +kernel
theorem d_Law_law_230 : decode code 230 = .ok (.invokevirtual 44, 3) := by decide +kernel
theorem d_Law_law_233 : decode code 233 = .ok (.aload_n 2, 1) := by decide +kernel
theorem d_Law_law_234 : decode code 234 = .ok (.invokevirtual 47, 3) := by decide +kernel
theorem d_Law_law_237 : decode code 237 = .ok (.if_icmp .eq 523, 3) := by decide +kernel
theorem d_Law_law_240 : decode code 240 = .ok (.iconst 0, 1) := by decide +kernel
theorem d_Law_law_241 : decode code 241 = .ok (.ireturn, 1) := by decide +kernel
theorem d_Law_law_242 : decode code 242 = .ok (.aload_n 1, 1) := by decide +kernel
theorem d_Law_law_243 : decode code 243 = .ok (.invokevirtual 48, 3) := by decide +kernel
theorem d_Law_law_246 : decode code 246 = .ok (.aload_n 2, 1) := by decide +kernel
theorem d_Law_law_247 : decode code 247 = .ok (.invokevirtual 51, 3) := by decide +kernel
theorem d_Law_law_250 : decode code 250 = .ok (.if_icmp .eq 510, 3) := by decide +kernel
theorem d_Law_law_253 : decode code 253 = .ok (.iconst 0, 1) := by decide +kernel
theorem d_Law_law_254 : decode code 254 = .ok (.ireturn, 1) := by decide +kernel
theorem d_Law_law_255 : decode code 255 = .ok (.aload_n 1, 1) := by decide +kernel
theorem d_Law_law_256 : decode code 256 = .ok (.aload_n 0, 1) := by decide +kernel
theorem d_Law_law_257 : decode code 257 = .ok (.iload 4, 2) := by decide +kernel
theorem d_Law_law_259 : decode code 259 = .ok (.iconst 1, 1) := by decide +kernel
theorem d_Law_law_260 : decode code 260 = .ok (.iadd, 1) := by decide +kernel
theorem d_Law_law_261 : decode code 261 = .ok (.iaload, 1) := by decide +kernel
theorem d_Law_law_262 : decode code 262 = .ok (.aload_n 0, 1) := by decide +kernel
theorem d_Law_law_263 : decode code 263 = .ok (.iload 4, 2) := by decide +kernel
theorem d_Law_law_265 : decode code 265 = .ok (.iconst 2, 1) := by decide +kernel
theorem d_Law_law_266 : decode code 266 = .ok (.iadd, 1) := by decide +kernel
theorem d_Law_law_267 : decode code 267 = .ok (.iaload, 1) := by decide +kernel
theorem d_Law_law_268 : decode code 268 = .ok (.invokevirtual 52, 3) := by decide +kernel
theorem d_Law_law_271 : decode code 271 = .ok (.aload_n 2, 1) := by decide +kernel
theorem d_Law_law_272 : decode code 272 = .ok (.aload_n 0, 1) := by decide +kernel
theorem d_Law_law_273 : decode code 273 = .ok (.iload 4, 2) := by decide +kernel
theorem d_Law_law_275 : decode code 275 = .ok (.iconst 1, 1) := by decide +kernel
theorem d_Law_law_276 : decode code 276 = .ok (.iadd, 1) := by decide +kernel
theorem d_Law_law_277 : decode code 277 = .ok (.iaload, 1) := by decide +kernel
theorem d_Law_law_278 : decode code 278 = .ok (.aload_n 0, 1) := by decide +kernel
theorem d_Law_law_279 : decode code 279 = .ok (.iload 4, 2) := by decide +kernel
theorem d_Law_law_281 : decode code 281 = .ok (.iconst 2, 1) := by decide +kernel
theorem d_Law_law_282 : decode code 282 = .ok (.iadd, 1) := by decide +kernel
theorem d_Law_law_283 : decode code 283 = .ok (.iaload, 1) := by decide +kernel
theorem d_Law_law_284 : decode code 284 = .ok (.invokevirtual 56, 3) := by decide +kernel
theorem d_Law_law_287 : decode code 287 = .ok (.if_icmp .eq 473, 3) := by decide +kernel
theorem d_Law_law_290 : decode code 290 = .ok (.iconst 0, 1) := by decide +kernel
theorem d_Law_law_291 : decode code 291 = .ok (.ireturn, 1) := by decide +kernel
theorem d_Law_law_292 : decode code 292 = .ok (.aload_n 1, 1) := by decide +kernel
theorem d_Law_law_293 : decode code 293 = .ok (.aload_n 0, 1) := by decide +kernel
theorem d_Law_law_294 : decode code 294 = .ok (.iload 4, 2) := by decide +kernel
theorem d_Law_law_296 : decode code 296 = .ok (.iconst 1, 1) := by decide +kernel
theorem d_Law_law_297 : decode code 297 = .ok (.iadd, 1) := by decide +kernel
theorem d_Law_law_298 : decode code 298 = .ok (.iaload, 1) := by decide +kernel
theorem d_Law_law_299 : decode code 299 = .ok (.aload_n 0, 1) := by decide +kernel
theorem d_Law_law_300 : decode code 300 = .ok (.iload 4, 2) := by decide +kernel
theorem d_Law_law_302 : decode code 302 = .ok (.iconst 2, 1) := by decide +kernel
theorem d_Law_law_303 : decode code 303 = .ok (.iadd, 1) := by decide +kernel
theorem d_Law_law_304 : decode code 304 = .ok (.iaload, 1) := by decide +kernel
theorem d_Law_law_305 : decode code 305 = .ok (.aload_n 0, 1) := by decide +kernel
theorem d_Law_law_306 : decode code 306 = .ok (.iload 4, 2) := by decide +kernel
theorem d_Law_law_308 : decode code 308 = .ok (.iconst 3, 1) := by decide +kernel
theorem d_Law_law_309 : decode code 309 = .ok (.iadd, 1) := by decide +kernel
theorem d_Law_law_310 : decode code 310 = .ok (.iaload, 1) := by decide +kernel
theorem d_Law_law_311 : decode code 311 = .ok (.invokevirtual 57, 3) := by decide +kernel
theorem d_Law_law_314 : decode code 314 = .ok (.aload_n 2, 1) := by decide +kernel
theorem d_Law_law_315 : decode code 315 = .ok (.aload_n 0, 1) := by decide +kernel
theorem d_Law_law_316 : decode code 316 = .ok (.iload 4, 2) := by decide +kernel
theorem d_Law_law_318 : decode code 318 = .ok (.iconst 1, 1) := by decide +kernel
theorem d_Law_law_319 : decode code 319 = .ok (.iadd, 1) := by decide +kernel
theorem d_Law_law_320 : decode code 320 = .ok (.iaload, 1) := by decide +kernel
theorem d_Law_law_321 : decode code 321 = .ok (.aload_n 0, 1) := by decide +kernel
theorem d_Law_law_322 : decode code 322 = .ok (.iload 4, 2) := by decide +kernel
theorem d_Law_law_324 : decode code 324 = .ok (.iconst 2, 1) := by decide +kernel
theorem d_Law_law_325 : decode code 325 = .ok (.iadd, 1) := by decide +kernel
theorem d_Law_law_326 : decode code 326 = .ok (.iaload, 1) := by decide +kernel
theorem d_Law_law_327 : decode code 327 = .ok (.aload_n 0, 1) := by decide +kernel
theorem d_Law_law_328 : decode code 328 = .ok (.iload 4, 2) := by decide +kernel
theorem d_Law_law_330 : decode code 330 = .ok (.iconst 3, 1) := by decide +kernel
theorem d_Law_law_331 : decode code 331 = .ok (.iadd, 1) := by decide +kernel
theorem d_Law_law_332 : decode code 332 = .ok (.iaload, 1) := by decide +kernel
theorem d_Law_law_333 : decode code 333 = .ok (.invokevirtual 61, 3) := by decide +kernel
theorem d_Law_law_336 : decode code 336 = .ok (.if_icmp .eq 424, 3) := by decide +kernel
theorem d_Law_law_339 : decode code 339 = .ok (.iconst 0, 1) := by decide +kernel
theorem d_Law_law_340 : decode code 340 = .ok (.ireturn, 1) := by decide +kernel
theorem d_Law_law_341 : decode code 341 = .ok (.aload_n 1, 1) := by decide +kernel
theorem d_Law_law_342 : decode code 342 = .ok (.aload_n 0, 1) := by decide +kernel
theorem d_Law_law_343 : decode code 343 = .ok (.iload 4, 2) := by decide +kernel
theorem d_Law_law_345 : decode code 345 = .ok (.iconst 1, 1) := by decide +kernel
theorem d_Law_law_346 : decode code 346 = .ok (.iadd, 1) := by decide +kernel
theorem d_Law_law_347 : decode code 347 = .ok (.iaload, 1) := by decide +kernel
theorem d_Law_law_348 : decode code 348 = .ok (.aload_n 3, 1) := by decide +kernel
theorem d_Law_law_349 : decode code 349 = .ok (.invokestatic 62, 3) := by decide +kernel
theorem d_Law_law_352 : decode code 352 = .ok (.istore 5, 2) := by decide +kernel
theorem d_Law_law_354 : decode code 354 = .ok (.aload_n 2, 1) := by decide +kernel
theorem d_Law_law_355 : decode code 355 = .ok (.aload_n 0, 1) := by decide +kernel
theorem d_Law_law_356 : decode code 356 = .ok (.iload 4, 2) := by decide +kernel
theorem d_Law_law_358 : decode code 358 = .ok (.iconst 1, 1) := by decide +kernel
theorem d_Law_law_359 : decode code 359 = .ok (.iadd, 1) := by decide +kernel
theorem d_Law_law_360 : decode code 360 = .ok (.iaload, 1) := by decide +kernel
theorem d_Law_law_361 : decode code 361 = .ok (.invokevirtual 67, 3) := by decide +kernel
theorem d_Law_law_364 : decode code 364 = .ok (.istore 6, 2) := by decide +kernel
theorem d_Law_law_366 : decode code 366 = .ok (.aload_n 2, 1) := by decide +kernel
theorem d_Law_law_367 : decode code 367 = .ok (.invokevirtual 68, 3) := by decide +kernel
theorem d_Law_law_370 : decode code 370 = .ok (.iload 5, 2) := by decide +kernel
theorem d_Law_law_372 : decode code 372 = .ok (.if_icmp .eq 5, 3) := by decide +kernel
theorem d_Law_law_375 : decode code 375 = .ok (.iconst 0, 1) := by decide +kernel
theorem d_Law_law_376 : decode code 376 = .ok (.ireturn, 1) := by decide +kernel
theorem d_Law_law_377 : decode code 377 = .ok (.iload 5, 2) := by decide +kernel
theorem d_Law_law_379 : decode code 379 = .ok (.ifCond .ne 15, 3) := by decide +kernel
theorem d_Law_law_382 : decode code 382 = .ok (.aload_n 3, 1) := by decide +kernel
theorem d_Law_law_383 : decode code 383 = .ok (.iconst 0, 1) := by decide +kernel
theorem d_Law_law_384 : decode code 384 = .ok (.laload, 1) := by decide +kernel
theorem d_Law_law_385 : decode code 385 = .ok (.iload 6, 2) := by decide +kernel
theorem d_Law_law_387 : decode code 387 = .ok (.i2l, 1) := by decide +kernel
theorem d_Law_law_388 : decode code 388 = .ok (.lcmp, 1) := by decide +kernel
theorem d_Law_law_389 : decode code 389 = .ok (.ifCond .eq 5, 3) := by decide +kernel
theorem d_Law_law_392 : decode code 392 = .ok (.iconst 0, 1) := by decide +kernel
theorem d_Law_law_393 : decode code 393 = .ok (.ireturn, 1) := by decide +kernel
theorem d_Law_law_394 : decode code 394 = .ok (.goto 366, 3) := by decide +kernel
theorem d_Law_law_397 : decode code 397 = .ok (.aload_n 1, 1) := by decide +kernel
theorem d_Law_law_398 : decode code 398 = .ok (.aload_n 0, 1) := by decide +kernel
theorem d_Law_law_399 : decode code 399 = .ok (.iload 4, 2) := by decide +kernel
theorem d_Law_law_401 : decode code 401 = .ok (.iconst 1, 1) := by decide +kernel
theorem d_Law_law_402 : decode code 402 = .ok (.iadd, 1) := by decide +kernel
theorem d_Law_law_403 : decode code 403 = .ok (.iaload, 1) := by decide +kernel
theorem d_Law_law_404 : decode code 404 = .ok (.aload_n 3, 1) := by decide +kernel
theorem d_Law_law_405 : decode code 405 = .ok (.invokestatic 71, 3) := by decide +kernel
theorem d_Law_law_408 : decode code 408 = .ok (.istore 5, 2) := by decide +kernel
theorem d_Law_law_410 : decode code 410 = .ok (.aload_n 2, 1) := by decide +kernel
theorem d_Law_law_411 : decode code 411 = .ok (.aload_n 0, 1) := by decide +kernel
theorem d_Law_law_412 : decode code 412 = .ok (.iload 4, 2) := by decide +kernel
theorem d_Law_law_414 : decode code 414 = .ok (.iconst 1, 1) := by decide +kernel
theorem d_Law_law_415 : decode code 415 = .ok (.iadd, 1) := by decide +kernel
theorem d_Law_law_416 : decode code 416 = .ok (.iaload, 1) := by decide +kernel
theorem d_Law_law_417 : decode code 417 = .ok (.invokevirtual 73, 3) := by decide +kernel
theorem d_Law_law_420 : decode code 420 = .ok (.istore 6, 2) := by decide +kernel
theorem d_Law_law_422 : decode code 422 = .ok (.aload_n 2, 1) := by decide +kernel
theorem d_Law_law_423 : decode code 423 = .ok (.invokevirtual 68, 3) := by decide +kernel
theorem d_Law_law_426 : decode code 426 = .ok (.iload 5, 2) := by decide +kernel
theorem d_Law_law_428 : decode code 428 = .ok (.if_icmp .eq 5, 3) := by decide +kernel
theorem d_Law_law_431 : decode code 431 = .ok (.iconst 0, 1) := by decide +kernel
theorem d_Law_law_432 : decode code 432 = .ok (.ireturn, 1) := by decide +kernel
theorem d_Law_law_433 : decode code 433 = .ok (.iload 5, 2) := by decide +kernel
theorem d_Law_law_435 : decode code 435 = .ok (.ifCond .ne 15, 3) := by decide +kernel
theorem d_Law_law_438 : decode code 438 = .ok (.aload_n 3, 1) := by decide +kernel
theorem d_Law_law_439 : decode code 439 = .ok (.iconst 0, 1) := by decide +kernel
theorem d_Law_law_440 : decode code 440 = .ok (.laload, 1) := by decide +kernel
theorem d_Law_law_441 : decode code 441 = .ok (.iload 6, 2) := by decide +kernel
theorem d_Law_law_443 : decode code 443 = .ok (.i2l, 1) := by decide +kernel
theorem d_Law_law_444 : decode code 444 = .ok (.lcmp, 1) := by decide +kernel
theorem d_Law_law_445 : decode code 445 = .ok (.ifCond .eq 5, 3) := by decide +kernel
theorem d_Law_law_448 : decode code 448 = .ok (.iconst 0, 1) := by decide +kernel
theorem d_Law_law_449 : decode code 449 = .ok (.ireturn, 1) := by decide +kernel
theorem d_Law_law_450 : decode code 450 = .ok (.goto 310, 3) := by decide +kernel
theorem d_Law_law_453 : decode code 453 = .ok (.aload_n 1, 1) := by decide +kernel
theorem d_Law_law_454 : decode code 454 = .ok (.aload_n 0, 1) := by decide +kernel
theorem d_Law_law_455 : decode code 455 = .ok (.iload 4, 2) := by decide +kernel
theorem d_Law_law_457 : decode code 457 = .ok (.iconst 1, 1) := by decide +kernel
theorem d_Law_law_458 : decode code 458 = .ok (.iadd, 1) := by decide +kernel
theorem d_Law_law_459 : decode code 459 = .ok (.iaload, 1) := by decide +kernel
theorem d_Law_law_460 : decode code 460 = .ok (.aload_n 3, 1) := by decide +kernel
theorem d_Law_law_461 : decode code 461 = .ok (.invokestatic 74, 3) := by decide +kernel
theorem d_Law_law_464 : decode code 464 = .ok (.istore 5, 2) := by decide +kernel
theorem d_Law_law_466 : decode code 466 = .ok (.aload_n 2, 1) := by decide +kernel
theorem d_Law_law_467 : decode code 467 = .ok (.aload_n 0, 1) := by decide +kernel
theorem d_Law_law_468 : decode code 468 = .ok (.iload 4, 2) := by decide +kernel
theorem d_Law_law_470 : decode code 470 = .ok (.iconst 1, 1) := by decide +kernel
theorem d_Law_law_471 : decode code 471 = .ok (.iadd, 1) := by decide +kernel
theorem d_Law_law_472 : decode code 472 = .ok (.iaload, 1) := by decide +kernel
theorem d_Law_law_473 : decode code 473 = .ok (.invokevirtual 76, 3) := by decide +kernel
theorem d_Law_law_476 : decode code 476 = .ok (.lstore 6, 2) := by decide +kernel
theorem d_Law_law_478 : decode code 478 = .ok (.aload_n 2, 1) := by decide +kernel
theorem d_Law_law_479 : decode code 479 = .ok (.invokevirtual 68, 3) := by decide +kernel
theorem d_Law_law_482 : decode code 482 = .ok (.iload 5, 2) := by decide +kernel
theorem d_Law_law_484 : decode code 484 = .ok (.if_icmp .eq 5, 3) := by decide +kernel
theorem d_Law_law_487 : decode code 487 = .ok (.iconst 0, 1) := by decide +kernel
theorem d_Law_law_488 : decode code 488 = .ok (.ireturn, 1) := by decide +kernel
theorem d_Law_law_489 : decode code 489 = .ok (.iload 5, 2) := by decide +kernel
theorem d_Law_law_491 : decode code 491 = .ok (.ifCond .ne 14, 3) := by decide +kernel
theorem d_Law_law_494 : decode code 494 = .ok (.aload_n 3, 1) := by decide +kernel
theorem d_Law_law_495 : decode code 495 = .ok (.iconst 0, 1) := by decide +kernel
theorem d_Law_law_496 : decode code 496 = .ok (.laload, 1) := by decide +kernel
theorem d_Law_law_497 : decode code 497 = .ok (.lload 6, 2) := by decide +kernel
theorem d_Law_law_499 : decode code 499 = .ok (.lcmp, 1) := by decide +kernel
theorem d_Law_law_500 : decode code 500 = .ok (.ifCond .eq 5, 3) := by decide +kernel
theorem d_Law_law_503 : decode code 503 = .ok (.iconst 0, 1) := by decide +kernel
theorem d_Law_law_504 : decode code 504 = .ok (.ireturn, 1) := by decide +kernel
theorem d_Law_law_505 : decode code 505 = .ok (.goto 255, 3) := by decide +kernel
theorem d_Law_law_508 : decode code 508 = .ok (.aload_n 1, 1) := by decide +kernel
theorem d_Law_law_509 : decode code 509 = .ok (.aload_n 0, 1) := by decide +kernel
theorem d_Law_law_510 : decode code 510 = .ok (.iload 4, 2) := by decide +kernel
theorem d_Law_law_512 : decode code 512 = .ok (.iconst 1, 1) := by decide +kernel
theorem d_Law_law_513 : decode code 513 = .ok (.iadd, 1) := by decide +kernel
theorem d_Law_law_514 : decode code 514 = .ok (.iaload, 1) := by decide +kernel
theorem d_Law_law_515 : decode code 515 = .ok (.aload_n 3, 1) := by decide +kernel
theorem d_Law_law_516 : decode code 516 = .ok (.invokestatic 77, 3) := by decide +kernel
theorem d_Law_law_519 : decode code 519 = .ok (.istore 5, 2) := by decide +kernel
theorem d_Law_law_521 : decode code 521 = .ok (.aload_n 2, 1) := by decide +kernel
theorem d_Law_law_522 : decode code 522 = .ok (.aload_n 0, 1) := by decide +kernel
theorem d_Law_law_523 : decode code 523 = .ok (.iload 4, 2) := by decide +kernel
theorem d_Law_law_525 : decode code 525 = .ok (.iconst 1, 1) := by decide +kernel
theorem d_Law_law_526 : decode code 526 = .ok (.iadd, 1) := by decide +kernel
theorem d_Law_law_527 : decode code 527 = .ok (.iaload, 1) := by decide +kernel
theorem d_Law_law_528 : decode code 528 = .ok (.invokevirtual 79, 3) := by decide +kernel
theorem d_Law_law_531 : decode code 531 = .ok (.istore 6, 2) := by decide +kernel
theorem d_Law_law_533 : decode code 533 = .ok (.aload_n 2, 1) := by decide +kernel
theorem d_Law_law_534 : decode code 534 = .ok (.invokevirtual 68, 3) := by decide +kernel
theorem d_Law_law_537 : decode code 537 = .ok (.iload 5, 2) := by decide +kernel
theorem d_Law_law_539 : decode code 539 = .ok (.if_icmp .eq 5, 3) := by decide +kernel
theorem d_Law_law_542 : decode code 542 = .ok (.iconst 0, 1) := by decide +kernel
theorem d_Law_law_543 : decode code 543 = .ok (.ireturn, 1) := by decide +kernel
theorem d_Law_law_544 : decode code 544 = .ok (.iload 5, 2) := by decide +kernel
theorem d_Law_law_546 : decode code 546 = .ok (.ifCond .ne 22, 3) := by decide +kernel
theorem d_Law_law_549 : decode code 549 = .ok (.aload_n 3, 1) := by decide +kernel
theorem d_Law_law_550 : decode code 550 = .ok (.iconst 0, 1) := by decide +kernel
theorem d_Law_law_551 : decode code 551 = .ok (.laload, 1) := by decide +kernel
theorem d_Law_law_552 : decode code 552 = .ok (.iload 6, 2) := by decide +kernel
theorem d_Law_law_554 : decode code 554 = .ok (.ifCond .eq 7, 3) := by decide +kernel
theorem d_Law_law_557 : decode code 557 = .ok (.lconst 1, 1) := by decide +kernel
theorem d_Law_law_558 : decode code 558 = .ok (.goto 4, 3) := by decide +kernel
theorem d_Law_law_561 : decode code 561 = .ok (.lconst 0, 1) := by decide +kernel
theorem d_Law_law_562 : decode code 562 = .ok (.lcmp, 1) := by decide +kernel
theorem d_Law_law_563 : decode code 563 = .ok (.ifCond .eq 5, 3) := by decide +kernel
theorem d_Law_law_566 : decode code 566 = .ok (.iconst 0, 1) := by decide +kernel
theorem d_Law_law_567 : decode code 567 = .ok (.ireturn, 1) := by decide +kernel
theorem d_Law_law_568 : decode code 568 = .ok (.goto 192, 3) := by decide +kernel
theorem d_Law_law_571 : decode code 571 = .ok (.aload_n 1, 1) := by decide +kernel
theorem d_Law_law_572 : decode code 572 = .ok (.aload_n 0, 1) := by decide +kernel
theorem d_Law_law_573 : decode code 573 = .ok (.iload 4, 2) := by decide +kernel
theorem d_Law_law_575 : decode code 575 = .ok (.iconst 1, 1) := by decide +kernel
theorem d_Law_law_576 : decode code 576 = .ok (.iadd, 1) := by decide +kernel
theorem d_Law_law_577 : decode code 577 = .ok (.iaload, 1) := by decide +kernel
theorem d_Law_law_578 : decode code 578 = .ok (.aload_n 0, 1) := by decide +kernel
theorem d_Law_law_579 : decode code 579 = .ok (.iload 4, 2) := by decide +kernel
theorem d_Law_law_581 : decode code 581 = .ok (.iconst 2, 1) := by decide +kernel
theorem d_Law_law_582 : decode code 582 = .ok (.iadd, 1) := by decide +kernel
theorem d_Law_law_583 : decode code 583 = .ok (.iaload, 1) := by decide +kernel
theorem d_Law_law_584 : decode code 584 = .ok (.invokevirtual 80, 3) := by decide +kernel
theorem d_Law_law_587 : decode code 587 = .ok (.aload_n 2, 1) := by decide +kernel
theorem d_Law_law_588 : decode code 588 = .ok (.aload_n 0, 1) := by decide +kernel
theorem d_Law_law_589 : decode code 589 = .ok (.iload 4, 2) := by decide +kernel
theorem d_Law_law_591 : decode code 591 = .ok (.iconst 1, 1) := by decide +kernel
theorem d_Law_law_592 : decode code 592 = .ok (.iadd, 1) := by decide +kernel
theorem d_Law_law_593 : decode code 593 = .ok (.iaload, 1) := by decide +kernel
theorem d_Law_law_594 : decode code 594 = .ok (.aload_n 0, 1) := by decide +kernel
theorem d_Law_law_595 : decode code 595 = .ok (.iload 4, 2) := by decide +kernel
theorem d_Law_law_597 : decode code 597 = .ok (.iconst 2, 1) := by decide +kernel
theorem d_Law_law_598 : decode code 598 = .ok (.iadd, 1) := by decide +kernel
theorem d_Law_law_599 : decode code 599 = .ok (.iaload, 1) := by decide +kernel
theorem d_Law_law_600 : decode code 600 = .ok (.invokevirtual 83, 3) := by decide +kernel
theorem d_Law_law_603 : decode code 603 = .ok (.if_icmp .eq 157, 3) := by decide +kernel
theorem d_Law_law_606 : decode code 606 = .ok (.iconst 0, 1) := by decide +kernel
theorem d_Law_law_607 : decode code 607 = .ok (.ireturn, 1) := by decide +kernel
theorem d_Law_law_608 : decode code 608 = .ok (.aload_n 1, 1) := by decide +kernel
theorem d_Law_law_609 : decode code 609 = .ok (.aload_n 0, 1) := by decide +kernel
theorem d_Law_law_610 : decode code 610 = .ok (.iload 4, 2) := by decide +kernel
theorem d_Law_law_612 : decode code 612 = .ok (.iconst 1, 1) := by decide +kernel
theorem d_Law_law_613 : decode code 613 = .ok (.iadd, 1) := by decide +kernel
theorem d_Law_law_614 : decode code 614 = .ok (.iaload, 1) := by decide +kernel
theorem d_Law_law_615 : decode code 615 = .ok (.aload_n 0, 1) := by decide +kernel
theorem d_Law_law_616 : decode code 616 = .ok (.iload 4, 2) := by decide +kernel
theorem d_Law_law_618 : decode code 618 = .ok (.iconst 2, 1) := by decide +kernel
theorem d_Law_law_619 : decode code 619 = .ok (.iadd, 1) := by decide +kernel
theorem d_Law_law_620 : decode code 620 = .ok (.iaload, 1) := by decide +kernel
theorem d_Law_law_621 : decode code 621 = .ok (.invokevirtual 84, 3) := by decide +kernel
theorem d_Law_law_624 : decode code 624 = .ok (.aload_n 2, 1) := by decide +kernel
theorem d_Law_law_625 : decode code 625 = .ok (.aload_n 0, 1) := by decide +kernel
theorem d_Law_law_626 : decode code 626 = .ok (.iload 4, 2) := by decide +kernel
theorem d_Law_law_628 : decode code 628 = .ok (.iconst 1, 1) := by decide +kernel
theorem d_Law_law_629 : decode code 629 = .ok (.iadd, 1) := by decide +kernel
theorem d_Law_law_630 : decode code 630 = .ok (.iaload, 1) := by decide +kernel
theorem d_Law_law_631 : decode code 631 = .ok (.aload_n 0, 1) := by decide +kernel
theorem d_Law_law_632 : decode code 632 = .ok (.iload 4, 2) := by decide +kernel
theorem d_Law_law_634 : decode code 634 = .ok (.iconst 2, 1) := by decide +kernel
theorem d_Law_law_635 : decode code 635 = .ok (.iadd, 1) := by decide +kernel
theorem d_Law_law_636 : decode code 636 = .ok (.iaload, 1) := by decide +kernel
theorem d_Law_law_637 : decode code 637 = .ok (.invokevirtual 87, 3) := by decide +kernel
theorem d_Law_law_640 : decode code 640 = .ok (.if_icmp .eq 120, 3) := by decide +kernel
theorem d_Law_law_643 : decode code 643 = .ok (.iconst 0, 1) := by decide +kernel
theorem d_Law_law_644 : decode code 644 = .ok (.ireturn, 1) := by decide +kernel
theorem d_Law_law_645 : decode code 645 = .ok (.aload_n 1, 1) := by decide +kernel
theorem d_Law_law_646 : decode code 646 = .ok (.aload_n 0, 1) := by decide +kernel
theorem d_Law_law_647 : decode code 647 = .ok (.iload 4, 2) := by decide +kernel
theorem d_Law_law_649 : decode code 649 = .ok (.iconst 1, 1) := by decide +kernel
theorem d_Law_law_650 : decode code 650 = .ok (.iadd, 1) := by decide +kernel
theorem d_Law_law_651 : decode code 651 = .ok (.iaload, 1) := by decide +kernel
theorem d_Law_law_652 : decode code 652 = .ok (.aload_n 0, 1) := by decide +kernel
theorem d_Law_law_653 : decode code 653 = .ok (.iload 4, 2) := by decide +kernel
theorem d_Law_law_655 : decode code 655 = .ok (.iconst 2, 1) := by decide +kernel
theorem d_Law_law_656 : decode code 656 = .ok (.iadd, 1) := by decide +kernel
theorem d_Law_law_657 : decode code 657 = .ok (.iaload, 1) := by decide +kernel
theorem d_Law_law_658 : decode code 658 = .ok (.aload_n 0, 1) := by decide +kernel
theorem d_Law_law_659 : decode code 659 = .ok (.iload 4, 2) := by decide +kernel
theorem d_Law_law_661 : decode code 661 = .ok (.iconst 3, 1) := by decide +kernel
theorem d_Law_law_662 : decode code 662 = .ok (.iadd, 1) := by decide +kernel
theorem d_Law_law_663 : decode code 663 = .ok (.iaload, 1) := by decide +kernel
theorem d_Law_law_664 : decode code 664 = .ok (.invokevirtual 88, 3) := by decide +kernel
theorem d_Law_law_667 : decode code 667 = .ok (.aload_n 2, 1) := by decide +kernel
theorem d_Law_law_668 : decode code 668 = .ok (.aload_n 0, 1) := by decide +kernel
theorem d_Law_law_669 : decode code 669 = .ok (.iload 4, 2) := by decide +kernel
theorem d_Law_law_671 : decode code 671 = .ok (.iconst 1, 1) := by decide +kernel
theorem d_Law_law_672 : decode code 672 = .ok (.iadd, 1) := by decide +kernel
theorem d_Law_law_673 : decode code 673 = .ok (.iaload, 1) := by decide +kernel
theorem d_Law_law_674 : decode code 674 = .ok (.aload_n 0, 1) := by decide +kernel
theorem d_Law_law_675 : decode code 675 = .ok (.iload 4, 2) := by decide +kernel
theorem d_Law_law_677 : decode code 677 = .ok (.iconst 2, 1) := by decide +kernel
theorem d_Law_law_678 : decode code 678 = .ok (.iadd, 1) := by decide +kernel
theorem d_Law_law_679 : decode code 679 = .ok (.iaload, 1) := by decide +kernel
theorem d_Law_law_680 : decode code 680 = .ok (.aload_n 0, 1) := by decide +kernel
theorem d_Law_law_681 : decode code 681 = .ok (.iload 4, 2) := by decide +kernel
theorem d_Law_law_683 : decode code 683 = .ok (.iconst 3, 1) := by decide +kernel
theorem d_Law_law_684 : decode code 684 = .ok (.iadd, 1) := by decide +kernel
theorem d_Law_law_685 : decode code 685 = .ok (.iaload, 1) := by decide +kernel
theorem d_Law_law_686 : decode code 686 = .ok (.invokevirtual 91, 3) := by decide +kernel
theorem d_Law_law_689 : decode code 689 = .ok (.if_icmp .eq 71, 3) := by decide +kernel
theorem d_Law_law_692 : decode code 692 = .ok (.iconst 0, 1) := by decide +kernel
theorem d_Law_law_693 : decode code 693 = .ok (.ireturn, 1) := by decide +kernel
theorem d_Law_law_694 : decode code 694 = .ok (.aload_n 1, 1) := by decide +kernel
theorem d_Law_law_695 : decode code 695 = .ok (.invokevirtual 92, 3) := by decide +kernel
theorem d_Law_law_698 : decode code 698 = .ok (.aload_n 2, 1) := by decide +kernel
theorem d_Law_law_699 : decode code 699 = .ok (.invokevirtual 95, 3) := by decide +kernel
theorem d_Law_law_702 : decode code 702 = .ok (.if_icmp .eq 58, 3) := by decide +kernel
theorem d_Law_law_705 : decode code 705 = .ok (.iconst 0, 1) := by decide +kernel
theorem d_Law_law_706 : decode code 706 = .ok (.ireturn, 1) := by decide +kernel
theorem d_Law_law_707 : decode code 707 = .ok (.aload_n 1, 1) := by decide +kernel
theorem d_Law_law_708 : decode code 708 = .ok (.aload_n 0, 1) := by decide +kernel
theorem d_Law_law_709 : decode code 709 = .ok (.iload 4, 2) := by decide +kernel
theorem d_Law_law_711 : decode code 711 = .ok (.iconst 1, 1) := by decide +kernel
theorem d_Law_law_712 : decode code 712 = .ok (.iadd, 1) := by decide +kernel
theorem d_Law_law_713 : decode code 713 = .ok (.iaload, 1) := by decide +kernel
theorem d_Law_law_714 : decode code 714 = .ok (.ifCond .eq 7, 3) := by decide +kernel
theorem d_Law_law_717 : decode code 717 = .ok (.iconst 1, 1) := by decide +kernel
theorem d_Law_law_718 : decode code 718 = .ok (.goto 4, 3) := by decide +kernel
theorem d_Law_law_721 : decode code 721 = .ok (.iconst 0, 1) := by decide +kernel
theorem d_Law_law_722 : decode code 722 = .ok (.aload_n 0, 1) := by decide +kernel
theorem d_Law_law_723 : decode code 723 = .ok (.iload 4, 2) := by decide +kernel
theorem d_Law_law_725 : decode code 725 = .ok (.iconst 2, 1) := by decide +kernel
theorem d_Law_law_726 : decode code 726 = .ok (.iadd, 1) := by decide +kernel
theorem d_Law_law_727 : decode code 727 = .ok (.iaload, 1) := by decide +kernel
theorem d_Law_law_728 : decode code 728 = .ok (.invokevirtual 96, 3) := by decide +kernel
theorem d_Law_law_731 : decode code 731 = .ok (.aload_n 2, 1) := by decide +kernel
theorem d_Law_law_732 : decode code 732 = .ok (.aload_n 0, 1) := by decide +kernel
theorem d_Law_law_733 : decode code 733 = .ok (.iload 4, 2) := by decide +kernel
theorem d_Law_law_735 : decode code 735 = .ok (.iconst 1, 1) := by decide +kernel
theorem d_Law_law_736 : decode code 736 = .ok (.iadd, 1) := by decide +kernel
theorem d_Law_law_737 : decode code 737 = .ok (.iaload, 1) := by decide +kernel
theorem d_Law_law_738 : decode code 738 = .ok (.ifCond .eq 7, 3) := by decide +kernel
theorem d_Law_law_741 : decode code 741 = .ok (.iconst 1, 1) := by decide +kernel
theorem d_Law_law_742 : decode code 742 = .ok (.goto 4, 3) := by decide +kernel
theorem d_Law_law_745 : decode code 745 = .ok (.iconst 0, 1) := by decide +kernel
theorem d_Law_law_746 : decode code 746 = .ok (.aload_n 0, 1) := by decide +kernel
theorem d_Law_law_747 : decode code 747 = .ok (.iload 4, 2) := by decide +kernel
theorem d_Law_law_749 : decode code 749 = .ok (.iconst 2, 1) := by decide +kernel
theorem d_Law_law_750 : decode code 750 = .ok (.iadd, 1) := by decide +kernel
theorem d_Law_law_751 : decode code 751 = .ok (.iaload, 1) := by decide +kernel
theorem d_Law_law_752 : decode code 752 = .ok (.invokevirtual 100, 3) := by decide +kernel
theorem d_Law_law_755 : decode code 755 = .ok (.if_icmp .eq 5, 3) := by decide +kernel
theorem d_Law_law_758 : decode code 758 = .ok (.iconst 0, 1) := by decide +kernel
theorem d_Law_law_759 : decode code 759 = .ok (.ireturn, 1) := by decide +kernel
theorem d_Law_law_760 : decode code 760 = .ok (.iinc 4 6, 3) := by decide +kernel
theorem d_Law_law_763 : decode code 763 = .ok (.goto (-740), 3) := by decide +kernel
theorem d_Law_law_766 : decode code 766 = .ok (.iconst 1, 1) := by decide +kernel
theorem d_Law_law_767 : decode code 767 = .ok (.ireturn, 1) := by decide +kernel
theorem d_Law_addresses_0 : decode method_3_code 0 = .ok (.aload_n 2, 1) := by decide +kernel
theorem d_Law_addresses_1 : decode method_3_code 1 = .ok (.iconst 0, 1) := by decide +kernel
theorem d_Law_addresses_2 : decode method_3_code 2 = .ok (.aload_n 0, 1) := by decide +kernel
theorem d_Law_addresses_3 : decode method_3_code 3 = .ok (.iload_n 1, 1) := by decide +kernel
theorem d_Law_addresses_4 : decode method_3_code 4 = .ok (.invokevirtual 7, 3) := by decide +kernel
theorem d_Law_addresses_7 : decode method_3_code 7 = .ok (.i2l, 1) := by decide +kernel
theorem d_Law_addresses_8 : decode method_3_code 8 = .ok (.lastore, 1) := by decide +kernel
theorem d_Law_addresses_9 : decode method_3_code 9 = .ok (.goto 6, 3) := by decide +kernel
theorem d_Law_addresses_12 : decode method_3_code 12 = .ok (.astore_n 3, 1) := by decide +kernel
theorem d_Law_addresses_13 : decode method_3_code 13 = .ok (.iconst 1, 1) := by decide +kernel
theorem d_Law_addresses_14 : decode method_3_code 14 = .ok (.ireturn, 1) := by decide +kernel
theorem d_Law_addresses_15 : decode method_3_code 15 = .ok (.iconst 0, 1) := by decide +kernel
theorem d_Law_addresses_16 : decode method_3_code 16 = .ok (.ireturn, 1) := by decide +kernel
theorem d_Law_identities_0 : decode method_4_code 0 = .ok (.aload_n 2, 1) := by decide +kernel
theorem d_Law_identities_1 : decode method_4_code 1 = .ok (.iconst 0, 1) := by decide +kernel
theorem d_Law_identities_2 : decode method_4_code 2 = .ok (.aload_n 0, 1) := by decide +kernel
theorem d_Law_identities_3 : decode method_4_code 3 = .ok (.iload_n 1, 1) := by decide +kernel
theorem d_Law_identities_4 : decode method_4_code 4 = .ok (.invokevirtual 15, 3) := by decide +kernel
theorem d_Law_identities_7 : decode method_4_code 7 = .ok (.i2l, 1) := by decide +kernel
theorem d_Law_identities_8 : decode method_4_code 8 = .ok (.lastore, 1) := by decide +kernel
theorem d_Law_identities_9 : decode method_4_code 9 = .ok (.goto 6, 3) := by decide +kernel
theorem d_Law_identities_12 : decode method_4_code 12 = .ok (.astore_n 3, 1) := by decide +kernel
theorem d_Law_identities_13 : decode method_4_code 13 = .ok (.iconst 1, 1) := by decide +kernel
theorem d_Law_identities_14 : decode method_4_code 14 = .ok (.ireturn, 1) := by decide +kernel
theorem d_Law_identities_15 : decode method_4_code 15 = .ok (.iconst 0, 1) := by decide +kernel
theorem d_Law_identities_16 : decode method_4_code 16 = .ok (.ireturn, 1) := by decide +kernel
theorem d_Law_date_0 : decode method_5_code 0 = .ok (.aload_n 2, 1) := by decide +kernel
theorem d_Law_date_1 : decode method_5_code 1 = .ok (.iconst 0, 1) := by decide +kernel
theorem d_Law_date_2 : decode method_5_code 2 = .ok (.aload_n 0, 1) := by decide +kernel
theorem d_Law_date_3 : decode method_5_code 3 = .ok (.iload_n 1, 1) := by decide +kernel
theorem d_Law_date_4 : decode method_5_code 4 = .ok (.invokevirtual 18, 3) := by decide +kernel
theorem d_Law_date_7 : decode method_5_code 7 = .ok (.lastore, 1) := by decide +kernel
theorem d_Law_date_8 : decode method_5_code 8 = .ok (.goto 6, 3) := by decide +kernel
theorem d_Law_date_11 : decode method_5_code 11 = .ok (.astore_n 3, 1) := by decide +kernel
theorem d_Law_date_12 : decode method_5_code 12 = .ok (.iconst 1, 1) := by decide +kernel
theorem d_Law_date_13 : decode method_5_code 13 = .ok (.ireturn, 1) := by decide +kernel
theorem d_Law_date_14 : decode method_5_code 14 = .ok (.iconst 0, 1) := by decide +kernel
theorem d_Law_date_15 : decode method_5_code 15 = .ok (.ireturn, 1) := by decide +kernel
theorem d_Law_type_0 : decode method_6_code 0 = .ok (.aload_n 2, 1) := by decide +kernel
theorem d_Law_type_1 : decode method_6_code 1 = .ok (.iconst 0, 1) := by decide +kernel
theorem d_Law_type_2 : decode method_6_code 2 = .ok (.aload_n 0, 1) := by decide +kernel
theorem d_Law_type_3 : decode method_6_code 3 = .ok (.iload_n 1, 1) := by decide +kernel
theorem d_Law_type_4 : decode method_6_code 4 = .ok (.invokevirtual 22, 3) := by decide +kernel
theorem d_Law_type_7 : decode method_6_code 7 = .ok (.ifCond .eq 7, 3) := by decide +kernel
theorem d_Law_type_10 : decode method_6_code 10 = .ok (.lconst 1, 1) := by decide +kernel
theorem d_Law_type_11 : decode method_6_code 11 = .ok (.goto 4, 3) := by decide +kernel
theorem d_Law_type_14 : decode method_6_code 14 = .ok (.lconst 0, 1) := by decide +kernel
theorem d_Law_type_15 : decode method_6_code 15 = .ok (.lastore, 1) := by decide +kernel
theorem d_Law_type_16 : decode method_6_code 16 = .ok (.goto 6, 3) := by decide +kernel
theorem d_Law_type_19 : decode method_6_code 19 = .ok (.astore_n 3, 1) := by decide +kernel
theorem d_Law_type_20 : decode method_6_code 20 = .ok (.iconst 1, 1) := by decide +kernel
theorem d_Law_type_21 : decode method_6_code 21 = .ok (.ireturn, 1) := by decide +kernel
theorem d_Law_type_22 : decode method_6_code 22 = .ok (.iconst 0, 1) := by decide +kernel
theorem d_Law_type_23 : decode method_6_code 23 = .ok (.ireturn, 1) := by decide +kernel
