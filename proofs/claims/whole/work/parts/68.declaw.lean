/-! decode rows (by program: gen_dec.py) -/
theorem d_La_law_0 : decode code 0 = .ok (.new 8, 3) := by decide +kernel
theorem d_La_law_3 : decode code 3 = .ok (.dup, 1) := by decide +kernel
theorem d_La_law_4 : decode code 4 = .ok (.invokespecial 67, 3) := by decide +kernel
theorem d_La_law_7 : decode code 7 = .ok (.astore_n 1, 1) := by decide +kernel
theorem d_La_law_8 : decode code 8 = .ok (.new 68, 3) := by decide +kernel
theorem d_La_law_11 : decode code 11 = .ok (.dup, 1) := by decide +kernel
theorem d_La_law_12 : decode code 12 = .ok (.invokespecial 70, 3) := by decide +kernel
theorem d_La_law_15 : decode code 15 = .ok (.astore_n 2, 1) := by decide +kernel
theorem d_La_law_16 : decode code 16 = .ok (.iconst 1, 1) := by decide +kernel
theorem d_La_law_17 : decode code 17 = .ok (.newarray .long, 2) := by decide +kernel
theorem d_La_law_19 : decode code 19 = .ok (.astore_n 3, 1) := by decide +kernel
theorem d_La_law_20 : decode code 20 = .ok (.iconst 0, 1) := by decide +kernel
theorem d_La_law_21 : decode code 21 = .ok (.istore 4, 2) := by decide +kernel
theorem d_La_law_23 : decode code 23 = .ok (.iload 4, 2) := by decide +kernel
theorem d_La_law_25 : decode code 25 = .ok (.aload_n 0, 1) := by decide +kernel
theorem d_La_law_26 : decode code 26 = .ok (.arraylength, 1) := by decide +kernel
theorem d_La_law_27 : decode code 27 = .ok (.iconst 4, 1) := by decide +kernel
theorem d_La_law_28 : decode code 28 = .ok (.isub, 1) := by decide +kernel
theorem d_La_law_29 : decode code 29 = .ok (.if_icmp .gt 1009, 3) := by decide +kernel
theorem d_La_law_32 : decode code 32 = .ok (.aload_n 0, 1) := by decide +kernel
theorem d_La_law_33 : decode code 33 = .ok (.iload 4, 2) := by decide +kernel
theorem d_La_law_35 : decode code 35 = .ok (.iaload, 1) := by decide +kernel
theorem d_La_law_36 : decode code 36 = .ok (.bipush 31, 2) := by decide +kernel
theorem d_La_law_38 : decode code 38 = .ok (.iand, 1) := by decide +kernel
theorem d_La_law_39 : decode code 39 = .ok (.tableswitch 993 0 17 #[85, 153, 189, 249, 309, 357, 413, 481, 506, 574, 630, 698, 711, 724, 748, 792, 833, 917], 85) := by decide +kernel
theorem d_La_law_124 : decode code 124 = .ok (.aload_n 1, 1) := by decide +kernel
theorem d_La_law_125 : decode code 125 = .ok (.aload_n 0, 1) := by decide +kernel
theorem d_La_law_126 : decode code 126 = .ok (.iload 4, 2) := by decide +kernel
theorem d_La_law_128 : decode code 128 = .ok (.iconst 1, 1) := by decide +kernel
theorem d_La_law_129 : decode code 129 = .ok (.iadd, 1) := by decide +kernel
theorem d_La_law_130 : decode code 130 = .ok (.iaload, 1) := by decide +kernel
theorem d_La_law_131 : decode code 131 = .ok (.aload_n 0, 1) := by decide +kernel
theorem d_La_law_132 : decode code 132 = .ok (.iload 4, 2) := by decide +kernel
theorem d_La_law_134 : decode code 134 = .ok (.iconst 2, 1) := by decide +kernel
theorem d_La_law_135 : decode code 135 = .ok (.iadd, 1) := by decide +kernel
theorem d_La_law_136 : decode code 136 = .ok (.iaload, 1) := by decide +kernel
theorem d_La_law_137 : decode code 137 = .ok (.aload_n 3, 1) := by decide +kernel
theorem d_La_law_138 : decode code 138 = .ok (.invokestatic 71, 3) := by decide +kernel
theorem d_La_law_141 : decode code 141 = .ok (.istore 5, 2) := by decide +kernel
theorem d_La_law_143 : decode code 143 = .ok (.aload_n 2, 1) := by decide +kernel
theorem d_La_law_144 : decode code 144 = .ok (.aload_n 0, 1) := by decide +kernel
theorem d_La_law_145 : decode code 145 = .ok (.iload 4, 2) := by decide +kernel
theorem d_La_law_147 : decode code 147 = .ok (.iconst 1, 1) := by decide +kernel
theorem d_La_law_148 : decode code 148 = .ok (.iadd, 1) := by decide +kernel
theorem d_La_law_149 : decode code 149 = .ok (.iaload, 1) := by decide +kernel
theorem d_La_law_150 : decode code 150 = .ok (.aload_n 0, 1) := by decide +kernel
theorem d_La_law_151 : decode code 151 = .ok (.iload 4, 2) := by decide +kernel
theorem d_La_law_153 : decode code 153 = .ok (.iconst 2, 1) := by decide +kernel
theorem d_La_law_154 : decode code 154 = .ok (.iadd, 1) := by decide +kernel
theorem d_La_law_155 : decode code 155 = .ok (.iaload, 1) := by decide +kernel
theorem d_La_law_156 : decode code 156 = .ok (.invokevirtual 76, 3) := by decide +kernel
theorem d_La_law_159 : decode code 159 = .ok (.istore 6, 2) := by decide +kernel
theorem d_La_law_161 : decode code 161 = .ok (.aload_n 2, 1) := by decide +kernel
theorem d_La_law_162 : decode code 162 = .ok (.invokevirtual 77, 3) := by decide +kernel
theorem d_La_law_165 : decode code 165 = .ok (.iload 5, 2) := by decide +kernel
theorem d_La_law_167 : decode code 167 = .ok (.if_icmp .eq 5, 3) := by decide +kernel
theorem d_La_law_170 : decode code 170 = .ok (.iconst 0, 1) := by decide +kernel
theorem d_La_law_171 : decode code 171 = .ok (.ireturn, 1) := by decide +kernel
theorem d_La_law_172 : decode code 172 = .ok (.iload 5, 2) := by decide +kernel
theorem d_La_law_174 : decode code 174 = .ok (.ifCond .ne 15, 3) := by decide +kernel
theorem d_La_law_177 : decode code 177 = .ok (.aload_n 3, 1) := by decide +kernel
theorem d_La_law_178 : decode code 178 = .ok (.iconst 0, 1) := by decide +kernel
theorem d_La_law_179 : decode code 179 = .ok (.laload, 1) := by decide +kernel
theorem d_La_law_180 : decode code 180 = .ok (.iload 6, 2) := by decide +kernel
theorem d_La_law_182 : decode code 182 = .ok (.i2l, 1) := by decide +kernel
theorem d_La_law_183 : decode code 183 = .ok (.lcmp, 1) := by decide +kernel
theorem d_La_law_184 : decode code 184 = .ok (.ifCond .eq 5, 3) := by decide +kernel
theorem d_La_law_187 : decode code 187 = .ok (.iconst 0, 1) := by decide +kernel
theorem d_La_law_188 : decode code 188 = .ok (.ireturn, 1) := by decide +kernel
theorem d_La_law_189 : decode code 189 = .ok (.goto 843, 3) := by decide +kernel
theorem d_La_law_192 : decode code 192 = .ok (.aload_n 1, 1) := by decide +kernel
theorem d_La_law_193 : decode code 193 = .ok (.aload_n 0, 1) := by decide +kernel
theorem d_La_law_194 : decode code 194 = .ok (.iload 4, 2) := by decide +kernel
theorem d_La_law_196 : decode code 196 = .ok (.iconst 1, 1) := by decide +kernel
theorem d_La_law_197 : decode code 197 = .ok (.iadd, 1) := by decide +kernel
theorem d_La_law_198 : decode code 198 = .ok (.iaload, 1) := by decide +kernel
theorem d_La_law_199 : decode code 199 = .ok (.invokestatic 80, 3) := by decide +kernel
theorem d_La_law_202 : decode code 202 = .ok (.istore 5, 2) := by decide +kernel
theorem d_La_law_204 : decode code 204 = .ok (.aload_n 2, 1) := by decide +kernel
theorem d_La_law_205 : decode code 205 = .ok (.aload_n 0, 1) := by decide +kernel
theorem d_La_law_206 : decode code 206 = .ok (.iload 4, 2) := by decide +kernel
theorem d_La_law_208 : decode code 208 = .ok (.iconst 1, 1) := by decide +kernel
theorem d_La_law_209 : decode code 209 = .ok (.iadd, 1) := by decide +kernel
theorem d_La_law_210 : decode code 210 = .ok (.iaload, 1) := by decide +kernel
theorem d_La_law_211 : decode code 211 = .ok (.invokevirtual 83, 3) := by decide +kernel
theorem d_La_law_214 : decode code 214 = .ok (.aload_n 2, 1) := by decide +kernel
theorem d_La_law_215 : decode code 215 = .ok (.invokevirtual 77, 3) := by decide +kernel
theorem d_La_law_218 : decode code 218 = .ok (.iload 5, 2) := by decide +kernel
theorem d_La_law_220 : decode code 220 = .ok (.if_icmp .eq 5, 3) := by decide +kernel
theorem d_La_law_223 : decode code 223 = .ok (.iconst 0, 1) := by decide +kernel
theorem d_La_law_224 : decode code 224 = .ok (.ireturn, 1) := by decide +kernel
theorem d_La_law_225 : decode code 225 = .ok (.goto 807, 3) := by decide +kernel
theorem d_La_law_228 : decode code 228 = .ok (.aload_n 1, 1) := by decide +kernel
theorem d_La_law_229 : decode code 229 = .ok (.aload_n 0, 1) := by decide +kernel
theorem d_La_law_230 : decode code 230 = .ok (.iload 4, 2) := by decide +kernel
theorem d_La_law_232 : decode code 232 = .ok (.iconst 1, 1) := by decide +kernel
theorem d_La_law_233 : decode code 233 = .ok (.iadd, 1) := by decide +kernel
theorem d_La_law_234 : decode code 234 = .ok (.iaload, 1) := by decide +kernel
theorem d_La_law_235 : decode code 235 = .ok (.aload_n 0, 1) := by decide +kernel
theorem d_La_law_236 : decode code 236 = .ok (.iload 4, 2) := by decide +kernel
theorem d_La_law_238 : decode code 238 = .ok (.iconst 2, 1) := by decide +kernel
theorem d_La_law_239 : decode code 239 = .ok (.iadd, 1) := by decide +kernel
theorem d_La_law_240 : decode code 240 = .ok (.iaload, 1) := by decide +kernel
theorem d_La_law_241 : decode code 241 = .ok (.aload_n 0, 1) := by decide +kernel
theorem d_La_law_242 : decode code 242 = .ok (.iload 4, 2) := by decide +kernel
theorem d_La_law_244 : decode code 244 = .ok (.iconst 3, 1) := by decide +kernel
theorem d_La_law_245 : decode code 245 = .ok (.iadd, 1) := by decide +kernel
theorem d_La_law_246 : decode code 246 = .ok (.iaload, 1) := by decide +kernel
theorem d_La_law_247 : decode code 247 = .ok (.invokestatic 84, 3) := by decide +kernel
theorem d_La_law_250 : decode code 250 = .ok (.istore 5, 2) := by decide +kernel
theorem d_La_law_252 : decode code 252 = .ok (.aload_n 2, 1) := by decide +kernel
theorem d_La_law_253 : decode code 253 = .ok (.aload_n 0, 1) := by decide +kernel
theorem d_La_law_254 : decode code 254 = .ok (.iload 4, 2) := by decide +kernel
theorem d_La_law_256 : decode code 256 = .ok (.iconst 1, 1) := by decide +kernel
theorem d_La_law_257 : decode code 257 = .ok (.iadd, 1) := by decide +kernel
theorem d_La_law_258 : decode code 258 = .ok (.iaload, 1) := by decide +kernel
theorem d_La_law_259 : decode code 259 = .ok (.aload_n 0, 1) := by decide +kernel
theorem d_La_law_260 : decode code 260 = .ok (.iload 4, 2) := by decide +kernel
theorem d_La_law_262 : decode code 262 = .ok (.iconst 2, 1) := by decide +kernel
theorem d_La_law_263 : decode code 263 = .ok (.iadd, 1) := by decide +kernel
theorem d_La_law_264 : decode code 264 = .ok (.iaload, 1) := by decide +kernel
theorem d_La_law_265 : decode code 265 = .ok (.aload_n 0, 1) := by decide +kernel
theorem d_La_law_266 : decode code 266 = .ok (.iload 4, 2) := by decide +kernel
theorem d_La_law_268 : decode code 268 = .ok (.iconst 3, 1) := by decide +kernel
theorem d_La_law_269 : decode code 269 = .ok (.iadd, 1) := by decide +kernel
theorem d_La_law_270 : decode code 270 = .ok (.iaload, 1) := by decide +kernel
theorem d_La_law_271 : decode code 271 = .ok (.invokevirtual 87, 3) := by decide +kernel
theorem d_La_law_274 : decode code 274 = .ok (.aload_n 2, 1) := by decide +kernel
theorem d_La_law_275 : decode code 275 = .ok (.invokevirtual 77, 3) := by decide +kernel
theorem d_La_law_278 : decode code 278 = .ok (.iload 5, 2) := by decide +kernel
theorem d_La_law_280 : decode code 280 = .ok (.if_icmp .eq 5, 3) := by decide +kernel
theorem d_La_law_283 : decode code 283 = .ok (.iconst 0, 1) := by decide +kernel
theorem d_La_law_284 : decode code 284 = .ok (.ireturn, 1) := by decide +kernel
theorem d_La_law_285 : decode code 285 = .ok (.goto 747, 3) := by decide +kernel
theorem d_La_law_288 : decode code 288 = .ok (.aload_n 1, 1) := by decide +kernel
theorem d_La_law_289 : decode code 289 = .ok (.aload_n 0, 1) := by decide +kernel
theorem d_La_law_290 : decode code 290 = .ok (.iload 4, 2) := by decide +kernel
theorem d_La_law_292 : decode code 292 = .ok (.iconst 1, 1) := by decide +kernel
theorem d_La_law_293 : decode code 293 = .ok (.iadd, 1) := by decide +kernel
theorem d_La_law_294 : decode code 294 = .ok (.iaload, 1) := by decide +kernel
theorem d_La_law_295 : decode code 295 = .ok (.aload_n 0, 1) := by decide +kernel
theorem d_La_law_296 : decode code 296 = .ok (.iload 4, 2) := by decide +kernel
theorem d_La_law_298 : decode code 298 = .ok (.iconst 2, 1) := by decide +kernel
theorem d_La_law_299 : decode code 299 = .ok (.iadd, 1) := by decide +kernel
theorem d_La_law_300 : decode code 300 = .ok (.iaload, 1) := by decide +kernel
theorem d_La_law_301 : decode code 301 = .ok (.aload_n 0, 1) := by decide +kernel
theorem d_La_law_302 : decode code 302 = .ok (.iload 4, 2) := by decide +kernel
theorem d_La_law_304 : decode code 304 = .ok (.iconst 3, 1) := by decide +kernel
theorem d_La_law_305 : decode code 305 = .ok (.iadd, 1) := by decide +kernel
theorem d_La_law_306 : decode code 306 = .ok (.iaload, 1) := by decide +kernel
theorem d_La_law_307 : decode code 307 = .ok (.invokestatic 88, 3) := by decide +kernel
theorem d_La_law_310 : decode code 310 = .ok (.istore 5, 2) := by decide +kernel
theorem d_La_law_312 : decode code 312 = .ok (.aload_n 2, 1) := by decide +kernel
theorem d_La_law_313 : decode code 313 = .ok (.aload_n 0, 1) := by decide +kernel
theorem d_La_law_314 : decode code 314 = .ok (.iload 4, 2) := by decide +kernel
theorem d_La_law_316 : decode code 316 = .ok (.iconst 1, 1) := by decide +kernel
theorem d_La_law_317 : decode code 317 = .ok (.iadd, 1) := by decide +kernel
theorem d_La_law_318 : decode code 318 = .ok (.iaload, 1) := by decide +kernel
theorem d_La_law_319 : decode code 319 = .ok (.aload_n 0, 1) := by decide +kernel
theorem d_La_law_320 : decode code 320 = .ok (.iload 4, 2) := by decide +kernel
theorem d_La_law_322 : decode code 322 = .ok (.iconst 2, 1) := by decide +kernel
theorem d_La_law_323 : decode code 323 = .ok (.iadd, 1) := by decide +kernel
theorem d_La_law_324 : decode code 324 = .ok (.iaload, 1) := by decide +kernel
theorem d_La_law_325 : decode code 325 = .ok (.aload_n 0, 1) := by decide +kernel
theorem d_La_law_326 : decode code 326 = .ok (.iload 4, 2) := by decide +kernel
theorem d_La_law_328 : decode code 328 = .ok (.iconst 3, 1) := by decide +kernel
theorem d_La_law_329 : decode code 329 = .ok (.iadd, 1) := by decide +kernel
theorem d_La_law_330 : decode code 330 = .ok (.iaload, 1) := by decide +kernel
theorem d_La_law_331 : decode code 331 = .ok (.invokevirtual 90, 3) := by decide +kernel
theorem d_La_law_334 : decode code 334 = .ok (.aload_n 2, 1) := by decide +kernel
theorem d_La_law_335 : decode code 335 = .ok (.invokevirtual 77, 3) := by decide +kernel
theorem d_La_law_338 : decode code 338 = .ok (.iload 5, 2) := by decide +kernel
theorem d_La_law_340 : decode code 340 = .ok (.if_icmp .eq 5, 3) := by decide +kernel
theorem d_La_law_343 : decode code 343 = .ok (.iconst 0, 1) := by decide +kernel
theorem d_La_law_344 : decode code 344 = .ok (.ireturn, 1) := by decide +kernel
theorem d_La_law_345 : decode code 345 = .ok (.goto 687, 3) := by decide +kernel
theorem d_La_law_348 : decode code 348 = .ok (.aload_n 1, 1) := by decide +kernel
theorem d_La_law_349 : decode code 349 = .ok (.aload_n 0, 1) := by decide +kernel
theorem d_La_law_350 : decode code 350 = .ok (.iload 4, 2) := by decide +kernel
theorem d_La_law_352 : decode code 352 = .ok (.iconst 1, 1) := by decide +kernel
theorem d_La_law_353 : decode code 353 = .ok (.iadd, 1) := by decide +kernel
theorem d_La_law_354 : decode code 354 = .ok (.iaload, 1) := by decide +kernel
theorem d_La_law_355 : decode code 355 = .ok (.aload_n 0, 1) := by decide +kernel
theorem d_La_law_356 : decode code 356 = .ok (.iload 4, 2) := by decide +kernel
theorem d_La_law_358 : decode code 358 = .ok (.iconst 2, 1) := by decide +kernel
theorem d_La_law_359 : decode code 359 = .ok (.iadd, 1) := by decide +kernel
theorem d_La_law_360 : decode code 360 = .ok (.iaload, 1) := by decide +kernel
theorem d_La_law_361 : decode code 361 = .ok (.invokestatic 91, 3) := by decide +kernel
theorem d_La_law_364 : decode code 364 = .ok (.istore 5, 2) := by decide +kernel
theorem d_La_law_366 : decode code 366 = .ok (.aload_n 2, 1) := by decide +kernel
theorem d_La_law_367 : decode code 367 = .ok (.aload_n 0, 1) := by decide +kernel
theorem d_La_law_368 : decode code 368 = .ok (.iload 4, 2) := by decide +kernel
theorem d_La_law_370 : decode code 370 = .ok (.iconst 1, 1) := by decide +kernel
theorem d_La_law_371 : decode code 371 = .ok (.iadd, 1) := by decide +kernel
theorem d_La_law_372 : decode code 372 = .ok (.iaload, 1) := by decide +kernel
theorem d_La_law_373 : decode code 373 = .ok (.aload_n 0, 1) := by decide +kernel
theorem d_La_law_374 : decode code 374 = .ok (.iload 4, 2) := by decide +kernel
theorem d_La_law_376 : decode code 376 = .ok (.iconst 2, 1) := by decide +kernel
theorem d_La_law_377 : decode code 377 = .ok (.iadd, 1) := by decide +kernel
theorem d_La_law_378 : decode code 378 = .ok (.iaload, 1) := by decide +kernel
theorem d_La_law_379 : decode code 379 = .ok (.invokevirtual 94, 3) := by decide +kernel
theorem d_La_law_382 : decode code 382 = .ok (.aload_n 2, 1) := by decide +kernel
theorem d_La_law_383 : decode code 383 = .ok (.invokevirtual 77, 3) := by decide +kernel
theorem d_La_law_386 : decode code 386 = .ok (.iload 5, 2) := by decide +kernel
theorem d_La_law_388 : decode code 388 = .ok (.if_icmp .eq 5, 3) := by decide +kernel
theorem d_La_law_391 : decode code 391 = .ok (.iconst 0, 1) := by decide +kernel
theorem d_La_law_392 : decode code 392 = .ok (.ireturn, 1) := by decide +kernel
theorem d_La_law_393 : decode code 393 = .ok (.goto 639, 3) := by decide +kernel
theorem d_La_law_396 : decode code 396 = .ok (.aload_n 1, 1) := by decide +kernel
theorem d_La_law_397 : decode code 397 = .ok (.aload_n 0, 1) := by decide +kernel
theorem d_La_law_398 : decode code 398 = .ok (.iload 4, 2) := by decide +kernel
theorem d_La_law_400 : decode code 400 = .ok (.iconst 1, 1) := by decide +kernel
theorem d_La_law_401 : decode code 401 = .ok (.iadd, 1) := by decide +kernel
theorem d_La_law_402 : decode code 402 = .ok (.iaload, 1) := by decide +kernel
theorem d_La_law_403 : decode code 403 = .ok (.aload_n 3, 1) := by decide +kernel
theorem d_La_law_404 : decode code 404 = .ok (.invokestatic 95, 3) := by decide +kernel
theorem d_La_law_407 : decode code 407 = .ok (.istore 5, 2) := by decide +kernel
theorem d_La_law_409 : decode code 409 = .ok (.aload_n 2, 1) := by decide +kernel
theorem d_La_law_410 : decode code 410 = .ok (.aload_n 0, 1) := by decide +kernel
theorem d_La_law_411 : decode code 411 = .ok (.iload 4, 2) := by decide +kernel
theorem d_La_law_413 : decode code 413 = .ok (.iconst 1, 1) := by decide +kernel
theorem d_La_law_414 : decode code 414 = .ok (.iadd, 1) := by decide +kernel
theorem d_La_law_415 : decode code 415 = .ok (.iaload, 1) := by decide +kernel
theorem d_La_law_416 : decode code 416 = .ok (.invokevirtual 98, 3) := by decide +kernel
theorem d_La_law_419 : decode code 419 = .ok (.istore 6, 2) := by decide +kernel
theorem d_La_law_421 : decode code 421 = .ok (.aload_n 2, 1) := by decide +kernel
theorem d_La_law_422 : decode code 422 = .ok (.invokevirtual 77, 3) := by decide +kernel
theorem d_La_law_425 : decode code 425 = .ok (.iload 5, 2) := by decide +kernel
theorem d_La_law_427 : decode code 427 = .ok (.if_icmp .eq 5, 3) := by decide +kernel
theorem d_La_law_430 : decode code 430 = .ok (.iconst 0, 1) := by decide +kernel
theorem d_La_law_431 : decode code 431 = .ok (.ireturn, 1) := by decide +kernel
theorem d_La_law_432 : decode code 432 = .ok (.iload 5, 2) := by decide +kernel
theorem d_La_law_434 : decode code 434 = .ok (.ifCond .ne 15, 3) := by decide +kernel
theorem d_La_law_437 : decode code 437 = .ok (.aload_n 3, 1) := by decide +kernel
theorem d_La_law_438 : decode code 438 = .ok (.iconst 0, 1) := by decide +kernel
theorem d_La_law_439 : decode code 439 = .ok (.laload, 1) := by decide +kernel
theorem d_La_law_440 : decode code 440 = .ok (.iload 6, 2) := by decide +kernel
theorem d_La_law_442 : decode code 442 = .ok (.i2l, 1) := by decide +kernel
theorem d_La_law_443 : decode code 443 = .ok (.lcmp, 1) := by decide +kernel
theorem d_La_law_444 : decode code 444 = .ok (.ifCond .eq 5, 3) := by decide +kernel
theorem d_La_law_447 : decode code 447 = .ok (.iconst 0, 1) := by decide +kernel
theorem d_La_law_448 : decode code 448 = .ok (.ireturn, 1) := by decide +kernel
theorem d_La_law_449 : decode code 449 = .ok (.goto 583, 3) := by decide +kernel
theorem d_La_law_452 : decode code 452 = .ok (.aload_n 1, 1) := by decide +kernel
theorem d_La_law_453 : decode code 453 = .ok (.aload_n 0, 1) := by decide +kernel
theorem d_La_law_454 : decode code 454 = .ok (.iload 4, 2) := by decide +kernel
theorem d_La_law_456 : decode code 456 = .ok (.iconst 1, 1) := by decide +kernel
theorem d_La_law_457 : decode code 457 = .ok (.iadd, 1) := by decide +kernel
theorem d_La_law_458 : decode code 458 = .ok (.iaload, 1) := by decide +kernel
theorem d_La_law_459 : decode code 459 = .ok (.aload_n 0, 1) := by decide +kernel
theorem d_La_law_460 : decode code 460 = .ok (.iload 4, 2) := by decide +kernel
theorem d_La_law_462 : decode code 462 = .ok (.iconst 2, 1) := by decide +kernel
theorem d_La_law_463 : decode code 463 = .ok (.iadd, 1) := by decide +kernel
theorem d_La_law_464 : decode code 464 = .ok (.iaload, 1) := by decide +kernel
theorem d_La_law_465 : decode code 465 = .ok (.aload_n 3, 1) := by decide +kernel
theorem d_La_law_466 : decode code 466 = .ok (.invokestatic 99, 3) := by decide +kernel
theorem d_La_law_469 : decode code 469 = .ok (.istore 5, 2) := by decide +kernel
theorem d_La_law_471 : decode code 471 = .ok (.aload_n 2, 1) := by decide +kernel
theorem d_La_law_472 : decode code 472 = .ok (.aload_n 0, 1) := by decide +kernel
theorem d_La_law_473 : decode code 473 = .ok (.iload 4, 2) := by decide +kernel
theorem d_La_law_475 : decode code 475 = .ok (.iconst 1, 1) := by decide +kernel
theorem d_La_law_476 : decode code 476 = .ok (.iadd, 1) := by decide +kernel
theorem d_La_law_477 : decode code 477 = .ok (.iaload, 1) := by decide +kernel
theorem d_La_law_478 : decode code 478 = .ok (.aload_n 0, 1) := by decide +kernel
theorem d_La_law_479 : decode code 479 = .ok (.iload 4, 2) := by decide +kernel
theorem d_La_law_481 : decode code 481 = .ok (.iconst 2, 1) := by decide +kernel
theorem d_La_law_482 : decode code 482 = .ok (.iadd, 1) := by decide +kernel
theorem d_La_law_483 : decode code 483 = .ok (.iaload, 1) := by decide +kernel
theorem d_La_law_484 : decode code 484 = .ok (.invokevirtual 101, 3) := by decide +kernel
theorem d_La_law_487 : decode code 487 = .ok (.istore 6, 2) := by decide +kernel
theorem d_La_law_489 : decode code 489 = .ok (.aload_n 2, 1) := by decide +kernel
theorem d_La_law_490 : decode code 490 = .ok (.invokevirtual 77, 3) := by decide +kernel
theorem d_La_law_493 : decode code 493 = .ok (.iload 5, 2) := by decide +kernel
theorem d_La_law_495 : decode code 495 = .ok (.if_icmp .eq 5, 3) := by decide +kernel
theorem d_La_law_498 : decode code 498 = .ok (.iconst 0, 1) := by decide +kernel
theorem d_La_law_499 : decode code 499 = .ok (.ireturn, 1) := by decide +kernel
theorem d_La_law_500 : decode code 500 = .ok (.iload 5, 2) := by decide +kernel
theorem d_La_law_502 : decode code 502 = .ok (.ifCond .ne 15, 3) := by decide +kernel
theorem d_La_law_505 : decode code 505 = .ok (.aload_n 3, 1) := by decide +kernel
theorem d_La_law_506 : decode code 506 = .ok (.iconst 0, 1) := by decide +kernel
theorem d_La_law_507 : decode code 507 = .ok (.laload, 1) := by decide +kernel
theorem d_La_law_508 : decode code 508 = .ok (.iload 6, 2) := by decide +kernel
theorem d_La_law_510 : decode code 510 = .ok (.i2l, 1) := by decide +kernel
theorem d_La_law_511 : decode code 511 = .ok (.lcmp, 1) := by decide +kernel
theorem d_La_law_512 : decode code 512 = .ok (.ifCond .eq 5, 3) := by decide +kernel
theorem d_La_law_515 : decode code 515 = .ok (.iconst 0, 1) := by decide +kernel
theorem d_La_law_516 : decode code 516 = .ok (.ireturn, 1) := by decide +kernel
theorem d_La_law_517 : decode code 517 = .ok (.goto 515, 3) := by decide +kernel
theorem d_La_law_520 : decode code 520 = .ok (.aload_n 1, 1) := by decide +kernel
theorem d_La_law_521 : decode code 521 = .ok (.aload_n 0, 1) := by decide +kernel
theorem d_La_law_522 : decode code 522 = .ok (.iload 4, 2) := by decide +kernel
theorem d_La_law_524 : decode code 524 = .ok (.iconst 1, 1) := by decide +kernel
theorem d_La_law_525 : decode code 525 = .ok (.iadd, 1) := by decide +kernel
theorem d_La_law_526 : decode code 526 = .ok (.iaload, 1) := by decide +kernel
theorem d_La_law_527 : decode code 527 = .ok (.invokevirtual 102, 3) := by decide +kernel
theorem d_La_law_530 : decode code 530 = .ok (.aload_n 2, 1) := by decide +kernel
theorem d_La_law_531 : decode code 531 = .ok (.aload_n 0, 1) := by decide +kernel
theorem d_La_law_532 : decode code 532 = .ok (.iload 4, 2) := by decide +kernel
theorem d_La_law_534 : decode code 534 = .ok (.iconst 1, 1) := by decide +kernel
theorem d_La_law_535 : decode code 535 = .ok (.iadd, 1) := by decide +kernel
theorem d_La_law_536 : decode code 536 = .ok (.iaload, 1) := by decide +kernel
theorem d_La_law_537 : decode code 537 = .ok (.invokevirtual 106, 3) := by decide +kernel
theorem d_La_law_540 : decode code 540 = .ok (.if_icmp .eq 492, 3) := by decide +kernel
theorem d_La_law_543 : decode code 543 = .ok (.iconst 0, 1) := by decide +kernel
theorem d_La_law_544 : decode code 544 = .ok (.ireturn, 1) := by decide +kernel
theorem d_La_law_545 : decode code 545 = .ok (.aload_n 1, 1) := by decide +kernel
theorem d_La_law_546 : decode code 546 = .ok (.aload_n 0, 1) := by decide +kernel
theorem d_La_law_547 : decode code 547 = .ok (.iload 4, 2) := by decide +kernel
theorem d_La_law_549 : decode code 549 = .ok (.iconst 1, 1) := by decide +kernel
theorem d_La_law_550 : decode code 550 = .ok (.iadd, 1) := by decide +kernel
theorem d_La_law_551 : decode code 551 = .ok (.iaload, 1) := by decide +kernel
theorem d_La_law_552 : decode code 552 = .ok (.aload_n 0, 1) := by decide +kernel
theorem d_La_law_553 : decode code 553 = .ok (.iload 4, 2) := by decide +kernel
theorem d_La_law_555 : decode code 555 = .ok (.iconst 2, 1) := by decide +kernel
theorem d_La_law_556 : decode code 556 = .ok (.iadd, 1) := by decide +kernel
theorem d_La_law_557 : decode code 557 = .ok (.iaload, 1) := by decide +kernel
theorem d_La_law_558 : decode code 558 = .ok (.aload_n 3, 1) := by decide +kernel
theorem d_La_law_559 : decode code 559 = .ok (.invokestatic 107, 3) := by decide +kernel
theorem d_La_law_562 : decode code 562 = .ok (.istore 5, 2) := by decide +kernel
theorem d_La_law_564 : decode code 564 = .ok (.aload_n 2, 1) := by decide +kernel
theorem d_La_law_565 : decode code 565 = .ok (.aload_n 0, 1) := by decide +kernel
theorem d_La_law_566 : decode code 566 = .ok (.iload 4, 2) := by decide +kernel
theorem d_La_law_568 : decode code 568 = .ok (.iconst 1, 1) := by decide +kernel
theorem d_La_law_569 : decode code 569 = .ok (.iadd, 1) := by decide +kernel
theorem d_La_law_570 : decode code 570 = .ok (.iaload, 1) := by decide +kernel
theorem d_La_law_571 : decode code 571 = .ok (.aload_n 0, 1) := by decide +kernel
theorem d_La_law_572 : decode code 572 = .ok (.iload 4, 2) := by decide +kernel
theorem d_La_law_574 : decode code 574 = .ok (.iconst 2, 1) := by decide +kernel
theorem d_La_law_575 : decode code 575 = .ok (.iadd, 1) := by decide +kernel
theorem d_La_law_576 : decode code 576 = .ok (.iaload, 1) := by decide +kernel
theorem d_La_law_577 : decode code 577 = .ok (.invokevirtual 109, 3) := by decide +kernel
theorem d_La_law_580 : decode code 580 = .ok (.istore 6, 2) := by decide +kernel
theorem d_La_law_582 : decode code 582 = .ok (.aload_n 2, 1) := by decide +kernel
theorem d_La_law_583 : decode code 583 = .ok (.invokevirtual 77, 3) := by decide +kernel
theorem d_La_law_586 : decode code 586 = .ok (.iload 5, 2) := by decide +kernel
theorem d_La_law_588 : decode code 588 = .ok (.if_icmp .eq 5, 3) := by decide +kernel
theorem d_La_law_591 : decode code 591 = .ok (.iconst 0, 1) := by decide +kernel
theorem d_La_law_592 : decode code 592 = .ok (.ireturn, 1) := by decide +kernel
theorem d_La_law_593 : decode code 593 = .ok (.iload 5, 2) := by decide +kernel
theorem d_La_law_595 : decode code 595 = .ok (.ifCond .ne 15, 3) := by decide +kernel
theorem d_La_law_598 : decode code 598 = .ok (.aload_n 3, 1) := by decide +kernel
theorem d_La_law_599 : decode code 599 = .ok (.iconst 0, 1) := by decide +kernel
theorem d_La_law_600 : decode code 600 = .ok (.laload, 1) := by decide +kernel
theorem d_La_law_601 : decode code 601 = .ok (.iload 6, 2) := by decide +kernel
theorem d_La_law_603 : decode code 603 = .ok (.i2l, 1) := by decide +kernel
theorem d_La_law_604 : decode code 604 = .ok (.lcmp, 1) := by decide +kernel
theorem d_La_law_605 : decode code 605 = .ok (.ifCond .eq 5, 3) := by decide +kernel
theorem d_La_law_608 : decode code 608 = .ok (.iconst 0, 1) := by decide +kernel
theorem d_La_law_609 : decode code 609 = .ok (.ireturn, 1) := by decide +kernel
theorem d_La_law_610 : decode code 610 = .ok (.goto 422, 3) := by decide +kernel
theorem d_La_law_613 : decode code 613 = .ok (.aload_n 1, 1) := by decide +kernel
theorem d_La_law_614 : decode code 614 = .ok (.aload_n 0, 1) := by decide +kernel
theorem d_La_law_615 : decode code 615 = .ok (.iload 4, 2) := by decide +kernel
theorem d_La_law_617 : decode code 617 = .ok (.iconst 1, 1) := by decide +kernel
theorem d_La_law_618 : decode code 618 = .ok (.iadd, 1) := by decide +kernel
theorem d_La_law_619 : decode code 619 = .ok (.iaload, 1) := by decide +kernel
theorem d_La_law_620 : decode code 620 = .ok (.aload_n 3, 1) := by decide +kernel
theorem d_La_law_621 : decode code 621 = .ok (.invokestatic 110, 3) := by decide +kernel
theorem d_La_law_624 : decode code 624 = .ok (.istore 5, 2) := by decide +kernel
theorem d_La_law_626 : decode code 626 = .ok (.aload_n 2, 1) := by decide +kernel
theorem d_La_law_627 : decode code 627 = .ok (.aload_n 0, 1) := by decide +kernel
theorem d_La_law_628 : decode code 628 = .ok (.iload 4, 2) := by decide +kernel
theorem d_La_law_630 : decode code 630 = .ok (.iconst 1, 1) := by decide +kernel
theorem d_La_law_631 : decode code 631 = .ok (.iadd, 1) := by decide +kernel
theorem d_La_law_632 : decode code 632 = .ok (.iaload, 1) := by decide +kernel
theorem d_La_law_633 : decode code 633 = .ok (.invokevirtual 112, 3) := by decide +kernel
theorem d_La_law_636 : decode code 636 = .ok (.istore 6, 2) := by decide +kernel
theorem d_La_law_638 : decode code 638 = .ok (.aload_n 2, 1) := by decide +kernel
theorem d_La_law_639 : decode code 639 = .ok (.invokevirtual 77, 3) := by decide +kernel
theorem d_La_law_642 : decode code 642 = .ok (.iload 5, 2) := by decide +kernel
theorem d_La_law_644 : decode code 644 = .ok (.if_icmp .eq 5, 3) := by decide +kernel
theorem d_La_law_647 : decode code 647 = .ok (.iconst 0, 1) := by decide +kernel
theorem d_La_law_648 : decode code 648 = .ok (.ireturn, 1) := by decide +kernel
theorem d_La_law_649 : decode code 649 = .ok (.iload 5, 2) := by decide +kernel
theorem d_La_law_651 : decode code 651 = .ok (.ifCond .ne 15, 3) := by decide +kernel
theorem d_La_law_654 : decode code 654 = .ok (.aload_n 3, 1) := by decide +kernel
theorem d_La_law_655 : decode code 655 = .ok (.iconst 0, 1) := by decide +kernel
theorem d_La_law_656 : decode code 656 = .ok (.laload, 1) := by decide +kernel
theorem d_La_law_657 : decode code 657 = .ok (.iload 6, 2) := by decide +kernel
theorem d_La_law_659 : decode code 659 = .ok (.i2l, 1) := by decide +kernel
theorem d_La_law_660 : decode code 660 = .ok (.lcmp, 1) := by decide +kernel
theorem d_La_law_661 : decode code 661 = .ok (.ifCond .eq 5, 3) := by decide +kernel
theorem d_La_law_664 : decode code 664 = .ok (.iconst 0, 1) := by decide +kernel
theorem d_La_law_665 : decode code 665 = .ok (.ireturn, 1) := by decide +kernel
theorem d_La_law_666 : decode code 666 = .ok (.goto 366, 3) := by decide +kernel
theorem d_La_law_669 : decode code 669 = .ok (.aload_n 1, 1) := by decide +kernel
theorem d_La_law_670 : decode code 670 = .ok (.aload_n 0, 1) := by decide +kernel
theorem d_La_law_671 : decode code 671 = .ok (.iload 4, 2) := by decide +kernel
theorem d_La_law_673 : decode code 673 = .ok (.iconst 1, 1) := by decide +kernel
theorem d_La_law_674 : decode code 674 = .ok (.iadd, 1) := by decide +kernel
theorem d_La_law_675 : decode code 675 = .ok (.iaload, 1) := by decide +kernel
theorem d_La_law_676 : decode code 676 = .ok (.aload_n 0, 1) := by decide +kernel
theorem d_La_law_677 : decode code 677 = .ok (.iload 4, 2) := by decide +kernel
theorem d_La_law_679 : decode code 679 = .ok (.iconst 2, 1) := by decide +kernel
theorem d_La_law_680 : decode code 680 = .ok (.iadd, 1) := by decide +kernel
theorem d_La_law_681 : decode code 681 = .ok (.iaload, 1) := by decide +kernel
theorem d_La_law_682 : decode code 682 = .ok (.aload_n 3, 1) := by decide +kernel
theorem d_La_law_683 : decode code 683 = .ok (.invokestatic 113, 3) := by decide +kernel
theorem d_La_law_686 : decode code 686 = .ok (.istore 5, 2) := by decide +kernel
theorem d_La_law_688 : decode code 688 = .ok (.aload_n 2, 1) := by decide +kernel
theorem d_La_law_689 : decode code 689 = .ok (.aload_n 0, 1) := by decide +kernel
theorem d_La_law_690 : decode code 690 = .ok (.iload 4, 2) := by decide +kernel
theorem d_La_law_692 : decode code 692 = .ok (.iconst 1, 1) := by decide +kernel
theorem d_La_law_693 : decode code 693 = .ok (.iadd, 1) := by decide +kernel
theorem d_La_law_694 : decode code 694 = .ok (.iaload, 1) := by decide +kernel
theorem d_La_law_695 : decode code 695 = .ok (.aload_n 0, 1) := by decide +kernel
theorem d_La_law_696 : decode code 696 = .ok (.iload 4, 2) := by decide +kernel
theorem d_La_law_698 : decode code 698 = .ok (.iconst 2, 1) := by decide +kernel
theorem d_La_law_699 : decode code 699 = .ok (.iadd, 1) := by decide +kernel
theorem d_La_law_700 : decode code 700 = .ok (.iaload, 1) := by decide +kernel
theorem d_La_law_701 : decode code 701 = .ok (.invokevirtual 115, 3) := by decide +kernel
theorem d_La_law_704 : decode code 704 = .ok (.istore 6, 2) := by decide +kernel
theorem d_La_law_706 : decode code 706 = .ok (.aload_n 2, 1) := by decide +kernel
theorem d_La_law_707 : decode code 707 = .ok (.invokevirtual 77, 3) := by decide +kernel
theorem d_La_law_710 : decode code 710 = .ok (.iload 5, 2) := by decide +kernel
theorem d_La_law_712 : decode code 712 = .ok (.if_icmp .eq 5, 3) := by decide +kernel
theorem d_La_law_715 : decode code 715 = .ok (.iconst 0, 1) := by decide +kernel
theorem d_La_law_716 : decode code 716 = .ok (.ireturn, 1) := by decide +kernel
theorem d_La_law_717 : decode code 717 = .ok (.iload 5, 2) := by decide +kernel
theorem d_La_law_719 : decode code 719 = .ok (.ifCond .ne 15, 3) := by decide +kernel
theorem d_La_law_722 : decode code 722 = .ok (.aload_n 3, 1) := by decide +kernel
theorem d_La_law_723 : decode code 723 = .ok (.iconst 0, 1) := by decide +kernel
theorem d_La_law_724 : decode code 724 = .ok (.laload, 1) := by decide +kernel
theorem d_La_law_725 : decode code 725 = .ok (.iload 6, 2) := by decide +kernel
theorem d_La_law_727 : decode code 727 = .ok (.i2l, 1) := by decide +kernel
theorem d_La_law_728 : decode code 728 = .ok (.lcmp, 1) := by decide +kernel
theorem d_La_law_729 : decode code 729 = .ok (.ifCond .eq 5, 3) := by decide +kernel
theorem d_La_law_732 : decode code 732 = .ok (.iconst 0, 1) := by decide +kernel
theorem d_La_law_733 : decode code 733 = .ok (.ireturn, 1) := by decide +kernel
theorem d_La_law_734 : decode code 734 = .ok (.goto 298, 3) := by decide +kernel
theorem d_La_law_737 : decode code 737 = .ok (.aload_n 1, 1) := by decide +kernel
theorem d_La_law_738 : decode code 738 = .ok (.invokevirtual 116, 3) := by decide +kernel
theorem d_La_law_741 : decode code 741 = .ok (.aload_n 2, 1) := by decide +kernel
theorem d_La_law_742 : decode code 742 = .ok (.invokevirtual 119, 3) := by decide +kernel
theorem d_La_law_745 : decode code 745 = .ok (.if_icmp .eq 287, 3) := by decide +kernel
theorem d_La_law_748 : decode code 748 = .ok (.iconst 0, 1) := by decide +kernel
theorem d_La_law_749 : decode code 749 = .ok (.ireturn, 1) := by decide +kernel
theorem d_La_law_750 : decode code 750 = .ok (.aload_n 1, 1) := by decide +kernel
theorem d_La_law_751 : decode code 751 = .ok (.invokevirtual 120, 3) := by decide +kernel
theorem d_La_law_754 : decode code 754 = .ok (.aload_n 2, 1) := by decide +kernel
theorem d_La_law_755 : decode code 755 = .ok (.invokevirtual 123, 3) := by decide +kernel
theorem d_La_law_758 : decode code 758 = .ok (.if_icmp .eq 274, 3) := by decide +kernel
theorem d_La_law_761 : decode code 761 = .ok (.iconst 0, 1) := by decide +kernel
theorem d_La_law_762 : decode code 762 = .ok (.ireturn, 1) := by decide +kernel
theorem d_La_law_763 : decode code 763 = .ok (.aload_n 1, 1) := by decide +kernel
theorem d_La_law_764 : decode code 764 = .ok (.invokestatic 124, 3) := by decide +kernel
theorem d_La_law_767 : decode code 767 = .ok (.istore 5, 2) := by decide +kernel
theorem d_La_law_769 : decode code 769 = .ok (.aload_n 2, 1) := by decide +kernel
theorem d_La_law_770 : decode code 770 = .ok (.invokevirtual 127, 3) := by decide +kernel
theorem d_La_law_773 : decode code 773 = .ok (.aload_n 2, 1) := by decide +kernel
theorem d_La_law_774 : decode code 774 = .ok (.invokevirtual 77, 3) := by decide +kernel
theorem d_La_law_777 : decode code 777 = .ok (.iload 5, 2) := by decide +kernel
theorem d_La_law_779 : decode code 779 = .ok (.if_icmp .eq 5, 3) := by decide +kernel
theorem d_La_law_782 : decode code 782 = .ok (.iconst 0, 1) := by decide +kernel
theorem d_La_law_783 : decode code 783 = .ok (.ireturn, 1) := by decide +kernel
theorem d_La_law_784 : decode code 784 = .ok (.goto 248, 3) := by decide +kernel
theorem d_La_law_787 : decode code 787 = .ok (.aload_n 1, 1) := by decide +kernel
theorem d_La_law_788 : decode code 788 = .ok (.aload_n 3, 1) := by decide +kernel
theorem d_La_law_789 : decode code 789 = .ok (.invokestatic 128, 3) := by decide +kernel
theorem d_La_law_792 : decode code 792 = .ok (.istore 5, 2) := by decide +kernel
theorem d_La_law_794 : decode code 794 = .ok (.aload_n 2, 1) := by decide +kernel
theorem d_La_law_795 : decode code 795 = .ok (.invokevirtual 131, 3) := by decide +kernel
theorem d_La_law_798 : decode code 798 = .ok (.istore 6, 2) := by decide +kernel
theorem d_La_law_800 : decode code 800 = .ok (.aload_n 2, 1) := by decide +kernel
theorem d_La_law_801 : decode code 801 = .ok (.invokevirtual 77, 3) := by decide +kernel
theorem d_La_law_804 : decode code 804 = .ok (.iload 5, 2) := by decide +kernel
theorem d_La_law_806 : decode code 806 = .ok (.if_icmp .eq 5, 3) := by decide +kernel
theorem d_La_law_809 : decode code 809 = .ok (.iconst 0, 1) := by decide +kernel
theorem d_La_law_810 : decode code 810 = .ok (.ireturn, 1) := by decide +kernel
theorem d_La_law_811 : decode code 811 = .ok (.iload 5, 2) := by decide +kernel
theorem d_La_law_813 : decode code 813 = .ok (.ifCond .ne 15, 3) := by decide +kernel
theorem d_La_law_816 : decode code 816 = .ok (.aload_n 3, 1) := by decide +kernel
theorem d_La_law_817 : decode code 817 = .ok (.iconst 0, 1) := by decide +kernel
theorem d_La_law_818 : decode code 818 = .ok (.laload, 1) := by decide +kernel
theorem d_La_law_819 : decode code 819 = .ok (.iload 6, 2) := by decide +kernel
theorem d_La_law_821 : decode code 821 = .ok (.i2l, 1) := by decide +kernel
theorem d_La_law_822 : decode code 822 = .ok (.lcmp, 1) := by decide +kernel
theorem d_La_law_823 : decode code 823 = .ok (.ifCond .eq 5, 3) := by decide +kernel
theorem d_La_law_826 : decode code 826 = .ok (.iconst 0, 1) := by decide +kernel
theorem d_La_law_827 : decode code 827 = .ok (.ireturn, 1) := by decide +kernel
theorem d_La_law_828 : decode code 828 = .ok (.goto 204, 3) := by decide +kernel
theorem d_La_law_831 : decode code 831 = .ok (.aload_n 1, 1) := by decide +kernel
theorem d_La_law_832 : decode code 832 = .ok (.aload_n 0, 1) := by decide +kernel
theorem d_La_law_833 : decode code 833 = .ok (.iload 4, 2) := by decide +kernel
theorem d_La_law_835 : decode code 835 = .ok (.iconst 1, 1) := by decide +kernel
theorem d_La_law_836 : decode code 836 = .ok (.iadd, 1) := by decide +kernel
theorem d_La_law_837 : decode code 837 = .ok (.iaload, 1) := by decide +kernel
theorem d_La_law_838 : decode code 838 = .ok (.ifCond .eq 7, 3) := by decide +kernel
theorem d_La_law_841 : decode code 841 = .ok (.iconst 1, 1) := by decide +kernel
theorem d_La_law_842 : decode code 842 = .ok (.goto 4, 3) := by decide +kernel
theorem d_La_law_845 : decode code 845 = .ok (.iconst 0, 1) := by decide +kernel
theorem d_La_law_846 : decode code 846 = .ok (.invokevirtual 132, 3) := by decide +kernel
theorem d_La_law_849 : decode code 849 = .ok (.aload_n 2, 1) := by decide +kernel
theorem d_La_law_850 : decode code 850 = .ok (.aload_n 0, 1) := by decide +kernel
theorem d_La_law_851 : decode code 851 = .ok (.iload 4, 2) := by decide +kernel
theorem d_La_law_853 : decode code 853 = .ok (.iconst 1, 1) := by decide +kernel
theorem d_La_law_854 : decode code 854 = .ok (.iadd, 1) := by decide +kernel
theorem d_La_law_855 : decode code 855 = .ok (.iaload, 1) := by decide +kernel
theorem d_La_law_856 : decode code 856 = .ok (.ifCond .eq 7, 3) := by decide +kernel
theorem d_La_law_859 : decode code 859 = .ok (.iconst 1, 1) := by decide +kernel
theorem d_La_law_860 : decode code 860 = .ok (.goto 4, 3) := by decide +kernel
theorem d_La_law_863 : decode code 863 = .ok (.iconst 0, 1) := by decide +kernel
theorem d_La_law_864 : decode code 864 = .ok (.invokevirtual 136, 3) := by decide +kernel
theorem d_La_law_867 : decode code 867 = .ok (.if_icmp .eq 165, 3) := by decide +kernel
theorem d_La_law_870 : decode code 870 = .ok (.iconst 0, 1) := by decide +kernel
theorem d_La_law_871 : decode code 871 = .ok (.ireturn, 1) := by decide +kernel
theorem d_La_law_872 : decode code 872 = .ok (.aload_n 1, 1) := by decide +kernel
theorem d_La_law_873 : decode code 873 = .ok (.aload_n 0, 1) := by decide +kernel
theorem d_La_law_874 : decode code 874 = .ok (.iload 4, 2) := by decide +kernel
theorem d_La_law_876 : decode code 876 = .ok (.iconst 1, 1) := by decide +kernel
theorem d_La_law_877 : decode code 877 = .ok (.iadd, 1) := by decide +kernel
theorem d_La_law_878 : decode code 878 = .ok (.iaload, 1) := by decide +kernel
theorem d_La_law_879 : decode code 879 = .ok (.aload_n 0, 1) := by decide +kernel
theorem d_La_law_880 : decode code 880 = .ok (.iload 4, 2) := by decide +kernel
theorem d_La_law_882 : decode code 882 = .ok (.iconst 2, 1) := by decide +kernel
theorem d_La_law_883 : decode code 883 = .ok (.iadd, 1) := by decide +kernel
theorem d_La_law_884 : decode code 884 = .ok (.iaload, 1) := by decide +kernel
theorem d_La_law_885 : decode code 885 = .ok (.ifCond .eq 7, 3) := by decide +kernel
theorem d_La_law_888 : decode code 888 = .ok (.iconst 1, 1) := by decide +kernel
theorem d_La_law_889 : decode code 889 = .ok (.goto 4, 3) := by decide +kernel
theorem d_La_law_892 : decode code 892 = .ok (.iconst 0, 1) := by decide +kernel
theorem d_La_law_893 : decode code 893 = .ok (.aload_n 3, 1) := by decide +kernel
theorem d_La_law_894 : decode code 894 = .ok (.invokestatic 137, 3) := by decide +kernel
theorem d_La_law_897 : decode code 897 = .ok (.istore 5, 2) := by decide +kernel
theorem d_La_law_899 : decode code 899 = .ok (.aload_n 2, 1) := by decide +kernel
theorem d_La_law_900 : decode code 900 = .ok (.aload_n 0, 1) := by decide +kernel
theorem d_La_law_901 : decode code 901 = .ok (.iload 4, 2) := by decide +kernel
theorem d_La_law_903 : decode code 903 = .ok (.iconst 1, 1) := by decide +kernel
theorem d_La_law_904 : decode code 904 = .ok (.iadd, 1) := by decide +kernel
theorem d_La_law_905 : decode code 905 = .ok (.iaload, 1) := by decide +kernel
theorem d_La_law_906 : decode code 906 = .ok (.aload_n 0, 1) := by decide +kernel
theorem d_La_law_907 : decode code 907 = .ok (.iload 4, 2) := by decide +kernel
theorem d_La_law_909 : decode code 909 = .ok (.iconst 2, 1) := by decide +kernel
theorem d_La_law_910 : decode code 910 = .ok (.iadd, 1) := by decide +kernel
theorem d_La_law_911 : decode code 911 = .ok (.iaload, 1) := by decide +kernel
theorem d_La_law_912 : decode code 912 = .ok (.ifCond .eq 7, 3) := by decide +kernel
theorem d_La_law_915 : decode code 915 = .ok (.iconst 1, 1) := by decide +kernel
theorem d_La_law_916 : decode code 916 = .ok (.goto 4, 3) := by decide +kernel
theorem d_La_law_919 : decode code 919 = .ok (.iconst 0, 1) := by decide +kernel
theorem d_La_law_920 : decode code 920 = .ok (.invokevirtual 140, 3) := by decide +kernel
theorem d_La_law_923 : decode code 923 = .ok (.istore 6, 2) := by decide +kernel
theorem d_La_law_925 : decode code 925 = .ok (.aload_n 2, 1) := by decide +kernel
theorem d_La_law_926 : decode code 926 = .ok (.invokevirtual 77, 3) := by decide +kernel
theorem d_La_law_929 : decode code 929 = .ok (.iload 5, 2) := by decide +kernel
theorem d_La_law_931 : decode code 931 = .ok (.if_icmp .eq 5, 3) := by decide +kernel
theorem d_La_law_934 : decode code 934 = .ok (.iconst 0, 1) := by decide +kernel
theorem d_La_law_935 : decode code 935 = .ok (.ireturn, 1) := by decide +kernel
theorem d_La_law_936 : decode code 936 = .ok (.iload 5, 2) := by decide +kernel
theorem d_La_law_938 : decode code 938 = .ok (.ifCond .ne 15, 3) := by decide +kernel
theorem d_La_law_941 : decode code 941 = .ok (.aload_n 3, 1) := by decide +kernel
theorem d_La_law_942 : decode code 942 = .ok (.iconst 0, 1) := by decide +kernel
theorem d_La_law_943 : decode code 943 = .ok (.laload, 1) := by decide +kernel
theorem d_La_law_944 : decode code 944 = .ok (.iload 6, 2) := by decide +kernel
theorem d_La_law_946 : decode code 946 = .ok (.i2l, 1) := by decide +kernel
theorem d_La_law_947 : decode code 947 = .ok (.lcmp, 1) := by decide +kernel
theorem d_La_law_948 : decode code 948 = .ok (.ifCond .eq 5, 3) := by decide +kernel
theorem d_La_law_951 : decode code 951 = .ok (.iconst 0, 1) := by decide +kernel
theorem d_La_law_952 : decode code 952 = .ok (.ireturn, 1) := by decide +kernel
theorem d_La_law_953 : decode code 953 = .ok (.goto 79, 3) := by decide +kernel
theorem d_La_law_956 : decode code 956 = .ok (.aload_n 1, 1) := by decide +kernel
theorem d_La_law_957 : decode code 957 = .ok (.aload_n 0, 1) := by decide +kernel
theorem d_La_law_958 : decode code 958 = .ok (.iload 4, 2) := by decide +kernel
theorem d_La_law_960 : decode code 960 = .ok (.iconst 1, 1) := by decide +kernel
theorem d_La_law_961 : decode code 961 = .ok (.iadd, 1) := by decide +kernel
theorem d_La_law_962 : decode code 962 = .ok (.iaload, 1) := by decide +kernel
theorem d_La_law_963 : decode code 963 = .ok (.aload_n 0, 1) := by decide +kernel
theorem d_La_law_964 : decode code 964 = .ok (.iload 4, 2) := by decide +kernel
theorem d_La_law_966 : decode code 966 = .ok (.iconst 2, 1) := by decide +kernel
theorem d_La_law_967 : decode code 967 = .ok (.iadd, 1) := by decide +kernel
theorem d_La_law_968 : decode code 968 = .ok (.iaload, 1) := by decide +kernel
theorem d_La_law_969 : decode code 969 = .ok (.aload_n 0, 1) := by decide +kernel
theorem d_La_law_970 : decode code 970 = .ok (.iload 4, 2) := by decide +kernel
theorem d_La_law_972 : decode code 972 = .ok (.iconst 3, 1) := by decide +kernel
theorem d_La_law_973 : decode code 973 = .ok (.iadd, 1) := by decide +kernel
theorem d_La_law_974 : decode code 974 = .ok (.iaload, 1) := by decide +kernel
theorem d_La_law_975 : decode code 975 = .ok (.ifCond .eq 7, 3) := by decide +kernel
theorem d_La_law_978 : decode code 978 = .ok (.iconst 1, 1) := by decide +kernel
theorem d_La_law_979 : decode code 979 = .ok (.goto 4, 3) := by decide +kernel
theorem d_La_law_982 : decode code 982 = .ok (.iconst 0, 1) := by decide +kernel
theorem d_La_law_983 : decode code 983 = .ok (.invokestatic 141, 3) := by decide +kernel
theorem d_La_law_986 : decode code 986 = .ok (.istore 5, 2) := by decide +kernel
theorem d_La_law_988 : decode code 988 = .ok (.aload_n 2, 1) := by decide +kernel
theorem d_La_law_989 : decode code 989 = .ok (.aload_n 0, 1) := by decide +kernel
theorem d_La_law_990 : decode code 990 = .ok (.iload 4, 2) := by decide +kernel
theorem d_La_law_992 : decode code 992 = .ok (.iconst 1, 1) := by decide +kernel
theorem d_La_law_993 : decode code 993 = .ok (.iadd, 1) := by decide +kernel
theorem d_La_law_994 : decode code 994 = .ok (.iaload, 1) := by decide +kernel
theorem d_La_law_995 : decode code 995 = .ok (.aload_n 0, 1) := by decide +kernel
theorem d_La_law_996 : decode code 996 = .ok (.iload 4, 2) := by decide +kernel
theorem d_La_law_998 : decode code 998 = .ok (.iconst 2, 1) := by decide +kernel
theorem d_La_law_999 : decode code 999 = .ok (.iadd, 1) := by decide +kernel
theorem d_La_law_1000 : decode code 1000 = .ok (.iaload, 1) := by decide +kernel
theorem d_La_law_1001 : decode code 1001 = .ok (.aload_n 0, 1) := by decide +kernel
theorem d_La_law_1002 : decode code 1002 = .ok (.iload 4, 2) := by decide +kernel
theorem d_La_law_1004 : decode code 1004 = .ok (.iconst 3, 1) := by decide +kernel
theorem d_La_law_1005 : decode code 1005 = .ok (.iadd, 1) := by decide +kernel
theorem d_La_law_1006 : decode code 1006 = .ok (.iaload, 1) := by decide +kernel
theorem d_La_law_1007 : decode code 1007 = .ok (.ifCond .eq 7, 3) := by decide +kernel
theorem d_La_law_1010 : decode code 1010 = .ok (.iconst 1, 1) := by decide +kernel
theorem d_La_law_1011 : decode code 1011 = .ok (.goto 4, 3) := by decide +kernel
theorem d_La_law_1014 : decode code 1014 = .ok (.iconst 0, 1) := by decide +kernel
theorem d_La_law_1015 : decode code 1015 = .ok (.invokevirtual 144, 3) := by decide +kernel
theorem d_La_law_1018 : decode code 1018 = .ok (.aload_n 2, 1) := by decide +kernel
theorem d_La_law_1019 : decode code 1019 = .ok (.invokevirtual 77, 3) := by decide +kernel
theorem d_La_law_1022 : decode code 1022 = .ok (.iload 5, 2) := by decide +kernel
theorem d_La_law_1024 : decode code 1024 = .ok (.if_icmp .eq 5, 3) := by decide +kernel
theorem d_La_law_1027 : decode code 1027 = .ok (.iconst 0, 1) := by decide +kernel
theorem d_La_law_1028 : decode code 1028 = .ok (.ireturn, 1) := by decide +kernel
theorem d_La_law_1029 : decode code 1029 = .ok (.goto 3, 3) := by decide +kernel
theorem d_La_law_1032 : decode code 1032 = .ok (.iinc 4 4, 3) := by decide +kernel
theorem d_La_law_1035 : decode code 1035 = .ok (.goto (-1012), 3) := by decide +kernel
theorem d_La_law_1038 : decode code 1038 = .ok (.iconst 1, 1) := by decide +kernel
theorem d_La_law_1039 : decode code 1039 = .ok (.ireturn, 1) := by decide +kernel
