theorem dL_does_0 : decode cL_does 0 = .ok (.iload_n 2, 1) := by decide +kernel
theorem dL_does_1 : decode cL_does 1 = .ok (.iconst 5, 1) := by decide +kernel
theorem dL_does_2 : decode cL_does 2 = .ok (.ishr, 1) := by decide +kernel
theorem dL_does_3 : decode cL_does 3 = .ok (.iload_n 2, 1) := by decide +kernel
theorem dL_does_4 : decode cL_does 4 = .ok (.iconst 4, 1) := by decide +kernel
theorem dL_does_5 : decode cL_does 5 = .ok (.ishr, 1) := by decide +kernel
theorem dL_does_6 : decode cL_does 6 = .ok (.iconst 1, 1) := by decide +kernel
theorem dL_does_7 : decode cL_does 7 = .ok (.iand, 1) := by decide +kernel
theorem dL_does_8 : decode cL_does 8 = .ok (.ifCond .ne 8, 3) := by decide +kernel
theorem dL_does_11 : decode cL_does 11 = .ok (.bipush 30, 2) := by decide +kernel
theorem dL_does_13 : decode cL_does 13 = .ok (.goto 5, 3) := by decide +kernel
theorem dL_does_16 : decode cL_does 16 = .ok (.bipush 8, 2) := by decide +kernel
theorem dL_does_18 : decode cL_does 18 = .ok (.invokestatic 65, 3) := by decide +kernel
theorem dL_does_21 : decode cL_does 21 = .ok (.istore 4, 2) := by decide +kernel
theorem dL_does_23 : decode cL_does 23 = .ok (.iload_n 3, 1) := by decide +kernel
theorem dL_does_24 : decode cL_does 24 = .ok (.iconst 3, 1) := by decide +kernel
theorem dL_does_25 : decode cL_does 25 = .ok (.invokestatic 65, 3) := by decide +kernel
theorem dL_does_28 : decode cL_does 28 = .ok (.istore 5, 2) := by decide +kernel
theorem dL_does_30 : decode cL_does 30 = .ok (.iload_n 2, 1) := by decide +kernel
theorem dL_does_31 : decode cL_does 31 = .ok (.bipush 20, 2) := by decide +kernel
theorem dL_does_33 : decode cL_does 33 = .ok (.invokestatic 65, 3) := by decide +kernel
theorem dL_does_36 : decode cL_does 36 = .ok (.tableswitch 393 0 10 #[60, 60, 76, 76, 76, 82, 82, 136, 204, 277, 386], 60) := by decide +kernel
theorem dL_does_96 : decode cL_does 96 = .ok (.aload_n 0, 1) := by decide +kernel
theorem dL_does_97 : decode cL_does 97 = .ok (.iload 5, 2) := by decide +kernel
theorem dL_does_99 : decode cL_does 99 = .ok (.iload_n 3, 1) := by decide +kernel
theorem dL_does_100 : decode cL_does 100 = .ok (.iconst 2, 1) := by decide +kernel
theorem dL_does_101 : decode cL_does 101 = .ok (.ishr, 1) := by decide +kernel
theorem dL_does_102 : decode cL_does 102 = .ok (.iconst 3, 1) := by decide +kernel
theorem dL_does_103 : decode cL_does 103 = .ok (.invokestatic 65, 3) := by decide +kernel
theorem dL_does_106 : decode cL_does 106 = .ok (.iload 4, 2) := by decide +kernel
theorem dL_does_108 : decode cL_does 108 = .ok (.invokestatic 68, 3) := by decide +kernel
theorem dL_does_111 : decode cL_does 111 = .ok (.ireturn, 1) := by decide +kernel
theorem dL_does_112 : decode cL_does 112 = .ok (.aload_n 0, 1) := by decide +kernel
theorem dL_does_113 : decode cL_does 113 = .ok (.aload_n 1, 1) := by decide +kernel
theorem dL_does_114 : decode cL_does 114 = .ok (.invokestatic 72, 3) := by decide +kernel
theorem dL_does_117 : decode cL_does 117 = .ok (.ireturn, 1) := by decide +kernel
theorem dL_does_118 : decode cL_does 118 = .ok (.aload_n 0, 1) := by decide +kernel
theorem dL_does_119 : decode cL_does 119 = .ok (.aload_n 0, 1) := by decide +kernel
theorem dL_does_120 : decode cL_does 120 = .ok (.iconst 2, 1) := by decide +kernel
theorem dL_does_121 : decode cL_does 121 = .ok (.invokevirtual 14, 3) := by decide +kernel
theorem dL_does_124 : decode cL_does 124 = .ok (.ifCond .le 33, 3) := by decide +kernel
theorem dL_does_127 : decode cL_does 127 = .ok (.iload_n 3, 1) := by decide +kernel
theorem dL_does_128 : decode cL_does 128 = .ok (.iconst 3, 1) := by decide +kernel
theorem dL_does_129 : decode cL_does 129 = .ok (.iand, 1) := by decide +kernel
theorem dL_does_130 : decode cL_does 130 = .ok (.ifCond .le 27, 3) := by decide +kernel
theorem dL_does_133 : decode cL_does 133 = .ok (.aload_n 0, 1) := by decide +kernel
theorem dL_does_134 : decode cL_does 134 = .ok (.iload_n 3, 1) := by decide +kernel
theorem dL_does_135 : decode cL_does 135 = .ok (.iconst 2, 1) := by decide +kernel
theorem dL_does_136 : decode cL_does 136 = .ok (.ishr, 1) := by decide +kernel
theorem dL_does_137 : decode cL_does 137 = .ok (.aload_n 0, 1) := by decide +kernel
theorem dL_does_138 : decode cL_does 138 = .ok (.iconst 2, 1) := by decide +kernel
theorem dL_does_139 : decode cL_does 139 = .ok (.invokevirtual 14, 3) := by decide +kernel
theorem dL_does_142 : decode cL_does 142 = .ok (.aload_n 0, 1) := by decide +kernel
theorem dL_does_143 : decode cL_does 143 = .ok (.iconst 4, 1) := by decide +kernel
theorem dL_does_144 : decode cL_does 144 = .ok (.invokevirtual 14, 3) := by decide +kernel
theorem dL_does_147 : decode cL_does 147 = .ok (.iadd, 1) := by decide +kernel
theorem dL_does_148 : decode cL_does 148 = .ok (.invokestatic 65, 3) := by decide +kernel
theorem dL_does_151 : decode cL_does 151 = .ok (.invokevirtual 46, 3) := by decide +kernel
theorem dL_does_154 : decode cL_does 154 = .ok (.goto 5, 3) := by decide +kernel
theorem dL_does_157 : decode cL_does 157 = .ok (.iload 4, 2) := by decide +kernel
theorem dL_does_159 : decode cL_does 159 = .ok (.iconst 1, 1) := by decide +kernel
theorem dL_does_160 : decode cL_does 160 = .ok (.iload_n 3, 1) := by decide +kernel
theorem dL_does_161 : decode cL_does 161 = .ok (.iconst 5, 1) := by decide +kernel
theorem dL_does_162 : decode cL_does 162 = .ok (.ishr, 1) := by decide +kernel
theorem dL_does_163 : decode cL_does 163 = .ok (.iconst 3, 1) := by decide +kernel
theorem dL_does_164 : decode cL_does 164 = .ok (.invokestatic 65, 3) := by decide +kernel
theorem dL_does_167 : decode cL_does 167 = .ok (.iadd, 1) := by decide +kernel
theorem dL_does_168 : decode cL_does 168 = .ok (.invokestatic 76, 3) := by decide +kernel
theorem dL_does_171 : decode cL_does 171 = .ok (.ireturn, 1) := by decide +kernel
theorem dL_does_172 : decode cL_does 172 = .ok (.aload_n 0, 1) := by decide +kernel
theorem dL_does_173 : decode cL_does 173 = .ok (.iconst 5, 1) := by decide +kernel
theorem dL_does_174 : decode cL_does 174 = .ok (.invokevirtual 14, 3) := by decide +kernel
theorem dL_does_177 : decode cL_does 177 = .ok (.istore 6, 2) := by decide +kernel
theorem dL_does_179 : decode cL_does 179 = .ok (.iconst 1, 1) := by decide +kernel
theorem dL_does_180 : decode cL_does 180 = .ok (.iload_n 3, 1) := by decide +kernel
theorem dL_does_181 : decode cL_does 181 = .ok (.bipush 99, 2) := by decide +kernel
theorem dL_does_183 : decode cL_does 183 = .ok (.invokestatic 65, 3) := by decide +kernel
theorem dL_does_186 : decode cL_does 186 = .ok (.iadd, 1) := by decide +kernel
theorem dL_does_187 : decode cL_does 187 = .ok (.istore 7, 2) := by decide +kernel
theorem dL_does_189 : decode cL_does 189 = .ok (.iload 6, 2) := by decide +kernel
theorem dL_does_191 : decode cL_does 191 = .ok (.iload 7, 2) := by decide +kernel
theorem dL_does_193 : decode cL_does 193 = .ok (.iadd, 1) := by decide +kernel
theorem dL_does_194 : decode cL_does 194 = .ok (.sipush 999, 3) := by decide +kernel
theorem dL_does_197 : decode cL_does 197 = .ok (.if_icmp .le 9, 3) := by decide +kernel
theorem dL_does_200 : decode cL_does 200 = .ok (.sipush 999, 3) := by decide +kernel
theorem dL_does_203 : decode cL_does 203 = .ok (.goto 8, 3) := by decide +kernel
theorem dL_does_206 : decode cL_does 206 = .ok (.iload 6, 2) := by decide +kernel
theorem dL_does_208 : decode cL_does 208 = .ok (.iload 7, 2) := by decide +kernel
theorem dL_does_210 : decode cL_does 210 = .ok (.iadd, 1) := by decide +kernel
theorem dL_does_211 : decode cL_does 211 = .ok (.istore 8, 2) := by decide +kernel
theorem dL_does_213 : decode cL_does 213 = .ok (.aload_n 0, 1) := by decide +kernel
theorem dL_does_214 : decode cL_does 214 = .ok (.iload 7, 2) := by decide +kernel
theorem dL_does_216 : decode cL_does 216 = .ok (.invokevirtual 80, 3) := by decide +kernel
theorem dL_does_219 : decode cL_does 219 = .ok (.iload 8, 2) := by decide +kernel
theorem dL_does_221 : decode cL_does 221 = .ok (.if_icmp .ne 17, 3) := by decide +kernel
theorem dL_does_224 : decode cL_does 224 = .ok (.aload_n 0, 1) := by decide +kernel
theorem dL_does_225 : decode cL_does 225 = .ok (.iconst 5, 1) := by decide +kernel
theorem dL_does_226 : decode cL_does 226 = .ok (.invokevirtual 14, 3) := by decide +kernel
theorem dL_does_229 : decode cL_does 229 = .ok (.iload 8, 2) := by decide +kernel
theorem dL_does_231 : decode cL_does 231 = .ok (.if_icmp .ne 7, 3) := by decide +kernel
theorem dL_does_234 : decode cL_does 234 = .ok (.iconst 1, 1) := by decide +kernel
theorem dL_does_235 : decode cL_does 235 = .ok (.goto 4, 3) := by decide +kernel
theorem dL_does_238 : decode cL_does 238 = .ok (.iconst 0, 1) := by decide +kernel
theorem dL_does_239 : decode cL_does 239 = .ok (.ireturn, 1) := by decide +kernel
theorem dL_does_240 : decode cL_does 240 = .ok (.aload_n 0, 1) := by decide +kernel
theorem dL_does_241 : decode cL_does 241 = .ok (.iload 4, 2) := by decide +kernel
theorem dL_does_243 : decode cL_does 243 = .ok (.iconst 0, 1) := by decide +kernel
theorem dL_does_244 : decode cL_does 244 = .ok (.invokevirtual 8, 3) := by decide +kernel
theorem dL_does_247 : decode cL_does 247 = .ok (.istore 9, 2) := by decide +kernel
theorem dL_does_249 : decode cL_does 249 = .ok (.aload_n 0, 1) := by decide +kernel
theorem dL_does_250 : decode cL_does 250 = .ok (.iload 4, 2) := by decide +kernel
theorem dL_does_252 : decode cL_does 252 = .ok (.invokevirtual 83, 3) := by decide +kernel
theorem dL_does_255 : decode cL_does 255 = .ok (.iload 9, 2) := by decide +kernel
theorem dL_does_257 : decode cL_does 257 = .ok (.ifCond .eq 9, 3) := by decide +kernel
theorem dL_does_260 : decode cL_does 260 = .ok (.iload 9, 2) := by decide +kernel
theorem dL_does_262 : decode cL_does 262 = .ok (.iconst 3, 1) := by decide +kernel
theorem dL_does_263 : decode cL_does 263 = .ok (.if_icmp .ne 8, 3) := by decide +kernel
theorem dL_does_266 : decode cL_does 266 = .ok (.bipush (-5), 2) := by decide +kernel
theorem dL_does_268 : decode cL_does 268 = .ok (.goto 5, 3) := by decide +kernel
theorem dL_does_271 : decode cL_does 271 = .ok (.iload 9, 2) := by decide +kernel
theorem dL_does_273 : decode cL_does 273 = .ok (.if_icmp .ne 38, 3) := by decide +kernel
theorem dL_does_276 : decode cL_does 276 = .ok (.iload 9, 2) := by decide +kernel
theorem dL_does_278 : decode cL_does 278 = .ok (.iconst 3, 1) := by decide +kernel
theorem dL_does_279 : decode cL_does 279 = .ok (.if_icmp .eq 28, 3) := by decide +kernel
theorem dL_does_282 : decode cL_does 282 = .ok (.aload_n 0, 1) := by decide +kernel
theorem dL_does_283 : decode cL_does 283 = .ok (.iload 4, 2) := by decide +kernel
theorem dL_does_285 : decode cL_does 285 = .ok (.iconst 0, 1) := by decide +kernel
theorem dL_does_286 : decode cL_does 286 = .ok (.invokevirtual 8, 3) := by decide +kernel
theorem dL_does_289 : decode cL_does 289 = .ok (.ifCond .ne 22, 3) := by decide +kernel
theorem dL_does_292 : decode cL_does 292 = .ok (.iload 9, 2) := by decide +kernel
theorem dL_does_294 : decode cL_does 294 = .ok (.ifCond .eq 13, 3) := by decide +kernel
theorem dL_does_297 : decode cL_does 297 = .ok (.aload_n 0, 1) := by decide +kernel
theorem dL_does_298 : decode cL_does 298 = .ok (.iload 4, 2) := by decide +kernel
theorem dL_does_300 : decode cL_does 300 = .ok (.iconst 3, 1) := by decide +kernel
theorem dL_does_301 : decode cL_does 301 = .ok (.invokevirtual 8, 3) := by decide +kernel
theorem dL_does_304 : decode cL_does 304 = .ok (.ifCond .ne 7, 3) := by decide +kernel
theorem dL_does_307 : decode cL_does 307 = .ok (.iconst 1, 1) := by decide +kernel
theorem dL_does_308 : decode cL_does 308 = .ok (.goto 4, 3) := by decide +kernel
theorem dL_does_311 : decode cL_does 311 = .ok (.iconst 0, 1) := by decide +kernel
theorem dL_does_312 : decode cL_does 312 = .ok (.ireturn, 1) := by decide +kernel
theorem dL_does_313 : decode cL_does 313 = .ok (.iload_n 2, 1) := by decide +kernel
theorem dL_does_314 : decode cL_does 314 = .ok (.iconst 5, 1) := by decide +kernel
theorem dL_does_315 : decode cL_does 315 = .ok (.ishr, 1) := by decide +kernel
theorem dL_does_316 : decode cL_does 316 = .ok (.iconst 4, 1) := by decide +kernel
theorem dL_does_317 : decode cL_does 317 = .ok (.invokestatic 65, 3) := by decide +kernel
theorem dL_does_320 : decode cL_does 320 = .ok (.istore 10, 2) := by decide +kernel
theorem dL_does_322 : decode cL_does 322 = .ok (.iload 10, 2) := by decide +kernel
theorem dL_does_324 : decode cL_does 324 = .ok (.ifCond .ne 13, 3) := by decide +kernel
theorem dL_does_327 : decode cL_does 327 = .ok (.iconst 1, 1) := by decide +kernel
theorem dL_does_328 : decode cL_does 328 = .ok (.iload_n 3, 1) := by decide +kernel
theorem dL_does_329 : decode cL_does 329 = .ok (.iconst 3, 1) := by decide +kernel
theorem dL_does_330 : decode cL_does 330 = .ok (.invokestatic 65, 3) := by decide +kernel
theorem dL_does_333 : decode cL_does 333 = .ok (.iadd, 1) := by decide +kernel
theorem dL_does_334 : decode cL_does 334 = .ok (.goto 42, 3) := by decide +kernel
theorem dL_does_337 : decode cL_does 337 = .ok (.iload 10, 2) := by decide +kernel
theorem dL_does_339 : decode cL_does 339 = .ok (.iconst 1, 1) := by decide +kernel
theorem dL_does_340 : decode cL_does 340 = .ok (.if_icmp .ne 12, 3) := by decide +kernel
theorem dL_does_343 : decode cL_does 343 = .ok (.iload_n 3, 1) := by decide +kernel
theorem dL_does_344 : decode cL_does 344 = .ok (.bipush 10, 2) := by decide +kernel
theorem dL_does_346 : decode cL_does 346 = .ok (.invokestatic 65, 3) := by decide +kernel
theorem dL_does_349 : decode cL_does 349 = .ok (.goto 27, 3) := by decide +kernel
theorem dL_does_352 : decode cL_does 352 = .ok (.iload 10, 2) := by decide +kernel
theorem dL_does_354 : decode cL_does 354 = .ok (.iconst 2, 1) := by decide +kernel
theorem dL_does_355 : decode cL_does 355 = .ok (.if_icmp .ne 14, 3) := by decide +kernel
theorem dL_does_358 : decode cL_does 358 = .ok (.iconst 1, 1) := by decide +kernel
theorem dL_does_359 : decode cL_does 359 = .ok (.iload_n 3, 1) := by decide +kernel
theorem dL_does_360 : decode cL_does 360 = .ok (.bipush 9, 2) := by decide +kernel
theorem dL_does_362 : decode cL_does 362 = .ok (.invokestatic 65, 3) := by decide +kernel
theorem dL_does_365 : decode cL_does 365 = .ok (.iadd, 1) := by decide +kernel
theorem dL_does_366 : decode cL_does 366 = .ok (.goto 10, 3) := by decide +kernel
theorem dL_does_369 : decode cL_does 369 = .ok (.iconst 1, 1) := by decide +kernel
theorem dL_does_370 : decode cL_does 370 = .ok (.iload_n 3, 1) := by decide +kernel
theorem dL_does_371 : decode cL_does 371 = .ok (.iconst 5, 1) := by decide +kernel
theorem dL_does_372 : decode cL_does 372 = .ok (.invokestatic 65, 3) := by decide +kernel
theorem dL_does_375 : decode cL_does 375 = .ok (.iadd, 1) := by decide +kernel
theorem dL_does_376 : decode cL_does 376 = .ok (.istore 11, 2) := by decide +kernel
theorem dL_does_378 : decode cL_does 378 = .ok (.aload_n 0, 1) := by decide +kernel
theorem dL_does_379 : decode cL_does 379 = .ok (.bipush 11, 2) := by decide +kernel
theorem dL_does_381 : decode cL_does 381 = .ok (.iload 10, 2) := by decide +kernel
theorem dL_does_383 : decode cL_does 383 = .ok (.iadd, 1) := by decide +kernel
theorem dL_does_384 : decode cL_does 384 = .ok (.invokevirtual 14, 3) := by decide +kernel
theorem dL_does_387 : decode cL_does 387 = .ok (.istore 12, 2) := by decide +kernel
theorem dL_does_389 : decode cL_does 389 = .ok (.aload_n 0, 1) := by decide +kernel
theorem dL_does_390 : decode cL_does 390 = .ok (.iload 10, 2) := by decide +kernel
theorem dL_does_392 : decode cL_does 392 = .ok (.iload 11, 2) := by decide +kernel
theorem dL_does_394 : decode cL_does 394 = .ok (.invokevirtual 86, 3) := by decide +kernel
theorem dL_does_397 : decode cL_does 397 = .ok (.iload 12, 2) := by decide +kernel
theorem dL_does_399 : decode cL_does 399 = .ok (.if_icmp .ne 21, 3) := by decide +kernel
theorem dL_does_402 : decode cL_does 402 = .ok (.aload_n 0, 1) := by decide +kernel
theorem dL_does_403 : decode cL_does 403 = .ok (.bipush 11, 2) := by decide +kernel
theorem dL_does_405 : decode cL_does 405 = .ok (.iload 10, 2) := by decide +kernel
theorem dL_does_407 : decode cL_does 407 = .ok (.iadd, 1) := by decide +kernel
theorem dL_does_408 : decode cL_does 408 = .ok (.invokevirtual 14, 3) := by decide +kernel
theorem dL_does_411 : decode cL_does 411 = .ok (.iload 11, 2) := by decide +kernel
theorem dL_does_413 : decode cL_does 413 = .ok (.if_icmp .ne 7, 3) := by decide +kernel
theorem dL_does_416 : decode cL_does 416 = .ok (.iconst 1, 1) := by decide +kernel
theorem dL_does_417 : decode cL_does 417 = .ok (.goto 4, 3) := by decide +kernel
theorem dL_does_420 : decode cL_does 420 = .ok (.iconst 0, 1) := by decide +kernel
theorem dL_does_421 : decode cL_does 421 = .ok (.ireturn, 1) := by decide +kernel
theorem dL_does_422 : decode cL_does 422 = .ok (.aload_n 0, 1) := by decide +kernel
theorem dL_does_423 : decode cL_does 423 = .ok (.iload 4, 2) := by decide +kernel
theorem dL_does_425 : decode cL_does 425 = .ok (.invokestatic 89, 3) := by decide +kernel
theorem dL_does_428 : decode cL_does 428 = .ok (.ireturn, 1) := by decide +kernel
theorem dL_does_429 : decode cL_does 429 = .ok (.iload_n 3, 1) := by decide +kernel
theorem dL_does_430 : decode cL_does 430 = .ok (.iconst 2, 1) := by decide +kernel
theorem dL_does_431 : decode cL_does 431 = .ok (.ishr, 1) := by decide +kernel
theorem dL_does_432 : decode cL_does 432 = .ok (.iconst 3, 1) := by decide +kernel
theorem dL_does_433 : decode cL_does 433 = .ok (.invokestatic 65, 3) := by decide +kernel
theorem dL_does_436 : decode cL_does 436 = .ok (.istore 13, 2) := by decide +kernel
theorem dL_does_438 : decode cL_does 438 = .ok (.aload_n 0, 1) := by decide +kernel
theorem dL_does_439 : decode cL_does 439 = .ok (.iload 5, 2) := by decide +kernel
theorem dL_does_441 : decode cL_does 441 = .ok (.iload 4, 2) := by decide +kernel
theorem dL_does_443 : decode cL_does 443 = .ok (.invokestatic 36, 3) := by decide +kernel
theorem dL_does_446 : decode cL_does 446 = .ok (.istore 14, 2) := by decide +kernel
theorem dL_does_448 : decode cL_does 448 = .ok (.iload 13, 2) := by decide +kernel
theorem dL_does_450 : decode cL_does 450 = .ok (.iconst 2, 1) := by decide +kernel
theorem dL_does_451 : decode cL_does 451 = .ok (.if_icmp .ne 29, 3) := by decide +kernel
theorem dL_does_454 : decode cL_does 454 = .ok (.iload 14, 2) := by decide +kernel
theorem dL_does_456 : decode cL_does 456 = .ok (.iconst 2, 1) := by decide +kernel
theorem dL_does_457 : decode cL_does 457 = .ok (.if_icmp .eq 23, 3) := by decide +kernel
theorem dL_does_460 : decode cL_does 460 = .ok (.aload_n 0, 1) := by decide +kernel
theorem dL_does_461 : decode cL_does 461 = .ok (.iload 5, 2) := by decide +kernel
theorem dL_does_463 : decode cL_does 463 = .ok (.iconst 2, 1) := by decide +kernel
theorem dL_does_464 : decode cL_does 464 = .ok (.invokevirtual 40, 3) := by decide +kernel
theorem dL_does_467 : decode cL_does 467 = .ok (.aload_n 0, 1) := by decide +kernel
theorem dL_does_468 : decode cL_does 468 = .ok (.bipush 12, 2) := by decide +kernel
theorem dL_does_470 : decode cL_does 470 = .ok (.invokevirtual 14, 3) := by decide +kernel
theorem dL_does_473 : decode cL_does 473 = .ok (.if_icmp .lt 7, 3) := by decide +kernel
theorem dL_does_476 : decode cL_does 476 = .ok (.iconst 1, 1) := by decide +kernel
theorem dL_does_477 : decode cL_does 477 = .ok (.goto 4, 3) := by decide +kernel
theorem dL_does_480 : decode cL_does 480 = .ok (.iconst 0, 1) := by decide +kernel
theorem dL_does_481 : decode cL_does 481 = .ok (.istore 15, 2) := by decide +kernel
theorem dL_does_483 : decode cL_does 483 = .ok (.aload_n 0, 1) := by decide +kernel
theorem dL_does_484 : decode cL_does 484 = .ok (.iload 5, 2) := by decide +kernel
theorem dL_does_486 : decode cL_does 486 = .ok (.iload 4, 2) := by decide +kernel
theorem dL_does_488 : decode cL_does 488 = .ok (.iload 13, 2) := by decide +kernel
theorem dL_does_490 : decode cL_does 490 = .ok (.invokevirtual 57, 3) := by decide +kernel
theorem dL_does_493 : decode cL_does 493 = .ok (.aload_n 0, 1) := by decide +kernel
theorem dL_does_494 : decode cL_does 494 = .ok (.iload 4, 2) := by decide +kernel
theorem dL_does_496 : decode cL_does 496 = .ok (.iconst 0, 1) := by decide +kernel
theorem dL_does_497 : decode cL_does 497 = .ok (.invokevirtual 8, 3) := by decide +kernel
theorem dL_does_500 : decode cL_does 500 = .ok (.ifCond .eq 8, 3) := by decide +kernel
theorem dL_does_503 : decode cL_does 503 = .ok (.bipush (-5), 2) := by decide +kernel
theorem dL_does_505 : decode cL_does 505 = .ok (.goto 15, 3) := by decide +kernel
theorem dL_does_508 : decode cL_does 508 = .ok (.iload 15, 2) := by decide +kernel
theorem dL_does_510 : decode cL_does 510 = .ok (.ifCond .eq 8, 3) := by decide +kernel
theorem dL_does_513 : decode cL_does 513 = .ok (.bipush (-4), 2) := by decide +kernel
theorem dL_does_515 : decode cL_does 515 = .ok (.goto 5, 3) := by decide +kernel
theorem dL_does_518 : decode cL_does 518 = .ok (.iload 14, 2) := by decide +kernel
theorem dL_does_520 : decode cL_does 520 = .ok (.if_icmp .ne 40, 3) := by decide +kernel
theorem dL_does_523 : decode cL_does 523 = .ok (.aload_n 0, 1) := by decide +kernel
theorem dL_does_524 : decode cL_does 524 = .ok (.iload 4, 2) := by decide +kernel
theorem dL_does_526 : decode cL_does 526 = .ok (.iconst 0, 1) := by decide +kernel
theorem dL_does_527 : decode cL_does 527 = .ok (.invokevirtual 8, 3) := by decide +kernel
theorem dL_does_530 : decode cL_does 530 = .ok (.ifCond .ne 26, 3) := by decide +kernel
theorem dL_does_533 : decode cL_does 533 = .ok (.aload_n 0, 1) := by decide +kernel
theorem dL_does_534 : decode cL_does 534 = .ok (.iload 5, 2) := by decide +kernel
theorem dL_does_536 : decode cL_does 536 = .ok (.iload 4, 2) := by decide +kernel
theorem dL_does_538 : decode cL_does 538 = .ok (.invokestatic 36, 3) := by decide +kernel
theorem dL_does_541 : decode cL_does 541 = .ok (.iload 15, 2) := by decide +kernel
theorem dL_does_543 : decode cL_does 543 = .ok (.ifCond .eq 8, 3) := by decide +kernel
theorem dL_does_546 : decode cL_does 546 = .ok (.iload 14, 2) := by decide +kernel
theorem dL_does_548 : decode cL_does 548 = .ok (.goto 5, 3) := by decide +kernel
theorem dL_does_551 : decode cL_does 551 = .ok (.iload 13, 2) := by decide +kernel
theorem dL_does_553 : decode cL_does 553 = .ok (.if_icmp .ne 7, 3) := by decide +kernel
theorem dL_does_556 : decode cL_does 556 = .ok (.iconst 1, 1) := by decide +kernel
theorem dL_does_557 : decode cL_does 557 = .ok (.goto 4, 3) := by decide +kernel
theorem dL_does_560 : decode cL_does 560 = .ok (.iconst 0, 1) := by decide +kernel
theorem dL_does_561 : decode cL_does 561 = .ok (.ireturn, 1) := by decide +kernel
theorem dL_law_0 : decode cL_law 0 = .ok (.new 9, 3) := by decide +kernel
theorem dL_law_3 : decode cL_law 3 = .ok (.dup, 1) := by decide +kernel
theorem dL_law_4 : decode cL_law 4 = .ok (.invokespecial 93, 3) := by decide +kernel
theorem dL_law_7 : decode cL_law 7 = .ok (.astore_n 1, 1) := by decide +kernel
theorem dL_law_8 : decode cL_law 8 = .ok (.bipush 36, 2) := by decide +kernel
theorem dL_law_10 : decode cL_law 10 = .ok (.newarray .int, 2) := by decide +kernel
theorem dL_law_12 : decode cL_law 12 = .ok (.astore_n 2, 1) := by decide +kernel
theorem dL_law_13 : decode cL_law 13 = .ok (.aload_n 1, 1) := by decide +kernel
theorem dL_law_14 : decode cL_law 14 = .ok (.invokestatic 94, 3) := by decide +kernel
theorem dL_law_17 : decode cL_law 17 = .ok (.ifCond .eq 41, 3) := by decide +kernel
theorem dL_law_20 : decode cL_law 20 = .ok (.aload_n 1, 1) := by decide +kernel
theorem dL_law_21 : decode cL_law 21 = .ok (.invokestatic 98, 3) := by decide +kernel
theorem dL_law_24 : decode cL_law 24 = .ok (.ifCond .eq 34, 3) := by decide +kernel
theorem dL_law_27 : decode cL_law 27 = .ok (.aload_n 1, 1) := by decide +kernel
theorem dL_law_28 : decode cL_law 28 = .ok (.iconst 5, 1) := by decide +kernel
theorem dL_law_29 : decode cL_law 29 = .ok (.invokevirtual 14, 3) := by decide +kernel
theorem dL_law_32 : decode cL_law 32 = .ok (.sipush 300, 3) := by decide +kernel
theorem dL_law_35 : decode cL_law 35 = .ok (.if_icmp .ne 23, 3) := by decide +kernel
theorem dL_law_38 : decode cL_law 38 = .ok (.aload_n 1, 1) := by decide +kernel
theorem dL_law_39 : decode cL_law 39 = .ok (.iconst 0, 1) := by decide +kernel
theorem dL_law_40 : decode cL_law 40 = .ok (.iconst 5, 1) := by decide +kernel
theorem dL_law_41 : decode cL_law 41 = .ok (.invokevirtual 8, 3) := by decide +kernel
theorem dL_law_44 : decode cL_law 44 = .ok (.bipush (-6), 2) := by decide +kernel
theorem dL_law_46 : decode cL_law 46 = .ok (.if_icmp .ne 12, 3) := by decide +kernel
theorem dL_law_49 : decode cL_law 49 = .ok (.aload_n 1, 1) := by decide +kernel
theorem dL_law_50 : decode cL_law 50 = .ok (.invokevirtual 59, 3) := by decide +kernel
theorem dL_law_53 : decode cL_law 53 = .ok (.bipush (-5), 2) := by decide +kernel
theorem dL_law_55 : decode cL_law 55 = .ok (.if_icmp .eq 5, 3) := by decide +kernel
theorem dL_law_58 : decode cL_law 58 = .ok (.iconst 0, 1) := by decide +kernel
theorem dL_law_59 : decode cL_law 59 = .ok (.ireturn, 1) := by decide +kernel
theorem dL_law_60 : decode cL_law 60 = .ok (.iconst 0, 1) := by decide +kernel
theorem dL_law_61 : decode cL_law 61 = .ok (.istore_n 3, 1) := by decide +kernel
theorem dL_law_62 : decode cL_law 62 = .ok (.iload_n 3, 1) := by decide +kernel
theorem dL_law_63 : decode cL_law 63 = .ok (.sipush 150, 3) := by decide +kernel
theorem dL_law_66 : decode cL_law 66 = .ok (.if_icmp .ge 79, 3) := by decide +kernel
theorem dL_law_69 : decode cL_law 69 = .ok (.aload_n 1, 1) := by decide +kernel
theorem dL_law_70 : decode cL_law 70 = .ok (.aload_n 2, 1) := by decide +kernel
theorem dL_law_71 : decode cL_law 71 = .ok (.aload_n 0, 1) := by decide +kernel
theorem dL_law_72 : decode cL_law 72 = .ok (.iconst 2, 1) := by decide +kernel
theorem dL_law_73 : decode cL_law 73 = .ok (.iload_n 3, 1) := by decide +kernel
theorem dL_law_74 : decode cL_law 74 = .ok (.imul, 1) := by decide +kernel
theorem dL_law_75 : decode cL_law 75 = .ok (.invokestatic 101, 3) := by decide +kernel
theorem dL_law_78 : decode cL_law 78 = .ok (.aload_n 0, 1) := by decide +kernel
theorem dL_law_79 : decode cL_law 79 = .ok (.iconst 2, 1) := by decide +kernel
theorem dL_law_80 : decode cL_law 80 = .ok (.iload_n 3, 1) := by decide +kernel
theorem dL_law_81 : decode cL_law 81 = .ok (.imul, 1) := by decide +kernel
theorem dL_law_82 : decode cL_law 82 = .ok (.iconst 1, 1) := by decide +kernel
theorem dL_law_83 : decode cL_law 83 = .ok (.iadd, 1) := by decide +kernel
theorem dL_law_84 : decode cL_law 84 = .ok (.invokestatic 101, 3) := by decide +kernel
theorem dL_law_87 : decode cL_law 87 = .ok (.invokestatic 105, 3) := by decide +kernel
theorem dL_law_90 : decode cL_law 90 = .ok (.ifCond .eq 47, 3) := by decide +kernel
theorem dL_law_93 : decode cL_law 93 = .ok (.iload_n 3, 1) := by decide +kernel
theorem dL_law_94 : decode cL_law 94 = .ok (.iconst 2, 1) := by decide +kernel
theorem dL_law_95 : decode cL_law 95 = .ok (.irem, 1) := by decide +kernel
theorem dL_law_96 : decode cL_law 96 = .ok (.iconst 1, 1) := by decide +kernel
theorem dL_law_97 : decode cL_law 97 = .ok (.if_icmp .ne 10, 3) := by decide +kernel
theorem dL_law_100 : decode cL_law 100 = .ok (.aload_n 1, 1) := by decide +kernel
theorem dL_law_101 : decode cL_law 101 = .ok (.invokestatic 94, 3) := by decide +kernel
theorem dL_law_104 : decode cL_law 104 = .ok (.ifCond .eq 33, 3) := by decide +kernel
theorem dL_law_107 : decode cL_law 107 = .ok (.iload_n 3, 1) := by decide +kernel
theorem dL_law_108 : decode cL_law 108 = .ok (.iconst 5, 1) := by decide +kernel
theorem dL_law_109 : decode cL_law 109 = .ok (.irem, 1) := by decide +kernel
theorem dL_law_110 : decode cL_law 110 = .ok (.iconst 3, 1) := by decide +kernel
theorem dL_law_111 : decode cL_law 111 = .ok (.if_icmp .ne 10, 3) := by decide +kernel
theorem dL_law_114 : decode cL_law 114 = .ok (.aload_n 1, 1) := by decide +kernel
theorem dL_law_115 : decode cL_law 115 = .ok (.invokestatic 109, 3) := by decide +kernel
theorem dL_law_118 : decode cL_law 118 = .ok (.ifCond .eq 19, 3) := by decide +kernel
theorem dL_law_121 : decode cL_law 121 = .ok (.iload_n 3, 1) := by decide +kernel
theorem dL_law_122 : decode cL_law 122 = .ok (.bipush 15, 2) := by decide +kernel
theorem dL_law_124 : decode cL_law 124 = .ok (.irem, 1) := by decide +kernel
theorem dL_law_125 : decode cL_law 125 = .ok (.bipush 11, 2) := by decide +kernel
theorem dL_law_127 : decode cL_law 127 = .ok (.if_icmp .ne 12, 3) := by decide +kernel
theorem dL_law_130 : decode cL_law 130 = .ok (.aload_n 1, 1) := by decide +kernel
theorem dL_law_131 : decode cL_law 131 = .ok (.invokestatic 98, 3) := by decide +kernel
theorem dL_law_134 : decode cL_law 134 = .ok (.ifCond .ne 5, 3) := by decide +kernel
theorem dL_law_137 : decode cL_law 137 = .ok (.iconst 0, 1) := by decide +kernel
theorem dL_law_138 : decode cL_law 138 = .ok (.ireturn, 1) := by decide +kernel
theorem dL_law_139 : decode cL_law 139 = .ok (.iinc 3 1, 3) := by decide +kernel
theorem dL_law_142 : decode cL_law 142 = .ok (.goto (-80), 3) := by decide +kernel
theorem dL_law_145 : decode cL_law 145 = .ok (.aload_n 1, 1) := by decide +kernel
theorem dL_law_146 : decode cL_law 146 = .ok (.iconst 3, 1) := by decide +kernel
theorem dL_law_147 : decode cL_law 147 = .ok (.iconst 0, 1) := by decide +kernel
theorem dL_law_148 : decode cL_law 148 = .ok (.iconst 1, 1) := by decide +kernel
theorem dL_law_149 : decode cL_law 149 = .ok (.invokevirtual 57, 3) := by decide +kernel
theorem dL_law_152 : decode cL_law 152 = .ok (.iconst (-1), 1) := by decide +kernel
theorem dL_law_153 : decode cL_law 153 = .ok (.if_icmp .ne 96, 3) := by decide +kernel
theorem dL_law_156 : decode cL_law 156 = .ok (.aload_n 1, 1) := by decide +kernel
theorem dL_law_157 : decode cL_law 157 = .ok (.iconst 0, 1) := by decide +kernel
theorem dL_law_158 : decode cL_law 158 = .ok (.bipush 30, 2) := by decide +kernel
theorem dL_law_160 : decode cL_law 160 = .ok (.iconst 1, 1) := by decide +kernel
theorem dL_law_161 : decode cL_law 161 = .ok (.invokevirtual 57, 3) := by decide +kernel
theorem dL_law_164 : decode cL_law 164 = .ok (.iconst (-1), 1) := by decide +kernel
theorem dL_law_165 : decode cL_law 165 = .ok (.if_icmp .ne 84, 3) := by decide +kernel
theorem dL_law_168 : decode cL_law 168 = .ok (.aload_n 1, 1) := by decide +kernel
theorem dL_law_169 : decode cL_law 169 = .ok (.iconst 0, 1) := by decide +kernel
theorem dL_law_170 : decode cL_law 170 = .ok (.iconst 0, 1) := by decide +kernel
theorem dL_law_171 : decode cL_law 171 = .ok (.iconst 3, 1) := by decide +kernel
theorem dL_law_172 : decode cL_law 172 = .ok (.invokevirtual 57, 3) := by decide +kernel
theorem dL_law_175 : decode cL_law 175 = .ok (.bipush (-2), 2) := by decide +kernel
theorem dL_law_177 : decode cL_law 177 = .ok (.if_icmp .ne 72, 3) := by decide +kernel
theorem dL_law_180 : decode cL_law 180 = .ok (.aload_n 1, 1) := by decide +kernel
theorem dL_law_181 : decode cL_law 181 = .ok (.iconst 0, 1) := by decide +kernel
theorem dL_law_182 : decode cL_law 182 = .ok (.iconst 4, 1) := by decide +kernel
theorem dL_law_183 : decode cL_law 183 = .ok (.invokevirtual 62, 3) := by decide +kernel
theorem dL_law_186 : decode cL_law 186 = .ok (.bipush (-2), 2) := by decide +kernel
theorem dL_law_188 : decode cL_law 188 = .ok (.if_icmp .ne 61, 3) := by decide +kernel
theorem dL_law_191 : decode cL_law 191 = .ok (.aload_n 1, 1) := by decide +kernel
theorem dL_law_192 : decode cL_law 192 = .ok (.bipush 100, 2) := by decide +kernel
theorem dL_law_194 : decode cL_law 194 = .ok (.invokevirtual 80, 3) := by decide +kernel
theorem dL_law_197 : decode cL_law 197 = .ok (.bipush (-2), 2) := by decide +kernel
theorem dL_law_199 : decode cL_law 199 = .ok (.if_icmp .ne 50, 3) := by decide +kernel
theorem dL_law_202 : decode cL_law 202 = .ok (.aload_n 1, 1) := by decide +kernel
theorem dL_law_203 : decode cL_law 203 = .ok (.iconst 4, 1) := by decide +kernel
theorem dL_law_204 : decode cL_law 204 = .ok (.iconst 1, 1) := by decide +kernel
theorem dL_law_205 : decode cL_law 205 = .ok (.invokevirtual 86, 3) := by decide +kernel
theorem dL_law_208 : decode cL_law 208 = .ok (.bipush (-2), 2) := by decide +kernel
theorem dL_law_210 : decode cL_law 210 = .ok (.if_icmp .ne 39, 3) := by decide +kernel
theorem dL_law_213 : decode cL_law 213 = .ok (.aload_n 1, 1) := by decide +kernel
theorem dL_law_214 : decode cL_law 214 = .ok (.iconst 0, 1) := by decide +kernel
theorem dL_law_215 : decode cL_law 215 = .ok (.iconst 4, 1) := by decide +kernel
theorem dL_law_216 : decode cL_law 216 = .ok (.invokevirtual 86, 3) := by decide +kernel
theorem dL_law_219 : decode cL_law 219 = .ok (.bipush (-2), 2) := by decide +kernel
theorem dL_law_221 : decode cL_law 221 = .ok (.if_icmp .ne 28, 3) := by decide +kernel
theorem dL_law_224 : decode cL_law 224 = .ok (.aload_n 1, 1) := by decide +kernel
theorem dL_law_225 : decode cL_law 225 = .ok (.iconst 3, 1) := by decide +kernel
theorem dL_law_226 : decode cL_law 226 = .ok (.invokevirtual 29, 3) := by decide +kernel
theorem dL_law_229 : decode cL_law 229 = .ok (.bipush (-2), 2) := by decide +kernel
theorem dL_law_231 : decode cL_law 231 = .ok (.if_icmp .ne 18, 3) := by decide +kernel
theorem dL_law_234 : decode cL_law 234 = .ok (.aload_n 1, 1) := by decide +kernel
theorem dL_law_235 : decode cL_law 235 = .ok (.bipush 17, 2) := by decide +kernel
theorem dL_law_237 : decode cL_law 237 = .ok (.invokevirtual 14, 3) := by decide +kernel
theorem dL_law_240 : decode cL_law 240 = .ok (.bipush (-2), 2) := by decide +kernel
theorem dL_law_242 : decode cL_law 242 = .ok (.if_icmp .ne 7, 3) := by decide +kernel
theorem dL_law_245 : decode cL_law 245 = .ok (.iconst 1, 1) := by decide +kernel
theorem dL_law_246 : decode cL_law 246 = .ok (.goto 4, 3) := by decide +kernel
theorem dL_law_249 : decode cL_law 249 = .ok (.iconst 0, 1) := by decide +kernel
theorem dL_law_250 : decode cL_law 250 = .ok (.ireturn, 1) := by decide +kernel
