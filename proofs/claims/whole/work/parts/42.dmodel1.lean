theorem dX9_went_115 : decode cX9_went 115 = .ok (.goto 7, 3) := by decide +kernel
theorem dX9_went_118 : decode cX9_went 118 = .ok (.aload_n 1, 1) := by decide +kernel
theorem dX9_went_119 : decode cX9_went 119 = .ok (.getfield 73, 3) := by decide +kernel
theorem dX9_went_122 : decode cX9_went 122 = .ok (.putfield 73, 3) := by decide +kernel
theorem dX9_went_125 : decode cX9_went 125 = .ok (.iload 5, 2) := by decide +kernel
theorem dX9_went_127 : decode cX9_went 127 = .ok (.ifCond .eq 7, 3) := by decide +kernel
theorem dX9_went_130 : decode cX9_went 130 = .ok (.iconst 0, 1) := by decide +kernel
theorem dX9_went_131 : decode cX9_went 131 = .ok (.goto 5, 3) := by decide +kernel
theorem dX9_went_134 : decode cX9_went 134 = .ok (.bipush 12, 2) := by decide +kernel
theorem dX9_went_136 : decode cX9_went 136 = .ok (.ireturn, 1) := by decide +kernel
theorem dX9_went_137 : decode cX9_went 137 = .ok (.aload_n 1, 1) := by decide +kernel
theorem dX9_went_138 : decode cX9_went 138 = .ok (.iload 4, 2) := by decide +kernel
theorem dX9_went_140 : decode cX9_went 140 = .ok (.invokevirtual 94, 3) := by decide +kernel
theorem dX9_went_143 : decode cX9_went 143 = .ok (.ifCond .eq 8, 3) := by decide +kernel
theorem dX9_went_146 : decode cX9_went 146 = .ok (.iload 5, 2) := by decide +kernel
theorem dX9_went_148 : decode cX9_went 148 = .ok (.ifCond .ne 19, 3) := by decide +kernel
theorem dX9_went_151 : decode cX9_went 151 = .ok (.aload_n 1, 1) := by decide +kernel
theorem dX9_went_152 : decode cX9_went 152 = .ok (.iload 4, 2) := by decide +kernel
theorem dX9_went_154 : decode cX9_went 154 = .ok (.invokevirtual 94, 3) := by decide +kernel
theorem dX9_went_157 : decode cX9_went 157 = .ok (.ifCond .ne 7, 3) := by decide +kernel
theorem dX9_went_160 : decode cX9_went 160 = .ok (.iconst 4, 1) := by decide +kernel
theorem dX9_went_161 : decode cX9_went 161 = .ok (.goto 5, 3) := by decide +kernel
theorem dX9_went_164 : decode cX9_went 164 = .ok (.bipush 12, 2) := by decide +kernel
theorem dX9_went_166 : decode cX9_went 166 = .ok (.ireturn, 1) := by decide +kernel
theorem dX9_went_167 : decode cX9_went 167 = .ok (.aload_n 1, 1) := by decide +kernel
theorem dX9_went_168 : decode cX9_went 168 = .ok (.aload_n 1, 1) := by decide +kernel
theorem dX9_went_169 : decode cX9_went 169 = .ok (.getfield 97, 3) := by decide +kernel
theorem dX9_went_172 : decode cX9_went 172 = .ok (.iload 4, 2) := by decide +kernel
theorem dX9_went_174 : decode cX9_went 174 = .ok (.laload, 1) := by decide +kernel
theorem dX9_went_175 : decode cX9_went 175 = .ok (.lconst 0, 1) := by decide +kernel
theorem dX9_went_176 : decode cX9_went 176 = .ok (.lcmp, 1) := by decide +kernel
theorem dX9_went_177 : decode cX9_went 177 = .ok (.ifCond .ne 7, 3) := by decide +kernel
theorem dX9_went_180 : decode cX9_went 180 = .ok (.iload_n 3, 1) := by decide +kernel
theorem dX9_went_181 : decode cX9_went 181 = .ok (.goto 7, 3) := by decide +kernel
theorem dX9_went_184 : decode cX9_went 184 = .ok (.aload_n 1, 1) := by decide +kernel
theorem dX9_went_185 : decode cX9_went 185 = .ok (.getfield 73, 3) := by decide +kernel
theorem dX9_went_188 : decode cX9_went 188 = .ok (.putfield 73, 3) := by decide +kernel
theorem dX9_went_191 : decode cX9_went 191 = .ok (.iconst 0, 1) := by decide +kernel
theorem dX9_went_192 : decode cX9_went 192 = .ok (.ireturn, 1) := by decide +kernel
theorem dX9_went_193 : decode cX9_went 193 = .ok (.iload 5, 2) := by decide +kernel
theorem dX9_went_195 : decode cX9_went 195 = .ok (.ifCond .ne 6, 3) := by decide +kernel
theorem dX9_went_198 : decode cX9_went 198 = .ok (.bipush 12, 2) := by decide +kernel
theorem dX9_went_200 : decode cX9_went 200 = .ok (.ireturn, 1) := by decide +kernel
theorem dX9_went_201 : decode cX9_went 201 = .ok (.aload_n 1, 1) := by decide +kernel
theorem dX9_went_202 : decode cX9_went 202 = .ok (.getfield 115, 3) := by decide +kernel
theorem dX9_went_205 : decode cX9_went 205 = .ok (.iconst 4, 1) := by decide +kernel
theorem dX9_went_206 : decode cX9_went 206 = .ok (.if_icmp .eq 12, 3) := by decide +kernel
theorem dX9_went_209 : decode cX9_went 209 = .ok (.aload_n 1, 1) := by decide +kernel
theorem dX9_went_210 : decode cX9_went 210 = .ok (.getfield 80, 3) := by decide +kernel
theorem dX9_went_213 : decode cX9_went 213 = .ok (.bipush 12, 2) := by decide +kernel
theorem dX9_went_215 : decode cX9_went 215 = .ok (.if_icmp .ne 6, 3) := by decide +kernel
theorem dX9_went_218 : decode cX9_went 218 = .ok (.bipush 11, 2) := by decide +kernel
theorem dX9_went_220 : decode cX9_went 220 = .ok (.ireturn, 1) := by decide +kernel
theorem dX9_went_221 : decode cX9_went 221 = .ok (.aload_n 1, 1) := by decide +kernel
theorem dX9_went_222 : decode cX9_went 222 = .ok (.getfield 118, 3) := by decide +kernel
theorem dX9_went_225 : decode cX9_went 225 = .ok (.aload_n 1, 1) := by decide +kernel
theorem dX9_went_226 : decode cX9_went 226 = .ok (.getfield 115, 3) := by decide +kernel
theorem dX9_went_229 : decode cX9_went 229 = .ok (.iload_n 3, 1) := by decide +kernel
theorem dX9_went_230 : decode cX9_went 230 = .ok (.iastore, 1) := by decide +kernel
theorem dX9_went_231 : decode cX9_went 231 = .ok (.aload_n 1, 1) := by decide +kernel
theorem dX9_went_232 : decode cX9_went 232 = .ok (.getfield 121, 3) := by decide +kernel
theorem dX9_went_235 : decode cX9_went 235 = .ok (.aload_n 1, 1) := by decide +kernel
theorem dX9_went_236 : decode cX9_went 236 = .ok (.getfield 115, 3) := by decide +kernel
theorem dX9_went_239 : decode cX9_went 239 = .ok (.aload_n 1, 1) := by decide +kernel
theorem dX9_went_240 : decode cX9_went 240 = .ok (.getfield 80, 3) := by decide +kernel
theorem dX9_went_243 : decode cX9_went 243 = .ok (.iastore, 1) := by decide +kernel
theorem dX9_went_244 : decode cX9_went 244 = .ok (.aload_n 1, 1) := by decide +kernel
theorem dX9_went_245 : decode cX9_went 245 = .ok (.dup, 1) := by decide +kernel
theorem dX9_went_246 : decode cX9_went 246 = .ok (.getfield 115, 3) := by decide +kernel
theorem dX9_went_249 : decode cX9_went 249 = .ok (.iconst 1, 1) := by decide +kernel
theorem dX9_went_250 : decode cX9_went 250 = .ok (.iadd, 1) := by decide +kernel
theorem dX9_went_251 : decode cX9_went 251 = .ok (.putfield 115, 3) := by decide +kernel
theorem dX9_went_254 : decode cX9_went 254 = .ok (.iconst 0, 1) := by decide +kernel
theorem dX9_went_255 : decode cX9_went 255 = .ok (.ireturn, 1) := by decide +kernel
theorem dX9_went_256 : decode cX9_went 256 = .ok (.aload_n 1, 1) := by decide +kernel
theorem dX9_went_257 : decode cX9_went 257 = .ok (.getfield 115, 3) := by decide +kernel
theorem dX9_went_260 : decode cX9_went 260 = .ok (.ifCond .ne 6, 3) := by decide +kernel
theorem dX9_went_263 : decode cX9_went 263 = .ok (.bipush 11, 2) := by decide +kernel
theorem dX9_went_265 : decode cX9_went 265 = .ok (.ireturn, 1) := by decide +kernel
theorem dX9_went_266 : decode cX9_went 266 = .ok (.aload_n 1, 1) := by decide +kernel
theorem dX9_went_267 : decode cX9_went 267 = .ok (.dup, 1) := by decide +kernel
theorem dX9_went_268 : decode cX9_went 268 = .ok (.getfield 115, 3) := by decide +kernel
theorem dX9_went_271 : decode cX9_went 271 = .ok (.iconst 1, 1) := by decide +kernel
theorem dX9_went_272 : decode cX9_went 272 = .ok (.isub, 1) := by decide +kernel
theorem dX9_went_273 : decode cX9_went 273 = .ok (.putfield 115, 3) := by decide +kernel
theorem dX9_went_276 : decode cX9_went 276 = .ok (.iconst 0, 1) := by decide +kernel
theorem dX9_went_277 : decode cX9_went 277 = .ok (.ireturn, 1) := by decide +kernel
theorem dX9_went_278 : decode cX9_went 278 = .ok (.iload_n 3, 1) := by decide +kernel
theorem dX9_went_279 : decode cX9_went 279 = .ok (.iconst 0, 1) := by decide +kernel
theorem dX9_went_280 : decode cX9_went 280 = .ok (.bipush 7, 2) := by decide +kernel
theorem dX9_went_282 : decode cX9_went 282 = .ok (.invokestatic 49, 3) := by decide +kernel
theorem dX9_went_285 : decode cX9_went 285 = .ok (.ifCond .eq 10, 3) := by decide +kernel
theorem dX9_went_288 : decode cX9_went 288 = .ok (.bipush 13, 2) := by decide +kernel
theorem dX9_went_290 : decode cX9_went 290 = .ok (.iload_n 3, 1) := by decide +kernel
theorem dX9_went_291 : decode cX9_went 291 = .ok (.iadd, 1) := by decide +kernel
theorem dX9_went_292 : decode cX9_went 292 = .ok (.goto 5, 3) := by decide +kernel
theorem dX9_went_295 : decode cX9_went 295 = .ok (.bipush 12, 2) := by decide +kernel
theorem dX9_went_297 : decode cX9_went 297 = .ok (.ireturn, 1) := by decide +kernel
theorem dX9_went_298 : decode cX9_went 298 = .ok (.aload_n 1, 1) := by decide +kernel
theorem dX9_went_299 : decode cX9_went 299 = .ok (.aload_n 1, 1) := by decide +kernel
theorem dX9_went_300 : decode cX9_went 300 = .ok (.iload 4, 2) := by decide +kernel
theorem dX9_went_302 : decode cX9_went 302 = .ok (.invokevirtual 94, 3) := by decide +kernel
theorem dX9_went_305 : decode cX9_went 305 = .ok (.ifCond .eq 13, 3) := by decide +kernel
theorem dX9_went_308 : decode cX9_went 308 = .ok (.aload_n 1, 1) := by decide +kernel
theorem dX9_went_309 : decode cX9_went 309 = .ok (.getfield 97, 3) := by decide +kernel
theorem dX9_went_312 : decode cX9_went 312 = .ok (.iload 4, 2) := by decide +kernel
theorem dX9_went_314 : decode cX9_went 314 = .ok (.laload, 1) := by decide +kernel
theorem dX9_went_315 : decode cX9_went 315 = .ok (.goto 4, 3) := by decide +kernel
theorem dX9_went_318 : decode cX9_went 318 = .ok (.lconst 0, 1) := by decide +kernel
theorem dX9_went_319 : decode cX9_went 319 = .ok (.putfield 124, 3) := by decide +kernel
theorem dX9_went_322 : decode cX9_went 322 = .ok (.aload_n 1, 1) := by decide +kernel
theorem dX9_went_323 : decode cX9_went 323 = .ok (.iload 4, 2) := by decide +kernel
theorem dX9_went_325 : decode cX9_went 325 = .ok (.invokevirtual 94, 3) := by decide +kernel
theorem dX9_went_328 : decode cX9_went 328 = .ok (.ifCond .eq 8, 3) := by decide +kernel
theorem dX9_went_331 : decode cX9_went 331 = .ok (.bipush 100, 2) := by decide +kernel
theorem dX9_went_333 : decode cX9_went 333 = .ok (.goto 4, 3) := by decide +kernel
theorem dX9_went_336 : decode cX9_went 336 = .ok (.iconst 4, 1) := by decide +kernel
theorem dX9_went_337 : decode cX9_went 337 = .ok (.ireturn, 1) := by decide +kernel
theorem dX9_went_338 : decode cX9_went 338 = .ok (.aload_n 1, 1) := by decide +kernel
theorem dX9_went_339 : decode cX9_went 339 = .ok (.iload 4, 2) := by decide +kernel
theorem dX9_went_341 : decode cX9_went 341 = .ok (.invokevirtual 94, 3) := by decide +kernel
theorem dX9_went_344 : decode cX9_went 344 = .ok (.ifCond .eq 12, 3) := by decide +kernel
theorem dX9_went_347 : decode cX9_went 347 = .ok (.aload_n 0, 1) := by decide +kernel
theorem dX9_went_348 : decode cX9_went 348 = .ok (.getfield 128, 3) := by decide +kernel
theorem dX9_went_351 : decode cX9_went 351 = .ok (.bipush 40, 2) := by decide +kernel
theorem dX9_went_353 : decode cX9_went 353 = .ok (.if_icmp .ne 19, 3) := by decide +kernel
theorem dX9_went_356 : decode cX9_went 356 = .ok (.aload_n 1, 1) := by decide +kernel
theorem dX9_went_357 : decode cX9_went 357 = .ok (.iload 4, 2) := by decide +kernel
theorem dX9_went_359 : decode cX9_went 359 = .ok (.invokevirtual 94, 3) := by decide +kernel
theorem dX9_went_362 : decode cX9_went 362 = .ok (.ifCond .ne 7, 3) := by decide +kernel
theorem dX9_went_365 : decode cX9_went 365 = .ok (.iconst 4, 1) := by decide +kernel
theorem dX9_went_366 : decode cX9_went 366 = .ok (.goto 5, 3) := by decide +kernel
theorem dX9_went_369 : decode cX9_went 369 = .ok (.bipush 11, 2) := by decide +kernel
theorem dX9_went_371 : decode cX9_went 371 = .ok (.ireturn, 1) := by decide +kernel
theorem dX9_went_372 : decode cX9_went 372 = .ok (.aload_n 0, 1) := by decide +kernel
theorem dX9_went_373 : decode cX9_went 373 = .ok (.getfield 33, 3) := by decide +kernel
theorem dX9_went_376 : decode cX9_went 376 = .ok (.aload_n 0, 1) := by decide +kernel
theorem dX9_went_377 : decode cX9_went 377 = .ok (.getfield 128, 3) := by decide +kernel
theorem dX9_went_380 : decode cX9_went 380 = .ok (.aload_n 1, 1) := by decide +kernel
theorem dX9_went_381 : decode cX9_went 381 = .ok (.getfield 67, 3) := by decide +kernel
theorem dX9_went_384 : decode cX9_went 384 = .ok (.iastore, 1) := by decide +kernel
theorem dX9_went_385 : decode cX9_went 385 = .ok (.aload_n 0, 1) := by decide +kernel
theorem dX9_went_386 : decode cX9_went 386 = .ok (.getfield 36, 3) := by decide +kernel
theorem dX9_went_389 : decode cX9_went 389 = .ok (.aload_n 0, 1) := by decide +kernel
theorem dX9_went_390 : decode cX9_went 390 = .ok (.getfield 128, 3) := by decide +kernel
theorem dX9_went_393 : decode cX9_went 393 = .ok (.aload_n 1, 1) := by decide +kernel
theorem dX9_went_394 : decode cX9_went 394 = .ok (.getfield 97, 3) := by decide +kernel
theorem dX9_went_397 : decode cX9_went 397 = .ok (.iload 4, 2) := by decide +kernel
theorem dX9_went_399 : decode cX9_went 399 = .ok (.laload, 1) := by decide +kernel
theorem dX9_went_400 : decode cX9_went 400 = .ok (.lastore, 1) := by decide +kernel
theorem dX9_went_401 : decode cX9_went 401 = .ok (.aload_n 0, 1) := by decide +kernel
theorem dX9_went_402 : decode cX9_went 402 = .ok (.dup, 1) := by decide +kernel
theorem dX9_went_403 : decode cX9_went 403 = .ok (.getfield 128, 3) := by decide +kernel
theorem dX9_went_406 : decode cX9_went 406 = .ok (.iconst 1, 1) := by decide +kernel
theorem dX9_went_407 : decode cX9_went 407 = .ok (.iadd, 1) := by decide +kernel
theorem dX9_went_408 : decode cX9_went 408 = .ok (.putfield 128, 3) := by decide +kernel
theorem dX9_went_411 : decode cX9_went 411 = .ok (.iconst 0, 1) := by decide +kernel
theorem dX9_went_412 : decode cX9_went 412 = .ok (.ireturn, 1) := by decide +kernel
theorem dX9_went_413 : decode cX9_went 413 = .ok (.aload_n 0, 1) := by decide +kernel
theorem dX9_went_414 : decode cX9_went 414 = .ok (.aload_n 1, 1) := by decide +kernel
theorem dX9_went_415 : decode cX9_went 415 = .ok (.iload_n 3, 1) := by decide +kernel
theorem dX9_went_416 : decode cX9_went 416 = .ok (.iload 4, 2) := by decide +kernel
theorem dX9_went_418 : decode cX9_went 418 = .ok (.invokevirtual 131, 3) := by decide +kernel
theorem dX9_went_421 : decode cX9_went 421 = .ok (.ireturn, 1) := by decide +kernel
theorem dX9_went_422 : decode cX9_went 422 = .ok (.aload_n 1, 1) := by decide +kernel
theorem dX9_went_423 : decode cX9_went 423 = .ok (.iload_n 2, 1) := by decide +kernel
theorem dX9_went_424 : decode cX9_went 424 = .ok (.bipush 30, 2) := by decide +kernel
theorem dX9_went_426 : decode cX9_went 426 = .ok (.if_icmp .ne 15, 3) := by decide +kernel
theorem dX9_went_429 : decode cX9_went 429 = .ok (.aload_n 0, 1) := by decide +kernel
theorem dX9_went_430 : decode cX9_went 430 = .ok (.getfield 27, 3) := by decide +kernel
theorem dX9_went_433 : decode cX9_went 433 = .ok (.aload_n 1, 1) := by decide +kernel
theorem dX9_went_434 : decode cX9_went 434 = .ok (.getfield 67, 3) := by decide +kernel
theorem dX9_went_437 : decode cX9_went 437 = .ok (.laload, 1) := by decide +kernel
theorem dX9_went_438 : decode cX9_went 438 = .ok (.goto 8, 3) := by decide +kernel
theorem dX9_went_441 : decode cX9_went 441 = .ok (.aload_n 1, 1) := by decide +kernel
theorem dX9_went_442 : decode cX9_went 442 = .ok (.getfield 134, 3) := by decide +kernel
theorem dX9_went_445 : decode cX9_went 445 = .ok (.i2l, 1) := by decide +kernel
theorem dX9_went_446 : decode cX9_went 446 = .ok (.invokevirtual 90, 3) := by decide +kernel
theorem dX9_went_449 : decode cX9_went 449 = .ok (.iconst 0, 1) := by decide +kernel
theorem dX9_went_450 : decode cX9_went 450 = .ok (.ireturn, 1) := by decide +kernel
theorem dX9_reckoned_0 : decode cX9_reckoned 0 = .ok (.aload_n 1, 1) := by decide +kernel
theorem dX9_reckoned_1 : decode cX9_reckoned 1 = .ok (.iload_n 3, 1) := by decide +kernel
theorem dX9_reckoned_2 : decode cX9_reckoned 2 = .ok (.invokevirtual 94, 3) := by decide +kernel
theorem dX9_reckoned_5 : decode cX9_reckoned 5 = .ok (.ifCond .eq 13, 3) := by decide +kernel
theorem dX9_reckoned_8 : decode cX9_reckoned 8 = .ok (.aload_n 1, 1) := by decide +kernel
theorem dX9_reckoned_9 : decode cX9_reckoned 9 = .ok (.iload_n 3, 1) := by decide +kernel
theorem dX9_reckoned_10 : decode cX9_reckoned 10 = .ok (.iconst 1, 1) := by decide +kernel
theorem dX9_reckoned_11 : decode cX9_reckoned 11 = .ok (.iadd, 1) := by decide +kernel
theorem dX9_reckoned_12 : decode cX9_reckoned 12 = .ok (.invokevirtual 94, 3) := by decide +kernel
theorem dX9_reckoned_15 : decode cX9_reckoned 15 = .ok (.ifCond .ne 5, 3) := by decide +kernel
theorem dX9_reckoned_18 : decode cX9_reckoned 18 = .ok (.iconst 4, 1) := by decide +kernel
theorem dX9_reckoned_19 : decode cX9_reckoned 19 = .ok (.ireturn, 1) := by decide +kernel
theorem dX9_reckoned_20 : decode cX9_reckoned 20 = .ok (.aload_n 1, 1) := by decide +kernel
theorem dX9_reckoned_21 : decode cX9_reckoned 21 = .ok (.getfield 97, 3) := by decide +kernel
theorem dX9_reckoned_24 : decode cX9_reckoned 24 = .ok (.iload_n 3, 1) := by decide +kernel
theorem dX9_reckoned_25 : decode cX9_reckoned 25 = .ok (.laload, 1) := by decide +kernel
theorem dX9_reckoned_26 : decode cX9_reckoned 26 = .ok (.lstore 4, 2) := by decide +kernel
theorem dX9_reckoned_28 : decode cX9_reckoned 28 = .ok (.aload_n 1, 1) := by decide +kernel
theorem dX9_reckoned_29 : decode cX9_reckoned 29 = .ok (.getfield 97, 3) := by decide +kernel
theorem dX9_reckoned_32 : decode cX9_reckoned 32 = .ok (.iload_n 3, 1) := by decide +kernel
theorem dX9_reckoned_33 : decode cX9_reckoned 33 = .ok (.iconst 1, 1) := by decide +kernel
theorem dX9_reckoned_34 : decode cX9_reckoned 34 = .ok (.iadd, 1) := by decide +kernel
theorem dX9_reckoned_35 : decode cX9_reckoned 35 = .ok (.laload, 1) := by decide +kernel
theorem dX9_reckoned_36 : decode cX9_reckoned 36 = .ok (.lstore 6, 2) := by decide +kernel
theorem dX9_reckoned_38 : decode cX9_reckoned 38 = .ok (.iload_n 2, 1) := by decide +kernel
theorem dX9_reckoned_39 : decode cX9_reckoned 39 = .ok (.bipush 9, 2) := by decide +kernel
theorem dX9_reckoned_41 : decode cX9_reckoned 41 = .ok (.if_icmp .eq 9, 3) := by decide +kernel
theorem dX9_reckoned_44 : decode cX9_reckoned 44 = .ok (.iload_n 2, 1) := by decide +kernel
theorem dX9_reckoned_45 : decode cX9_reckoned 45 = .ok (.bipush 10, 2) := by decide +kernel
theorem dX9_reckoned_47 : decode cX9_reckoned 47 = .ok (.if_icmp .ne 12, 3) := by decide +kernel
theorem dX9_reckoned_50 : decode cX9_reckoned 50 = .ok (.lload 6, 2) := by decide +kernel
theorem dX9_reckoned_52 : decode cX9_reckoned 52 = .ok (.lconst 0, 1) := by decide +kernel
theorem dX9_reckoned_53 : decode cX9_reckoned 53 = .ok (.lcmp, 1) := by decide +kernel
theorem dX9_reckoned_54 : decode cX9_reckoned 54 = .ok (.ifCond .ne 5, 3) := by decide +kernel
theorem dX9_reckoned_57 : decode cX9_reckoned 57 = .ok (.iconst 1, 1) := by decide +kernel
theorem dX9_reckoned_58 : decode cX9_reckoned 58 = .ok (.ireturn, 1) := by decide +kernel
theorem dX9_reckoned_59 : decode cX9_reckoned 59 = .ok (.iload_n 2, 1) := by decide +kernel
theorem dX9_reckoned_60 : decode cX9_reckoned 60 = .ok (.bipush 8, 2) := by decide +kernel
theorem dX9_reckoned_62 : decode cX9_reckoned 62 = .ok (.if_icmp .gt 17, 3) := by decide +kernel
theorem dX9_reckoned_65 : decode cX9_reckoned 65 = .ok (.iload_n 2, 1) := by decide +kernel
theorem dX9_reckoned_66 : decode cX9_reckoned 66 = .ok (.lload 4, 2) := by decide +kernel
theorem dX9_reckoned_68 : decode cX9_reckoned 68 = .ok (.lload 6, 2) := by decide +kernel
theorem dX9_reckoned_70 : decode cX9_reckoned 70 = .ok (.invokestatic 137, 3) := by decide +kernel
theorem dX9_reckoned_73 : decode cX9_reckoned 73 = .ok (.ifCond .ne 6, 3) := by decide +kernel
theorem dX9_reckoned_76 : decode cX9_reckoned 76 = .ok (.bipush 6, 2) := by decide +kernel
theorem dX9_reckoned_78 : decode cX9_reckoned 78 = .ok (.ireturn, 1) := by decide +kernel
theorem dX9_reckoned_79 : decode cX9_reckoned 79 = .ok (.aload_n 1, 1) := by decide +kernel
theorem dX9_reckoned_80 : decode cX9_reckoned 80 = .ok (.iload_n 2, 1) := by decide +kernel
theorem dX9_reckoned_81 : decode cX9_reckoned 81 = .ok (.bipush 6, 2) := by decide +kernel
theorem dX9_reckoned_83 : decode cX9_reckoned 83 = .ok (.if_icmp .ne 11, 3) := by decide +kernel
theorem dX9_reckoned_86 : decode cX9_reckoned 86 = .ok (.lload 4, 2) := by decide +kernel
theorem dX9_reckoned_88 : decode cX9_reckoned 88 = .ok (.lload 6, 2) := by decide +kernel
theorem dX9_reckoned_90 : decode cX9_reckoned 90 = .ok (.ladd, 1) := by decide +kernel
theorem dX9_reckoned_91 : decode cX9_reckoned 91 = .ok (.goto 94, 3) := by decide +kernel
theorem dX9_reckoned_94 : decode cX9_reckoned 94 = .ok (.iload_n 2, 1) := by decide +kernel
theorem dX9_reckoned_95 : decode cX9_reckoned 95 = .ok (.bipush 7, 2) := by decide +kernel
theorem dX9_reckoned_97 : decode cX9_reckoned 97 = .ok (.if_icmp .ne 11, 3) := by decide +kernel
theorem dX9_reckoned_100 : decode cX9_reckoned 100 = .ok (.lload 4, 2) := by decide +kernel
theorem dX9_reckoned_102 : decode cX9_reckoned 102 = .ok (.lload 6, 2) := by decide +kernel
theorem dX9_reckoned_104 : decode cX9_reckoned 104 = .ok (.lsub, 1) := by decide +kernel
theorem dX9_reckoned_105 : decode cX9_reckoned 105 = .ok (.goto 80, 3) := by decide +kernel
theorem dX9_reckoned_108 : decode cX9_reckoned 108 = .ok (.iload_n 2, 1) := by decide +kernel
theorem dX9_reckoned_109 : decode cX9_reckoned 109 = .ok (.bipush 8, 2) := by decide +kernel
theorem dX9_reckoned_111 : decode cX9_reckoned 111 = .ok (.if_icmp .ne 11, 3) := by decide +kernel
theorem dX9_reckoned_114 : decode cX9_reckoned 114 = .ok (.lload 4, 2) := by decide +kernel
theorem dX9_reckoned_116 : decode cX9_reckoned 116 = .ok (.lload 6, 2) := by decide +kernel
theorem dX9_reckoned_118 : decode cX9_reckoned 118 = .ok (.lmul, 1) := by decide +kernel
theorem dX9_reckoned_119 : decode cX9_reckoned 119 = .ok (.goto 66, 3) := by decide +kernel
theorem dX9_reckoned_122 : decode cX9_reckoned 122 = .ok (.iload_n 2, 1) := by decide +kernel
theorem dX9_reckoned_123 : decode cX9_reckoned 123 = .ok (.bipush 9, 2) := by decide +kernel
theorem dX9_reckoned_125 : decode cX9_reckoned 125 = .ok (.if_icmp .ne 11, 3) := by decide +kernel
theorem dX9_reckoned_128 : decode cX9_reckoned 128 = .ok (.lload 4, 2) := by decide +kernel
theorem dX9_reckoned_130 : decode cX9_reckoned 130 = .ok (.lload 6, 2) := by decide +kernel
theorem dX9_reckoned_132 : decode cX9_reckoned 132 = .ok (.ldiv, 1) := by decide +kernel
theorem dX9_reckoned_133 : decode cX9_reckoned 133 = .ok (.goto 52, 3) := by decide +kernel
theorem dX9_reckoned_136 : decode cX9_reckoned 136 = .ok (.iload_n 2, 1) := by decide +kernel
theorem dX9_reckoned_137 : decode cX9_reckoned 137 = .ok (.bipush 10, 2) := by decide +kernel
theorem dX9_reckoned_139 : decode cX9_reckoned 139 = .ok (.if_icmp .ne 11, 3) := by decide +kernel
theorem dX9_reckoned_142 : decode cX9_reckoned 142 = .ok (.lload 4, 2) := by decide +kernel
theorem dX9_reckoned_144 : decode cX9_reckoned 144 = .ok (.lload 6, 2) := by decide +kernel
theorem dX9_reckoned_146 : decode cX9_reckoned 146 = .ok (.lrem, 1) := by decide +kernel
theorem dX9_reckoned_147 : decode cX9_reckoned 147 = .ok (.goto 38, 3) := by decide +kernel
theorem dX9_reckoned_150 : decode cX9_reckoned 150 = .ok (.iload_n 2, 1) := by decide +kernel
theorem dX9_reckoned_151 : decode cX9_reckoned 151 = .ok (.bipush 11, 2) := by decide +kernel
theorem dX9_reckoned_153 : decode cX9_reckoned 153 = .ok (.if_icmp .ne 19, 3) := by decide +kernel
theorem dX9_reckoned_156 : decode cX9_reckoned 156 = .ok (.lload 4, 2) := by decide +kernel
theorem dX9_reckoned_158 : decode cX9_reckoned 158 = .ok (.lload 6, 2) := by decide +kernel
theorem dX9_reckoned_160 : decode cX9_reckoned 160 = .ok (.lcmp, 1) := by decide +kernel
theorem dX9_reckoned_161 : decode cX9_reckoned 161 = .ok (.ifCond .ge 7, 3) := by decide +kernel
theorem dX9_reckoned_164 : decode cX9_reckoned 164 = .ok (.lconst 1, 1) := by decide +kernel
theorem dX9_reckoned_165 : decode cX9_reckoned 165 = .ok (.goto 20, 3) := by decide +kernel
theorem dX9_reckoned_168 : decode cX9_reckoned 168 = .ok (.lconst 0, 1) := by decide +kernel
theorem dX9_reckoned_169 : decode cX9_reckoned 169 = .ok (.goto 16, 3) := by decide +kernel
theorem dX9_reckoned_172 : decode cX9_reckoned 172 = .ok (.lload 4, 2) := by decide +kernel
theorem dX9_reckoned_174 : decode cX9_reckoned 174 = .ok (.lload 6, 2) := by decide +kernel
theorem dX9_reckoned_176 : decode cX9_reckoned 176 = .ok (.lcmp, 1) := by decide +kernel
theorem dX9_reckoned_177 : decode cX9_reckoned 177 = .ok (.ifCond .ne 7, 3) := by decide +kernel
theorem dX9_reckoned_180 : decode cX9_reckoned 180 = .ok (.lconst 1, 1) := by decide +kernel
theorem dX9_reckoned_181 : decode cX9_reckoned 181 = .ok (.goto 4, 3) := by decide +kernel
theorem dX9_reckoned_184 : decode cX9_reckoned 184 = .ok (.lconst 0, 1) := by decide +kernel
theorem dX9_reckoned_185 : decode cX9_reckoned 185 = .ok (.invokevirtual 90, 3) := by decide +kernel
theorem dX9_reckoned_188 : decode cX9_reckoned 188 = .ok (.iconst 0, 1) := by decide +kernel
theorem dX9_reckoned_189 : decode cX9_reckoned 189 = .ok (.ireturn, 1) := by decide +kernel
theorem dX9_fits_0 : decode cX9_fits 0 = .ok (.iload_n 0, 1) := by decide +kernel
theorem dX9_fits_1 : decode cX9_fits 1 = .ok (.bipush 8, 2) := by decide +kernel
theorem dX9_fits_3 : decode cX9_fits 3 = .ok (.if_icmp .ne 24, 3) := by decide +kernel
theorem dX9_fits_6 : decode cX9_fits 6 = .ok (.lload_n 1, 1) := by decide +kernel
theorem dX9_fits_7 : decode cX9_fits 7 = .ok (.lload_n 3, 1) := by decide +kernel
theorem dX9_fits_8 : decode cX9_fits 8 = .ok (.invokestatic 141, 3) := by decide +kernel
theorem dX9_fits_11 : decode cX9_fits 11 = .ok (.lload_n 1, 1) := by decide +kernel
theorem dX9_fits_12 : decode cX9_fits 12 = .ok (.lload_n 3, 1) := by decide +kernel
theorem dX9_fits_13 : decode cX9_fits 13 = .ok (.lmul, 1) := by decide +kernel
theorem dX9_fits_14 : decode cX9_fits 14 = .ok (.bipush 63, 2) := by decide +kernel
theorem dX9_fits_16 : decode cX9_fits 16 = .ok (.lshr, 1) := by decide +kernel
theorem dX9_fits_17 : decode cX9_fits 17 = .ok (.lcmp, 1) := by decide +kernel
theorem dX9_fits_18 : decode cX9_fits 18 = .ok (.ifCond .ne 7, 3) := by decide +kernel
theorem dX9_fits_21 : decode cX9_fits 21 = .ok (.iconst 1, 1) := by decide +kernel
theorem dX9_fits_22 : decode cX9_fits 22 = .ok (.goto 4, 3) := by decide +kernel
theorem dX9_fits_25 : decode cX9_fits 25 = .ok (.iconst 0, 1) := by decide +kernel
theorem dX9_fits_26 : decode cX9_fits 26 = .ok (.ireturn, 1) := by decide +kernel
theorem dX9_fits_27 : decode cX9_fits 27 = .ok (.iload_n 0, 1) := by decide +kernel
theorem dX9_fits_28 : decode cX9_fits 28 = .ok (.bipush 6, 2) := by decide +kernel
theorem dX9_fits_30 : decode cX9_fits 30 = .ok (.if_icmp .ne 9, 3) := by decide +kernel
theorem dX9_fits_33 : decode cX9_fits 33 = .ok (.lload_n 1, 1) := by decide +kernel
theorem dX9_fits_34 : decode cX9_fits 34 = .ok (.lload_n 3, 1) := by decide +kernel
theorem dX9_fits_35 : decode cX9_fits 35 = .ok (.ladd, 1) := by decide +kernel
theorem dX9_fits_36 : decode cX9_fits 36 = .ok (.goto 6, 3) := by decide +kernel
theorem dX9_fits_39 : decode cX9_fits 39 = .ok (.lload_n 1, 1) := by decide +kernel
theorem dX9_fits_40 : decode cX9_fits 40 = .ok (.lload_n 3, 1) := by decide +kernel
theorem dX9_fits_41 : decode cX9_fits 41 = .ok (.lsub, 1) := by decide +kernel
theorem dX9_fits_42 : decode cX9_fits 42 = .ok (.lstore 5, 2) := by decide +kernel
theorem dX9_fits_44 : decode cX9_fits 44 = .ok (.iload_n 0, 1) := by decide +kernel
theorem dX9_fits_45 : decode cX9_fits 45 = .ok (.bipush 6, 2) := by decide +kernel
theorem dX9_fits_47 : decode cX9_fits 47 = .ok (.if_icmp .ne 25, 3) := by decide +kernel
theorem dX9_fits_50 : decode cX9_fits 50 = .ok (.lload_n 1, 1) := by decide +kernel
theorem dX9_fits_51 : decode cX9_fits 51 = .ok (.lload 5, 2) := by decide +kernel
theorem dX9_fits_53 : decode cX9_fits 53 = .ok (.lxor, 1) := by decide +kernel
theorem dX9_fits_54 : decode cX9_fits 54 = .ok (.lload_n 3, 1) := by decide +kernel
theorem dX9_fits_55 : decode cX9_fits 55 = .ok (.lload 5, 2) := by decide +kernel
theorem dX9_fits_57 : decode cX9_fits 57 = .ok (.lxor, 1) := by decide +kernel
theorem dX9_fits_58 : decode cX9_fits 58 = .ok (.land, 1) := by decide +kernel
theorem dX9_fits_59 : decode cX9_fits 59 = .ok (.lconst 0, 1) := by decide +kernel
theorem dX9_fits_60 : decode cX9_fits 60 = .ok (.lcmp, 1) := by decide +kernel
theorem dX9_fits_61 : decode cX9_fits 61 = .ok (.ifCond .lt 7, 3) := by decide +kernel
theorem dX9_fits_64 : decode cX9_fits 64 = .ok (.iconst 1, 1) := by decide +kernel
theorem dX9_fits_65 : decode cX9_fits 65 = .ok (.goto 25, 3) := by decide +kernel
theorem dX9_fits_68 : decode cX9_fits 68 = .ok (.iconst 0, 1) := by decide +kernel
theorem dX9_fits_69 : decode cX9_fits 69 = .ok (.goto 21, 3) := by decide +kernel
theorem dX9_fits_72 : decode cX9_fits 72 = .ok (.lload_n 1, 1) := by decide +kernel
theorem dX9_fits_73 : decode cX9_fits 73 = .ok (.lload_n 3, 1) := by decide +kernel
theorem dX9_fits_74 : decode cX9_fits 74 = .ok (.lxor, 1) := by decide +kernel
theorem dX9_fits_75 : decode cX9_fits 75 = .ok (.lload_n 1, 1) := by decide +kernel
theorem dX9_fits_76 : decode cX9_fits 76 = .ok (.lload 5, 2) := by decide +kernel
theorem dX9_fits_78 : decode cX9_fits 78 = .ok (.lxor, 1) := by decide +kernel
theorem dX9_fits_79 : decode cX9_fits 79 = .ok (.land, 1) := by decide +kernel
theorem dX9_fits_80 : decode cX9_fits 80 = .ok (.lconst 0, 1) := by decide +kernel
theorem dX9_fits_81 : decode cX9_fits 81 = .ok (.lcmp, 1) := by decide +kernel
theorem dX9_fits_82 : decode cX9_fits 82 = .ok (.ifCond .lt 7, 3) := by decide +kernel
theorem dX9_fits_85 : decode cX9_fits 85 = .ok (.iconst 1, 1) := by decide +kernel
theorem dX9_fits_86 : decode cX9_fits 86 = .ok (.goto 4, 3) := by decide +kernel
theorem dX9_fits_89 : decode cX9_fits 89 = .ok (.iconst 0, 1) := by decide +kernel
theorem dX9_fits_90 : decode cX9_fits 90 = .ok (.ireturn, 1) := by decide +kernel
theorem dX9_wrongRow_0 : decode cX9_wrongRow 0 = .ok (.aload_n 0, 1) := by decide +kernel
theorem dX9_wrongRow_1 : decode cX9_wrongRow 1 = .ok (.getfield 100, 3) := by decide +kernel
theorem dX9_wrongRow_4 : decode cX9_wrongRow 4 = .ok (.iload_n 1, 1) := by decide +kernel
theorem dX9_wrongRow_5 : decode cX9_wrongRow 5 = .ok (.iaload, 1) := by decide +kernel
theorem dX9_wrongRow_6 : decode cX9_wrongRow 6 = .ok (.iconst 3, 1) := by decide +kernel
theorem dX9_wrongRow_7 : decode cX9_wrongRow 7 = .ok (.if_icmp .ne 7, 3) := by decide +kernel
theorem dX9_wrongRow_10 : decode cX9_wrongRow 10 = .ok (.iconst 2, 1) := by decide +kernel
theorem dX9_wrongRow_11 : decode cX9_wrongRow 11 = .ok (.goto 18, 3) := by decide +kernel
theorem dX9_wrongRow_14 : decode cX9_wrongRow 14 = .ok (.aload_n 0, 1) := by decide +kernel
theorem dX9_wrongRow_15 : decode cX9_wrongRow 15 = .ok (.getfield 100, 3) := by decide +kernel
theorem dX9_wrongRow_18 : decode cX9_wrongRow 18 = .ok (.iload_n 1, 1) := by decide +kernel
theorem dX9_wrongRow_19 : decode cX9_wrongRow 19 = .ok (.iaload, 1) := by decide +kernel
theorem dX9_wrongRow_20 : decode cX9_wrongRow 20 = .ok (.iload_n 2, 1) := by decide +kernel
theorem dX9_wrongRow_21 : decode cX9_wrongRow 21 = .ok (.if_icmp .eq 7, 3) := by decide +kernel
theorem dX9_wrongRow_24 : decode cX9_wrongRow 24 = .ok (.iconst 4, 1) := by decide +kernel
theorem dX9_wrongRow_25 : decode cX9_wrongRow 25 = .ok (.goto 4, 3) := by decide +kernel
theorem dX9_wrongRow_28 : decode cX9_wrongRow 28 = .ok (.iconst 0, 1) := by decide +kernel
theorem dX9_wrongRow_29 : decode cX9_wrongRow 29 = .ok (.ireturn, 1) := by decide +kernel
theorem dX9_rowed_0 : decode cX9_rowed 0 = .ok (.iload_n 2, 1) := by decide +kernel
theorem dX9_rowed_1 : decode cX9_rowed 1 = .ok (.bipush 15, 2) := by decide +kernel
theorem dX9_rowed_3 : decode cX9_rowed 3 = .ok (.if_icmp .eq 9, 3) := by decide +kernel
theorem dX9_rowed_6 : decode cX9_rowed 6 = .ok (.iload_n 2, 1) := by decide +kernel
theorem dX9_rowed_7 : decode cX9_rowed 7 = .ok (.bipush 16, 2) := by decide +kernel
theorem dX9_rowed_9 : decode cX9_rowed 9 = .ok (.if_icmp .ne 74, 3) := by decide +kernel
theorem dX9_rowed_12 : decode cX9_rowed 12 = .ok (.aload_n 1, 1) := by decide +kernel
theorem dX9_rowed_13 : decode cX9_rowed 13 = .ok (.iload_n 3, 1) := by decide +kernel
theorem dX9_rowed_14 : decode cX9_rowed 14 = .ok (.invokevirtual 94, 3) := by decide +kernel
theorem dX9_rowed_17 : decode cX9_rowed 17 = .ok (.ifCond .ne 5, 3) := by decide +kernel
theorem dX9_rowed_20 : decode cX9_rowed 20 = .ok (.iconst 4, 1) := by decide +kernel
theorem dX9_rowed_21 : decode cX9_rowed 21 = .ok (.ireturn, 1) := by decide +kernel
theorem dX9_rowed_22 : decode cX9_rowed 22 = .ok (.aload_n 1, 1) := by decide +kernel
theorem dX9_rowed_23 : decode cX9_rowed 23 = .ok (.getfield 97, 3) := by decide +kernel
theorem dX9_rowed_26 : decode cX9_rowed 26 = .ok (.iload_n 3, 1) := by decide +kernel
theorem dX9_rowed_27 : decode cX9_rowed 27 = .ok (.laload, 1) := by decide +kernel
theorem dX9_rowed_28 : decode cX9_rowed 28 = .ok (.lstore 4, 2) := by decide +kernel
theorem dX9_rowed_30 : decode cX9_rowed 30 = .ok (.lload 4, 2) := by decide +kernel
theorem dX9_rowed_32 : decode cX9_rowed 32 = .ok (.lconst 0, 1) := by decide +kernel
theorem dX9_rowed_33 : decode cX9_rowed 33 = .ok (.lcmp, 1) := by decide +kernel
theorem dX9_rowed_34 : decode cX9_rowed 34 = .ok (.ifCond .lt 12, 3) := by decide +kernel
theorem dX9_rowed_37 : decode cX9_rowed 37 = .ok (.lload 4, 2) := by decide +kernel
theorem dX9_rowed_39 : decode cX9_rowed 39 = .ok (.ldc2_w 147, 3) := by decide +kernel
theorem dX9_rowed_42 : decode cX9_rowed 42 = .ok (.lcmp, 1) := by decide +kernel
theorem dX9_rowed_43 : decode cX9_rowed 43 = .ok (.ifCond .le 17, 3) := by decide +kernel
theorem dX9_rowed_46 : decode cX9_rowed 46 = .ok (.lload 4, 2) := by decide +kernel
theorem dX9_rowed_48 : decode cX9_rowed 48 = .ok (.lconst 0, 1) := by decide +kernel
theorem dX9_rowed_49 : decode cX9_rowed 49 = .ok (.lcmp, 1) := by decide +kernel
theorem dX9_rowed_50 : decode cX9_rowed 50 = .ok (.ifCond .ge 7, 3) := by decide +kernel
theorem dX9_rowed_53 : decode cX9_rowed 53 = .ok (.iconst 5, 1) := by decide +kernel
theorem dX9_rowed_54 : decode cX9_rowed 54 = .ok (.goto 5, 3) := by decide +kernel
theorem dX9_rowed_57 : decode cX9_rowed 57 = .ok (.bipush 6, 2) := by decide +kernel
theorem dX9_rowed_59 : decode cX9_rowed 59 = .ok (.ireturn, 1) := by decide +kernel
theorem dX9_rowed_60 : decode cX9_rowed 60 = .ok (.aload_n 1, 1) := by decide +kernel
theorem dX9_rowed_61 : decode cX9_rowed 61 = .ok (.iload_n 2, 1) := by decide +kernel
theorem dX9_rowed_62 : decode cX9_rowed 62 = .ok (.bipush 15, 2) := by decide +kernel
theorem dX9_rowed_64 : decode cX9_rowed 64 = .ok (.if_icmp .ne 7, 3) := by decide +kernel
theorem dX9_rowed_67 : decode cX9_rowed 67 = .ok (.iconst 1, 1) := by decide +kernel
theorem dX9_rowed_68 : decode cX9_rowed 68 = .ok (.goto 4, 3) := by decide +kernel
theorem dX9_rowed_71 : decode cX9_rowed 71 = .ok (.iconst 2, 1) := by decide +kernel
theorem dX9_rowed_72 : decode cX9_rowed 72 = .ok (.lconst 0, 1) := by decide +kernel
theorem dX9_rowed_73 : decode cX9_rowed 73 = .ok (.lload 4, 2) := by decide +kernel
theorem dX9_rowed_75 : decode cX9_rowed 75 = .ok (.l2i, 1) := by decide +kernel
theorem dX9_rowed_76 : decode cX9_rowed 76 = .ok (.newarray .long, 2) := by decide +kernel
theorem dX9_rowed_78 : decode cX9_rowed 78 = .ok (.invokevirtual 107, 3) := by decide +kernel
theorem dX9_rowed_81 : decode cX9_rowed 81 = .ok (.iconst 0, 1) := by decide +kernel
theorem dX9_rowed_82 : decode cX9_rowed 82 = .ok (.ireturn, 1) := by decide +kernel
theorem dX9_rowed_83 : decode cX9_rowed 83 = .ok (.iload_n 2, 1) := by decide +kernel
theorem dX9_rowed_84 : decode cX9_rowed 84 = .ok (.bipush 21, 2) := by decide +kernel
theorem dX9_rowed_86 : decode cX9_rowed 86 = .ok (.if_icmp .ne 52, 3) := by decide +kernel
theorem dX9_rowed_89 : decode cX9_rowed 89 = .ok (.aload_n 1, 1) := by decide +kernel
theorem dX9_rowed_90 : decode cX9_rowed 90 = .ok (.getfield 100, 3) := by decide +kernel
theorem dX9_rowed_93 : decode cX9_rowed 93 = .ok (.iload_n 3, 1) := by decide +kernel
theorem dX9_rowed_94 : decode cX9_rowed 94 = .ok (.iaload, 1) := by decide +kernel
theorem dX9_rowed_95 : decode cX9_rowed 95 = .ok (.iconst 3, 1) := by decide +kernel
theorem dX9_rowed_96 : decode cX9_rowed 96 = .ok (.if_icmp .eq 12, 3) := by decide +kernel
theorem dX9_rowed_99 : decode cX9_rowed 99 = .ok (.aload_n 1, 1) := by decide +kernel
theorem dX9_rowed_100 : decode cX9_rowed 100 = .ok (.getfield 100, 3) := by decide +kernel
theorem dX9_rowed_103 : decode cX9_rowed 103 = .ok (.iload_n 3, 1) := by decide +kernel
theorem dX9_rowed_104 : decode cX9_rowed 104 = .ok (.iaload, 1) := by decide +kernel
theorem dX9_rowed_105 : decode cX9_rowed 105 = .ok (.ifCond .ne 19, 3) := by decide +kernel
theorem dX9_rowed_108 : decode cX9_rowed 108 = .ok (.aload_n 1, 1) := by decide +kernel
theorem dX9_rowed_109 : decode cX9_rowed 109 = .ok (.getfield 100, 3) := by decide +kernel
theorem dX9_rowed_112 : decode cX9_rowed 112 = .ok (.iload_n 3, 1) := by decide +kernel
theorem dX9_rowed_113 : decode cX9_rowed 113 = .ok (.iaload, 1) := by decide +kernel
theorem dX9_rowed_114 : decode cX9_rowed 114 = .ok (.iconst 3, 1) := by decide +kernel
theorem dX9_rowed_115 : decode cX9_rowed 115 = .ok (.if_icmp .ne 7, 3) := by decide +kernel
theorem dX9_rowed_118 : decode cX9_rowed 118 = .ok (.iconst 2, 1) := by decide +kernel
theorem dX9_rowed_119 : decode cX9_rowed 119 = .ok (.goto 4, 3) := by decide +kernel
theorem dX9_rowed_122 : decode cX9_rowed 122 = .ok (.iconst 4, 1) := by decide +kernel
theorem dX9_rowed_123 : decode cX9_rowed 123 = .ok (.ireturn, 1) := by decide +kernel
theorem dX9_rowed_124 : decode cX9_rowed 124 = .ok (.aload_n 1, 1) := by decide +kernel
theorem dX9_rowed_125 : decode cX9_rowed 125 = .ok (.aload_n 1, 1) := by decide +kernel
theorem dX9_rowed_126 : decode cX9_rowed 126 = .ok (.getfield 103, 3) := by decide +kernel
theorem dX9_rowed_129 : decode cX9_rowed 129 = .ok (.iload_n 3, 1) := by decide +kernel
theorem dX9_rowed_130 : decode cX9_rowed 130 = .ok (.aaload, 1) := by decide +kernel
theorem dX9_rowed_131 : decode cX9_rowed 131 = .ok (.arraylength, 1) := by decide +kernel
theorem dX9_rowed_132 : decode cX9_rowed 132 = .ok (.i2l, 1) := by decide +kernel
theorem dX9_rowed_133 : decode cX9_rowed 133 = .ok (.invokevirtual 90, 3) := by decide +kernel
theorem dX9_rowed_136 : decode cX9_rowed 136 = .ok (.iconst 0, 1) := by decide +kernel
theorem dX9_rowed_137 : decode cX9_rowed 137 = .ok (.ireturn, 1) := by decide +kernel
theorem dX9_rowed_138 : decode cX9_rowed 138 = .ok (.iload_n 2, 1) := by decide +kernel
theorem dX9_rowed_139 : decode cX9_rowed 139 = .ok (.bipush 23, 2) := by decide +kernel
theorem dX9_rowed_141 : decode cX9_rowed 141 = .ok (.if_icmp .ne 9, 3) := by decide +kernel
theorem dX9_rowed_144 : decode cX9_rowed 144 = .ok (.aload_n 1, 1) := by decide +kernel
theorem dX9_rowed_145 : decode cX9_rowed 145 = .ok (.iload_n 3, 1) := by decide +kernel
theorem dX9_rowed_146 : decode cX9_rowed 146 = .ok (.invokestatic 149, 3) := by decide +kernel
theorem dX9_rowed_149 : decode cX9_rowed 149 = .ok (.ireturn, 1) := by decide +kernel
theorem dX9_rowed_150 : decode cX9_rowed 150 = .ok (.iload_n 2, 1) := by decide +kernel
theorem dX9_rowed_151 : decode cX9_rowed 151 = .ok (.bipush 19, 2) := by decide +kernel
theorem dX9_rowed_153 : decode cX9_rowed 153 = .ok (.if_icmp .lt 7, 3) := by decide +kernel
theorem dX9_rowed_156 : decode cX9_rowed 156 = .ok (.iconst 1, 1) := by decide +kernel
theorem dX9_rowed_157 : decode cX9_rowed 157 = .ok (.goto 4, 3) := by decide +kernel
theorem dX9_rowed_160 : decode cX9_rowed 160 = .ok (.iconst 0, 1) := by decide +kernel
theorem dX9_rowed_161 : decode cX9_rowed 161 = .ok (.istore 4, 2) := by decide +kernel
theorem dX9_rowed_163 : decode cX9_rowed 163 = .ok (.iload_n 2, 1) := by decide +kernel
theorem dX9_rowed_164 : decode cX9_rowed 164 = .ok (.bipush 17, 2) := by decide +kernel
theorem dX9_rowed_166 : decode cX9_rowed 166 = .ok (.if_icmp .eq 9, 3) := by decide +kernel
theorem dX9_rowed_169 : decode cX9_rowed 169 = .ok (.iload_n 2, 1) := by decide +kernel
theorem dX9_rowed_170 : decode cX9_rowed 170 = .ok (.bipush 19, 2) := by decide +kernel
theorem dX9_rowed_172 : decode cX9_rowed 172 = .ok (.if_icmp .ne 7, 3) := by decide +kernel
theorem dX9_rowed_175 : decode cX9_rowed 175 = .ok (.iconst 1, 1) := by decide +kernel
theorem dX9_rowed_176 : decode cX9_rowed 176 = .ok (.goto 4, 3) := by decide +kernel
theorem dX9_rowed_179 : decode cX9_rowed 179 = .ok (.iconst 2, 1) := by decide +kernel
theorem dX9_rowed_180 : decode cX9_rowed 180 = .ok (.istore 5, 2) := by decide +kernel
theorem dX9_rowed_182 : decode cX9_rowed 182 = .ok (.aload_n 1, 1) := by decide +kernel
theorem dX9_rowed_183 : decode cX9_rowed 183 = .ok (.iload_n 3, 1) := by decide +kernel
theorem dX9_rowed_184 : decode cX9_rowed 184 = .ok (.iconst 1, 1) := by decide +kernel
theorem dX9_rowed_185 : decode cX9_rowed 185 = .ok (.iadd, 1) := by decide +kernel
theorem dX9_rowed_186 : decode cX9_rowed 186 = .ok (.invokevirtual 94, 3) := by decide +kernel
theorem dX9_rowed_189 : decode cX9_rowed 189 = .ok (.ifCond .eq 18, 3) := by decide +kernel
theorem dX9_rowed_192 : decode cX9_rowed 192 = .ok (.iload 4, 2) := by decide +kernel
theorem dX9_rowed_194 : decode cX9_rowed 194 = .ok (.ifCond .eq 15, 3) := by decide +kernel
theorem dX9_rowed_197 : decode cX9_rowed 197 = .ok (.aload_n 1, 1) := by decide +kernel
theorem dX9_rowed_198 : decode cX9_rowed 198 = .ok (.iload_n 3, 1) := by decide +kernel
theorem dX9_rowed_199 : decode cX9_rowed 199 = .ok (.iconst 2, 1) := by decide +kernel
theorem dX9_rowed_200 : decode cX9_rowed 200 = .ok (.iadd, 1) := by decide +kernel
theorem dX9_rowed_201 : decode cX9_rowed 201 = .ok (.invokevirtual 94, 3) := by decide +kernel
theorem dX9_rowed_204 : decode cX9_rowed 204 = .ok (.ifCond .ne 5, 3) := by decide +kernel
theorem dX9_rowed_207 : decode cX9_rowed 207 = .ok (.iconst 4, 1) := by decide +kernel
theorem dX9_rowed_208 : decode cX9_rowed 208 = .ok (.ireturn, 1) := by decide +kernel
theorem dX9_rowed_209 : decode cX9_rowed 209 = .ok (.aload_n 1, 1) := by decide +kernel
theorem dX9_rowed_210 : decode cX9_rowed 210 = .ok (.iload_n 3, 1) := by decide +kernel
theorem dX9_rowed_211 : decode cX9_rowed 211 = .ok (.iload 5, 2) := by decide +kernel
theorem dX9_rowed_213 : decode cX9_rowed 213 = .ok (.invokestatic 153, 3) := by decide +kernel
theorem dX9_rowed_216 : decode cX9_rowed 216 = .ok (.istore 6, 2) := by decide +kernel
theorem dX9_rowed_218 : decode cX9_rowed 218 = .ok (.iload 6, 2) := by decide +kernel
theorem dX9_rowed_220 : decode cX9_rowed 220 = .ok (.ifCond .le 6, 3) := by decide +kernel
theorem dX9_rowed_223 : decode cX9_rowed 223 = .ok (.iload 6, 2) := by decide +kernel
theorem dX9_rowed_225 : decode cX9_rowed 225 = .ok (.ireturn, 1) := by decide +kernel
theorem dX9_rowed_226 : decode cX9_rowed 226 = .ok (.aload_n 1, 1) := by decide +kernel
theorem dX9_rowed_227 : decode cX9_rowed 227 = .ok (.getfield 97, 3) := by decide +kernel
theorem dX9_rowed_230 : decode cX9_rowed 230 = .ok (.iload_n 3, 1) := by decide +kernel
theorem dX9_rowed_231 : decode cX9_rowed 231 = .ok (.iconst 1, 1) := by decide +kernel
theorem dX9_rowed_232 : decode cX9_rowed 232 = .ok (.iadd, 1) := by decide +kernel
theorem dX9_rowed_233 : decode cX9_rowed 233 = .ok (.laload, 1) := by decide +kernel
theorem dX9_rowed_234 : decode cX9_rowed 234 = .ok (.lstore 7, 2) := by decide +kernel
theorem dX9_rowed_236 : decode cX9_rowed 236 = .ok (.lload 7, 2) := by decide +kernel
theorem dX9_rowed_238 : decode cX9_rowed 238 = .ok (.lconst 0, 1) := by decide +kernel
theorem dX9_rowed_239 : decode cX9_rowed 239 = .ok (.lcmp, 1) := by decide +kernel
