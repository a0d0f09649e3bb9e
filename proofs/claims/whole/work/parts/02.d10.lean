/-! decode rows: printed by wip/whole/facts.py -/
theorem dd_lw_law_0 : decode code 0 = .ok (.new 8, 3) := by decide +kernel
theorem dd_lw_law_3 : decode code 3 = .ok (.dup, 1) := by decide +kernel
theorem dd_lw_law_4 : decode code 4 = .ok (.invokespecial 87, 3) := by decide +kernel
theorem dd_lw_law_7 : decode code 7 = .ok (.astore_n 1, 1) := by decide +kernel
theorem dd_lw_law_8 : decode code 8 = .ok (.new 88, 3) := by decide +kernel
theorem dd_lw_law_11 : decode code 11 = .ok (.dup, 1) := by decide +kernel
theorem dd_lw_law_12 : decode code 12 = .ok (.invokespecial 90, 3) := by decide +kernel
theorem dd_lw_law_15 : decode code 15 = .ok (.astore_n 2, 1) := by decide +kernel
theorem dd_lw_law_16 : decode code 16 = .ok (.iconst 1, 1) := by decide +kernel
theorem dd_lw_law_17 : decode code 17 = .ok (.newarray .long, 2) := by decide +kernel
theorem dd_lw_law_19 : decode code 19 = .ok (.astore_n 3, 1) := by decide +kernel
theorem dd_lw_law_20 : decode code 20 = .ok (.iconst 0, 1) := by decide +kernel
theorem dd_lw_law_21 : decode code 21 = .ok (.istore 4, 2) := by decide +kernel
theorem dd_lw_law_23 : decode code 23 = .ok (.iload 4, 2) := by decide +kernel
theorem dd_lw_law_25 : decode code 25 = .ok (.aload_n 0, 1) := by decide +kernel
theorem dd_lw_law_26 : decode code 26 = .ok (.arraylength, 1) := by decide +kernel
theorem dd_lw_law_27 : decode code 27 = .ok (.iconst 5, 1) := by decide +kernel
theorem dd_lw_law_28 : decode code 28 = .ok (.isub, 1) := by decide +kernel
theorem dd_lw_law_29 : decode code 29 = .ok (.if_icmp .gt 1512, 3) := by decide +kernel
theorem dd_lw_law_32 : decode code 32 = .ok (.aload_n 0, 1) := by decide +kernel
theorem dd_lw_law_33 : decode code 33 = .ok (.iload 4, 2) := by decide +kernel
theorem dd_lw_law_35 : decode code 35 = .ok (.iaload, 1) := by decide +kernel
theorem dd_lw_law_36 : decode code 36 = .ok (.bipush 31, 2) := by decide +kernel
theorem dd_lw_law_38 : decode code 38 = .ok (.iand, 1) := by decide +kernel
theorem dd_lw_law_39 : decode code 39 = .ok (.tableswitch 1496 0 19 #[93, 137, 181, 256, 331, 407, 499, 567, 642, 717, 804, 891, 975, 1031, 1067, 1142, 1217, 1273, 1348, 1416], 93) := by decide +kernel
theorem dd_lw_law_132 : decode code 132 = .ok (.aload_n 1, 1) := by decide +kernel
theorem dd_lw_law_133 : decode code 133 = .ok (.aload_n 3, 1) := by decide +kernel
theorem dd_lw_law_134 : decode code 134 = .ok (.invokestatic 91, 3) := by decide +kernel
theorem dd_lw_law_137 : decode code 137 = .ok (.istore 5, 2) := by decide +kernel
theorem dd_lw_law_139 : decode code 139 = .ok (.aload_n 2, 1) := by decide +kernel
theorem dd_lw_law_140 : decode code 140 = .ok (.invokevirtual 96, 3) := by decide +kernel
theorem dd_lw_law_143 : decode code 143 = .ok (.istore 6, 2) := by decide +kernel
theorem dd_lw_law_145 : decode code 145 = .ok (.aload_n 2, 1) := by decide +kernel
theorem dd_lw_law_146 : decode code 146 = .ok (.invokevirtual 97, 3) := by decide +kernel
theorem dd_lw_law_149 : decode code 149 = .ok (.iload 5, 2) := by decide +kernel
theorem dd_lw_law_151 : decode code 151 = .ok (.if_icmp .eq 5, 3) := by decide +kernel
theorem dd_lw_law_154 : decode code 154 = .ok (.iconst 0, 1) := by decide +kernel
theorem dd_lw_law_155 : decode code 155 = .ok (.ireturn, 1) := by decide +kernel
theorem dd_lw_law_156 : decode code 156 = .ok (.iload 5, 2) := by decide +kernel
theorem dd_lw_law_158 : decode code 158 = .ok (.ifCond .ne 15, 3) := by decide +kernel
theorem dd_lw_law_161 : decode code 161 = .ok (.aload_n 3, 1) := by decide +kernel
theorem dd_lw_law_162 : decode code 162 = .ok (.iconst 0, 1) := by decide +kernel
theorem dd_lw_law_163 : decode code 163 = .ok (.laload, 1) := by decide +kernel
theorem dd_lw_law_164 : decode code 164 = .ok (.iload 6, 2) := by decide +kernel
theorem dd_lw_law_166 : decode code 166 = .ok (.i2l, 1) := by decide +kernel
theorem dd_lw_law_167 : decode code 167 = .ok (.lcmp, 1) := by decide +kernel
theorem dd_lw_law_168 : decode code 168 = .ok (.ifCond .eq 5, 3) := by decide +kernel
theorem dd_lw_law_171 : decode code 171 = .ok (.iconst 0, 1) := by decide +kernel
theorem dd_lw_law_172 : decode code 172 = .ok (.ireturn, 1) := by decide +kernel
theorem dd_lw_law_173 : decode code 173 = .ok (.goto 1362, 3) := by decide +kernel
theorem dd_lw_law_176 : decode code 176 = .ok (.aload_n 1, 1) := by decide +kernel
theorem dd_lw_law_177 : decode code 177 = .ok (.aload_n 3, 1) := by decide +kernel
theorem dd_lw_law_178 : decode code 178 = .ok (.invokestatic 100, 3) := by decide +kernel
theorem dd_lw_law_181 : decode code 181 = .ok (.istore 5, 2) := by decide +kernel
theorem dd_lw_law_183 : decode code 183 = .ok (.aload_n 2, 1) := by decide +kernel
theorem dd_lw_law_184 : decode code 184 = .ok (.invokevirtual 102, 3) := by decide +kernel
theorem dd_lw_law_187 : decode code 187 = .ok (.istore 6, 2) := by decide +kernel
theorem dd_lw_law_189 : decode code 189 = .ok (.aload_n 2, 1) := by decide +kernel
theorem dd_lw_law_190 : decode code 190 = .ok (.invokevirtual 97, 3) := by decide +kernel
theorem dd_lw_law_193 : decode code 193 = .ok (.iload 5, 2) := by decide +kernel
theorem dd_lw_law_195 : decode code 195 = .ok (.if_icmp .eq 5, 3) := by decide +kernel
theorem dd_lw_law_198 : decode code 198 = .ok (.iconst 0, 1) := by decide +kernel
theorem dd_lw_law_199 : decode code 199 = .ok (.ireturn, 1) := by decide +kernel
theorem dd_lw_law_200 : decode code 200 = .ok (.iload 5, 2) := by decide +kernel
theorem dd_lw_law_202 : decode code 202 = .ok (.ifCond .ne 15, 3) := by decide +kernel
theorem dd_lw_law_205 : decode code 205 = .ok (.aload_n 3, 1) := by decide +kernel
theorem dd_lw_law_206 : decode code 206 = .ok (.iconst 0, 1) := by decide +kernel
theorem dd_lw_law_207 : decode code 207 = .ok (.laload, 1) := by decide +kernel
theorem dd_lw_law_208 : decode code 208 = .ok (.iload 6, 2) := by decide +kernel
theorem dd_lw_law_210 : decode code 210 = .ok (.i2l, 1) := by decide +kernel
theorem dd_lw_law_211 : decode code 211 = .ok (.lcmp, 1) := by decide +kernel
theorem dd_lw_law_212 : decode code 212 = .ok (.ifCond .eq 5, 3) := by decide +kernel
theorem dd_lw_law_215 : decode code 215 = .ok (.iconst 0, 1) := by decide +kernel
theorem dd_lw_law_216 : decode code 216 = .ok (.ireturn, 1) := by decide +kernel
theorem dd_lw_law_217 : decode code 217 = .ok (.goto 1318, 3) := by decide +kernel
theorem dd_lw_law_220 : decode code 220 = .ok (.aload_n 1, 1) := by decide +kernel
theorem dd_lw_law_221 : decode code 221 = .ok (.aload_n 0, 1) := by decide +kernel
theorem dd_lw_law_222 : decode code 222 = .ok (.iload 4, 2) := by decide +kernel
theorem dd_lw_law_224 : decode code 224 = .ok (.iconst 1, 1) := by decide +kernel
theorem dd_lw_law_225 : decode code 225 = .ok (.iadd, 1) := by decide +kernel
theorem dd_lw_law_226 : decode code 226 = .ok (.iaload, 1) := by decide +kernel
theorem dd_lw_law_227 : decode code 227 = .ok (.aload_n 0, 1) := by decide +kernel
theorem dd_lw_law_228 : decode code 228 = .ok (.iload 4, 2) := by decide +kernel
theorem dd_lw_law_230 : decode code 230 = .ok (.iconst 2, 1) := by decide +kernel
theorem dd_lw_law_231 : decode code 231 = .ok (.iadd, 1) := by decide +kernel
theorem dd_lw_law_232 : decode code 232 = .ok (.iaload, 1) := by decide +kernel
theorem dd_lw_law_233 : decode code 233 = .ok (.aload_n 3, 1) := by decide +kernel
theorem dd_lw_law_234 : decode code 234 = .ok (.invokestatic 103, 3) := by decide +kernel
theorem dd_lw_law_237 : decode code 237 = .ok (.istore 5, 2) := by decide +kernel
theorem dd_lw_law_239 : decode code 239 = .ok (.aload_n 2, 1) := by decide +kernel
theorem dd_lw_law_240 : decode code 240 = .ok (.aload_n 0, 1) := by decide +kernel
theorem dd_lw_law_241 : decode code 241 = .ok (.iload 4, 2) := by decide +kernel
theorem dd_lw_law_243 : decode code 243 = .ok (.iconst 1, 1) := by decide +kernel
theorem dd_lw_law_244 : decode code 244 = .ok (.iadd, 1) := by decide +kernel
theorem dd_lw_law_245 : decode code 245 = .ok (.iaload, 1) := by decide +kernel
theorem dd_lw_law_246 : decode code 246 = .ok (.aload_n 0, 1) := by decide +kernel
theorem dd_lw_law_247 : decode code 247 = .ok (.iload 4, 2) := by decide +kernel
theorem dd_lw_law_249 : decode code 249 = .ok (.iconst 2, 1) := by decide +kernel
theorem dd_lw_law_250 : decode code 250 = .ok (.iadd, 1) := by decide +kernel
theorem dd_lw_law_251 : decode code 251 = .ok (.iaload, 1) := by decide +kernel
theorem dd_lw_law_252 : decode code 252 = .ok (.invokevirtual 106, 3) := by decide +kernel
theorem dd_lw_law_255 : decode code 255 = .ok (.istore 6, 2) := by decide +kernel
theorem dd_lw_law_257 : decode code 257 = .ok (.aload_n 2, 1) := by decide +kernel
theorem dd_lw_law_258 : decode code 258 = .ok (.invokevirtual 97, 3) := by decide +kernel
theorem dd_lw_law_261 : decode code 261 = .ok (.iload 5, 2) := by decide +kernel
theorem dd_lw_law_263 : decode code 263 = .ok (.if_icmp .eq 5, 3) := by decide +kernel
theorem dd_lw_law_266 : decode code 266 = .ok (.iconst 0, 1) := by decide +kernel
theorem dd_lw_law_267 : decode code 267 = .ok (.ireturn, 1) := by decide +kernel
theorem dd_lw_law_268 : decode code 268 = .ok (.iload 5, 2) := by decide +kernel
theorem dd_lw_law_270 : decode code 270 = .ok (.ifCond .ne 22, 3) := by decide +kernel
theorem dd_lw_law_273 : decode code 273 = .ok (.aload_n 3, 1) := by decide +kernel
theorem dd_lw_law_274 : decode code 274 = .ok (.iconst 0, 1) := by decide +kernel
theorem dd_lw_law_275 : decode code 275 = .ok (.laload, 1) := by decide +kernel
theorem dd_lw_law_276 : decode code 276 = .ok (.iload 6, 2) := by decide +kernel
theorem dd_lw_law_278 : decode code 278 = .ok (.ifCond .eq 7, 3) := by decide +kernel
theorem dd_lw_law_281 : decode code 281 = .ok (.lconst 1, 1) := by decide +kernel
theorem dd_lw_law_282 : decode code 282 = .ok (.goto 4, 3) := by decide +kernel
theorem dd_lw_law_285 : decode code 285 = .ok (.lconst 0, 1) := by decide +kernel
theorem dd_lw_law_286 : decode code 286 = .ok (.lcmp, 1) := by decide +kernel
theorem dd_lw_law_287 : decode code 287 = .ok (.ifCond .eq 5, 3) := by decide +kernel
theorem dd_lw_law_290 : decode code 290 = .ok (.iconst 0, 1) := by decide +kernel
theorem dd_lw_law_291 : decode code 291 = .ok (.ireturn, 1) := by decide +kernel
theorem dd_lw_law_292 : decode code 292 = .ok (.goto 1243, 3) := by decide +kernel
theorem dd_lw_law_295 : decode code 295 = .ok (.aload_n 1, 1) := by decide +kernel
theorem dd_lw_law_296 : decode code 296 = .ok (.aload_n 0, 1) := by decide +kernel
theorem dd_lw_law_297 : decode code 297 = .ok (.iload 4, 2) := by decide +kernel
theorem dd_lw_law_299 : decode code 299 = .ok (.iconst 1, 1) := by decide +kernel
theorem dd_lw_law_300 : decode code 300 = .ok (.iadd, 1) := by decide +kernel
theorem dd_lw_law_301 : decode code 301 = .ok (.iaload, 1) := by decide +kernel
theorem dd_lw_law_302 : decode code 302 = .ok (.aload_n 0, 1) := by decide +kernel
theorem dd_lw_law_303 : decode code 303 = .ok (.iload 4, 2) := by decide +kernel
theorem dd_lw_law_305 : decode code 305 = .ok (.iconst 2, 1) := by decide +kernel
theorem dd_lw_law_306 : decode code 306 = .ok (.iadd, 1) := by decide +kernel
theorem dd_lw_law_307 : decode code 307 = .ok (.iaload, 1) := by decide +kernel
theorem dd_lw_law_308 : decode code 308 = .ok (.aload_n 3, 1) := by decide +kernel
theorem dd_lw_law_309 : decode code 309 = .ok (.invokestatic 107, 3) := by decide +kernel
theorem dd_lw_law_312 : decode code 312 = .ok (.istore 5, 2) := by decide +kernel
theorem dd_lw_law_314 : decode code 314 = .ok (.aload_n 2, 1) := by decide +kernel
theorem dd_lw_law_315 : decode code 315 = .ok (.aload_n 0, 1) := by decide +kernel
theorem dd_lw_law_316 : decode code 316 = .ok (.iload 4, 2) := by decide +kernel
theorem dd_lw_law_318 : decode code 318 = .ok (.iconst 1, 1) := by decide +kernel
theorem dd_lw_law_319 : decode code 319 = .ok (.iadd, 1) := by decide +kernel
theorem dd_lw_law_320 : decode code 320 = .ok (.iaload, 1) := by decide +kernel
theorem dd_lw_law_321 : decode code 321 = .ok (.aload_n 0, 1) := by decide +kernel
theorem dd_lw_law_322 : decode code 322 = .ok (.iload 4, 2) := by decide +kernel
theorem dd_lw_law_324 : decode code 324 = .ok (.iconst 2, 1) := by decide +kernel
theorem dd_lw_law_325 : decode code 325 = .ok (.iadd, 1) := by decide +kernel
theorem dd_lw_law_326 : decode code 326 = .ok (.iaload, 1) := by decide +kernel
theorem dd_lw_law_327 : decode code 327 = .ok (.invokevirtual 109, 3) := by decide +kernel
theorem dd_lw_law_330 : decode code 330 = .ok (.istore 6, 2) := by decide +kernel
theorem dd_lw_law_332 : decode code 332 = .ok (.aload_n 2, 1) := by decide +kernel
theorem dd_lw_law_333 : decode code 333 = .ok (.invokevirtual 97, 3) := by decide +kernel
theorem dd_lw_law_336 : decode code 336 = .ok (.iload 5, 2) := by decide +kernel
theorem dd_lw_law_338 : decode code 338 = .ok (.if_icmp .eq 5, 3) := by decide +kernel
theorem dd_lw_law_341 : decode code 341 = .ok (.iconst 0, 1) := by decide +kernel
theorem dd_lw_law_342 : decode code 342 = .ok (.ireturn, 1) := by decide +kernel
theorem dd_lw_law_343 : decode code 343 = .ok (.iload 5, 2) := by decide +kernel
theorem dd_lw_law_345 : decode code 345 = .ok (.ifCond .ne 22, 3) := by decide +kernel
theorem dd_lw_law_348 : decode code 348 = .ok (.aload_n 3, 1) := by decide +kernel
theorem dd_lw_law_349 : decode code 349 = .ok (.iconst 0, 1) := by decide +kernel
theorem dd_lw_law_350 : decode code 350 = .ok (.laload, 1) := by decide +kernel
theorem dd_lw_law_351 : decode code 351 = .ok (.iload 6, 2) := by decide +kernel
theorem dd_lw_law_353 : decode code 353 = .ok (.ifCond .eq 7, 3) := by decide +kernel
theorem dd_lw_law_356 : decode code 356 = .ok (.lconst 1, 1) := by decide +kernel
theorem dd_lw_law_357 : decode code 357 = .ok (.goto 4, 3) := by decide +kernel
theorem dd_lw_law_360 : decode code 360 = .ok (.lconst 0, 1) := by decide +kernel
theorem dd_lw_law_361 : decode code 361 = .ok (.lcmp, 1) := by decide +kernel
theorem dd_lw_law_362 : decode code 362 = .ok (.ifCond .eq 5, 3) := by decide +kernel
theorem dd_lw_law_365 : decode code 365 = .ok (.iconst 0, 1) := by decide +kernel
theorem dd_lw_law_366 : decode code 366 = .ok (.ireturn, 1) := by decide +kernel
theorem dd_lw_law_367 : decode code 367 = .ok (.goto 1168, 3) := by decide +kernel
theorem dd_lw_law_370 : decode code 370 = .ok (.aload_n 1, 1) := by decide +kernel
theorem dd_lw_law_371 : decode code 371 = .ok (.aload_n 0, 1) := by decide +kernel
theorem dd_lw_law_372 : decode code 372 = .ok (.iload 4, 2) := by decide +kernel
theorem dd_lw_law_374 : decode code 374 = .ok (.iconst 1, 1) := by decide +kernel
theorem dd_lw_law_375 : decode code 375 = .ok (.iadd, 1) := by decide +kernel
theorem dd_lw_law_376 : decode code 376 = .ok (.iaload, 1) := by decide +kernel
theorem dd_lw_law_377 : decode code 377 = .ok (.ifCond .eq 7, 3) := by decide +kernel
theorem dd_lw_law_380 : decode code 380 = .ok (.iconst 1, 1) := by decide +kernel
theorem dd_lw_law_381 : decode code 381 = .ok (.goto 4, 3) := by decide +kernel
theorem dd_lw_law_384 : decode code 384 = .ok (.iconst 0, 1) := by decide +kernel
theorem dd_lw_law_385 : decode code 385 = .ok (.aload_n 0, 1) := by decide +kernel
theorem dd_lw_law_386 : decode code 386 = .ok (.iload 4, 2) := by decide +kernel
theorem dd_lw_law_388 : decode code 388 = .ok (.iconst 2, 1) := by decide +kernel
theorem dd_lw_law_389 : decode code 389 = .ok (.iadd, 1) := by decide +kernel
theorem dd_lw_law_390 : decode code 390 = .ok (.iaload, 1) := by decide +kernel
theorem dd_lw_law_391 : decode code 391 = .ok (.aload_n 0, 1) := by decide +kernel
theorem dd_lw_law_392 : decode code 392 = .ok (.iload 4, 2) := by decide +kernel
theorem dd_lw_law_394 : decode code 394 = .ok (.iconst 3, 1) := by decide +kernel
theorem dd_lw_law_395 : decode code 395 = .ok (.iadd, 1) := by decide +kernel
theorem dd_lw_law_396 : decode code 396 = .ok (.iaload, 1) := by decide +kernel
theorem dd_lw_law_397 : decode code 397 = .ok (.invokestatic 110, 3) := by decide +kernel
theorem dd_lw_law_400 : decode code 400 = .ok (.istore 5, 2) := by decide +kernel
theorem dd_lw_law_402 : decode code 402 = .ok (.aload_n 2, 1) := by decide +kernel
theorem dd_lw_law_403 : decode code 403 = .ok (.aload_n 0, 1) := by decide +kernel
theorem dd_lw_law_404 : decode code 404 = .ok (.iload 4, 2) := by decide +kernel
theorem dd_lw_law_406 : decode code 406 = .ok (.iconst 1, 1) := by decide +kernel
theorem dd_lw_law_407 : decode code 407 = .ok (.iadd, 1) := by decide +kernel
theorem dd_lw_law_408 : decode code 408 = .ok (.iaload, 1) := by decide +kernel
theorem dd_lw_law_409 : decode code 409 = .ok (.ifCond .eq 7, 3) := by decide +kernel
theorem dd_lw_law_412 : decode code 412 = .ok (.iconst 1, 1) := by decide +kernel
theorem dd_lw_law_413 : decode code 413 = .ok (.goto 4, 3) := by decide +kernel
theorem dd_lw_law_416 : decode code 416 = .ok (.iconst 0, 1) := by decide +kernel
theorem dd_lw_law_417 : decode code 417 = .ok (.aload_n 0, 1) := by decide +kernel
theorem dd_lw_law_418 : decode code 418 = .ok (.iload 4, 2) := by decide +kernel
theorem dd_lw_law_420 : decode code 420 = .ok (.iconst 2, 1) := by decide +kernel
theorem dd_lw_law_421 : decode code 421 = .ok (.iadd, 1) := by decide +kernel
theorem dd_lw_law_422 : decode code 422 = .ok (.iaload, 1) := by decide +kernel
theorem dd_lw_law_423 : decode code 423 = .ok (.aload_n 0, 1) := by decide +kernel
theorem dd_lw_law_424 : decode code 424 = .ok (.iload 4, 2) := by decide +kernel
theorem dd_lw_law_426 : decode code 426 = .ok (.iconst 3, 1) := by decide +kernel
theorem dd_lw_law_427 : decode code 427 = .ok (.iadd, 1) := by decide +kernel
theorem dd_lw_law_428 : decode code 428 = .ok (.iaload, 1) := by decide +kernel
theorem dd_lw_law_429 : decode code 429 = .ok (.invokevirtual 113, 3) := by decide +kernel
theorem dd_lw_law_432 : decode code 432 = .ok (.aload_n 2, 1) := by decide +kernel
theorem dd_lw_law_433 : decode code 433 = .ok (.invokevirtual 97, 3) := by decide +kernel
theorem dd_lw_law_436 : decode code 436 = .ok (.iload 5, 2) := by decide +kernel
theorem dd_lw_law_438 : decode code 438 = .ok (.if_icmp .eq 5, 3) := by decide +kernel
theorem dd_lw_law_441 : decode code 441 = .ok (.iconst 0, 1) := by decide +kernel
theorem dd_lw_law_442 : decode code 442 = .ok (.ireturn, 1) := by decide +kernel
theorem dd_lw_law_443 : decode code 443 = .ok (.goto 1092, 3) := by decide +kernel
theorem dd_lw_law_446 : decode code 446 = .ok (.aload_n 1, 1) := by decide +kernel
theorem dd_lw_law_447 : decode code 447 = .ok (.aload_n 0, 1) := by decide +kernel
theorem dd_lw_law_448 : decode code 448 = .ok (.iload 4, 2) := by decide +kernel
theorem dd_lw_law_450 : decode code 450 = .ok (.iconst 1, 1) := by decide +kernel
theorem dd_lw_law_451 : decode code 451 = .ok (.iadd, 1) := by decide +kernel
theorem dd_lw_law_452 : decode code 452 = .ok (.iaload, 1) := by decide +kernel
theorem dd_lw_law_453 : decode code 453 = .ok (.aload_n 0, 1) := by decide +kernel
theorem dd_lw_law_454 : decode code 454 = .ok (.iload 4, 2) := by decide +kernel
theorem dd_lw_law_456 : decode code 456 = .ok (.iconst 2, 1) := by decide +kernel
theorem dd_lw_law_457 : decode code 457 = .ok (.iadd, 1) := by decide +kernel
theorem dd_lw_law_458 : decode code 458 = .ok (.iaload, 1) := by decide +kernel
theorem dd_lw_law_459 : decode code 459 = .ok (.aload_n 0, 1) := by decide +kernel
theorem dd_lw_law_460 : decode code 460 = .ok (.iload 4, 2) := by decide +kernel
theorem dd_lw_law_462 : decode code 462 = .ok (.iconst 3, 1) := by decide +kernel
theorem dd_lw_law_463 : decode code 463 = .ok (.iadd, 1) := by decide +kernel
theorem dd_lw_law_464 : decode code 464 = .ok (.iaload, 1) := by decide +kernel
theorem dd_lw_law_465 : decode code 465 = .ok (.aload_n 0, 1) := by decide +kernel
theorem dd_lw_law_466 : decode code 466 = .ok (.iload 4, 2) := by decide +kernel
theorem dd_lw_law_468 : decode code 468 = .ok (.iconst 4, 1) := by decide +kernel
theorem dd_lw_law_469 : decode code 469 = .ok (.iadd, 1) := by decide +kernel
theorem dd_lw_law_470 : decode code 470 = .ok (.iaload, 1) := by decide +kernel
theorem dd_lw_law_471 : decode code 471 = .ok (.aload_n 3, 1) := by decide +kernel
theorem dd_lw_law_472 : decode code 472 = .ok (.invokestatic 114, 3) := by decide +kernel
theorem dd_lw_law_475 : decode code 475 = .ok (.istore 5, 2) := by decide +kernel
theorem dd_lw_law_477 : decode code 477 = .ok (.aload_n 2, 1) := by decide +kernel
theorem dd_lw_law_478 : decode code 478 = .ok (.aload_n 0, 1) := by decide +kernel
theorem dd_lw_law_479 : decode code 479 = .ok (.iload 4, 2) := by decide +kernel
theorem dd_lw_law_481 : decode code 481 = .ok (.iconst 1, 1) := by decide +kernel
theorem dd_lw_law_482 : decode code 482 = .ok (.iadd, 1) := by decide +kernel
theorem dd_lw_law_483 : decode code 483 = .ok (.iaload, 1) := by decide +kernel
theorem dd_lw_law_484 : decode code 484 = .ok (.aload_n 0, 1) := by decide +kernel
theorem dd_lw_law_485 : decode code 485 = .ok (.iload 4, 2) := by decide +kernel
theorem dd_lw_law_487 : decode code 487 = .ok (.iconst 2, 1) := by decide +kernel
theorem dd_lw_law_488 : decode code 488 = .ok (.iadd, 1) := by decide +kernel
theorem dd_lw_law_489 : decode code 489 = .ok (.iaload, 1) := by decide +kernel
theorem dd_lw_law_490 : decode code 490 = .ok (.aload_n 0, 1) := by decide +kernel
theorem dd_lw_law_491 : decode code 491 = .ok (.iload 4, 2) := by decide +kernel
theorem dd_lw_law_493 : decode code 493 = .ok (.iconst 3, 1) := by decide +kernel
theorem dd_lw_law_494 : decode code 494 = .ok (.iadd, 1) := by decide +kernel
theorem dd_lw_law_495 : decode code 495 = .ok (.iaload, 1) := by decide +kernel
theorem dd_lw_law_496 : decode code 496 = .ok (.aload_n 0, 1) := by decide +kernel
theorem dd_lw_law_497 : decode code 497 = .ok (.iload 4, 2) := by decide +kernel
theorem dd_lw_law_499 : decode code 499 = .ok (.iconst 4, 1) := by decide +kernel
theorem dd_lw_law_500 : decode code 500 = .ok (.iadd, 1) := by decide +kernel
theorem dd_lw_law_501 : decode code 501 = .ok (.iaload, 1) := by decide +kernel
theorem dd_lw_law_502 : decode code 502 = .ok (.invokevirtual 117, 3) := by decide +kernel
theorem dd_lw_law_505 : decode code 505 = .ok (.istore 6, 2) := by decide +kernel
theorem dd_lw_law_507 : decode code 507 = .ok (.aload_n 2, 1) := by decide +kernel
theorem dd_lw_law_508 : decode code 508 = .ok (.invokevirtual 97, 3) := by decide +kernel
theorem dd_lw_law_511 : decode code 511 = .ok (.iload 5, 2) := by decide +kernel
theorem dd_lw_law_513 : decode code 513 = .ok (.if_icmp .eq 5, 3) := by decide +kernel
theorem dd_lw_law_516 : decode code 516 = .ok (.iconst 0, 1) := by decide +kernel
theorem dd_lw_law_517 : decode code 517 = .ok (.ireturn, 1) := by decide +kernel
theorem dd_lw_law_518 : decode code 518 = .ok (.iload 5, 2) := by decide +kernel
theorem dd_lw_law_520 : decode code 520 = .ok (.ifCond .ne 15, 3) := by decide +kernel
theorem dd_lw_law_523 : decode code 523 = .ok (.aload_n 3, 1) := by decide +kernel
theorem dd_lw_law_524 : decode code 524 = .ok (.iconst 0, 1) := by decide +kernel
theorem dd_lw_law_525 : decode code 525 = .ok (.laload, 1) := by decide +kernel
theorem dd_lw_law_526 : decode code 526 = .ok (.iload 6, 2) := by decide +kernel
theorem dd_lw_law_528 : decode code 528 = .ok (.i2l, 1) := by decide +kernel
theorem dd_lw_law_529 : decode code 529 = .ok (.lcmp, 1) := by decide +kernel
theorem dd_lw_law_530 : decode code 530 = .ok (.ifCond .eq 5, 3) := by decide +kernel
theorem dd_lw_law_533 : decode code 533 = .ok (.iconst 0, 1) := by decide +kernel
theorem dd_lw_law_534 : decode code 534 = .ok (.ireturn, 1) := by decide +kernel
theorem dd_lw_law_535 : decode code 535 = .ok (.goto 1000, 3) := by decide +kernel
theorem dd_lw_law_538 : decode code 538 = .ok (.aload_n 1, 1) := by decide +kernel
theorem dd_lw_law_539 : decode code 539 = .ok (.aload_n 0, 1) := by decide +kernel
theorem dd_lw_law_540 : decode code 540 = .ok (.iload 4, 2) := by decide +kernel
theorem dd_lw_law_542 : decode code 542 = .ok (.iconst 1, 1) := by decide +kernel
theorem dd_lw_law_543 : decode code 543 = .ok (.iadd, 1) := by decide +kernel
theorem dd_lw_law_544 : decode code 544 = .ok (.iaload, 1) := by decide +kernel
theorem dd_lw_law_545 : decode code 545 = .ok (.aload_n 0, 1) := by decide +kernel
theorem dd_lw_law_546 : decode code 546 = .ok (.iload 4, 2) := by decide +kernel
theorem dd_lw_law_548 : decode code 548 = .ok (.iconst 2, 1) := by decide +kernel
theorem dd_lw_law_549 : decode code 549 = .ok (.iadd, 1) := by decide +kernel
theorem dd_lw_law_550 : decode code 550 = .ok (.iaload, 1) := by decide +kernel
theorem dd_lw_law_551 : decode code 551 = .ok (.aload_n 3, 1) := by decide +kernel
theorem dd_lw_law_552 : decode code 552 = .ok (.invokestatic 118, 3) := by decide +kernel
theorem dd_lw_law_555 : decode code 555 = .ok (.istore 5, 2) := by decide +kernel
theorem dd_lw_law_557 : decode code 557 = .ok (.aload_n 2, 1) := by decide +kernel
theorem dd_lw_law_558 : decode code 558 = .ok (.aload_n 0, 1) := by decide +kernel
theorem dd_lw_law_559 : decode code 559 = .ok (.iload 4, 2) := by decide +kernel
theorem dd_lw_law_561 : decode code 561 = .ok (.iconst 1, 1) := by decide +kernel
theorem dd_lw_law_562 : decode code 562 = .ok (.iadd, 1) := by decide +kernel
theorem dd_lw_law_563 : decode code 563 = .ok (.iaload, 1) := by decide +kernel
theorem dd_lw_law_564 : decode code 564 = .ok (.aload_n 0, 1) := by decide +kernel
theorem dd_lw_law_565 : decode code 565 = .ok (.iload 4, 2) := by decide +kernel
theorem dd_lw_law_567 : decode code 567 = .ok (.iconst 2, 1) := by decide +kernel
theorem dd_lw_law_568 : decode code 568 = .ok (.iadd, 1) := by decide +kernel
theorem dd_lw_law_569 : decode code 569 = .ok (.iaload, 1) := by decide +kernel
theorem dd_lw_law_570 : decode code 570 = .ok (.invokevirtual 120, 3) := by decide +kernel
theorem dd_lw_law_573 : decode code 573 = .ok (.istore 6, 2) := by decide +kernel
theorem dd_lw_law_575 : decode code 575 = .ok (.aload_n 2, 1) := by decide +kernel
theorem dd_lw_law_576 : decode code 576 = .ok (.invokevirtual 97, 3) := by decide +kernel
theorem dd_lw_law_579 : decode code 579 = .ok (.iload 5, 2) := by decide +kernel
theorem dd_lw_law_581 : decode code 581 = .ok (.if_icmp .eq 5, 3) := by decide +kernel
theorem dd_lw_law_584 : decode code 584 = .ok (.iconst 0, 1) := by decide +kernel
theorem dd_lw_law_585 : decode code 585 = .ok (.ireturn, 1) := by decide +kernel
theorem dd_lw_law_586 : decode code 586 = .ok (.iload 5, 2) := by decide +kernel
theorem dd_lw_law_588 : decode code 588 = .ok (.ifCond .ne 15, 3) := by decide +kernel
theorem dd_lw_law_591 : decode code 591 = .ok (.aload_n 3, 1) := by decide +kernel
theorem dd_lw_law_592 : decode code 592 = .ok (.iconst 0, 1) := by decide +kernel
theorem dd_lw_law_593 : decode code 593 = .ok (.laload, 1) := by decide +kernel
theorem dd_lw_law_594 : decode code 594 = .ok (.iload 6, 2) := by decide +kernel
theorem dd_lw_law_596 : decode code 596 = .ok (.i2l, 1) := by decide +kernel
theorem dd_lw_law_597 : decode code 597 = .ok (.lcmp, 1) := by decide +kernel
theorem dd_lw_law_598 : decode code 598 = .ok (.ifCond .eq 5, 3) := by decide +kernel
theorem dd_lw_law_601 : decode code 601 = .ok (.iconst 0, 1) := by decide +kernel
theorem dd_lw_law_602 : decode code 602 = .ok (.ireturn, 1) := by decide +kernel
theorem dd_lw_law_603 : decode code 603 = .ok (.goto 932, 3) := by decide +kernel
theorem dd_lw_law_606 : decode code 606 = .ok (.aload_n 1, 1) := by decide +kernel
theorem dd_lw_law_607 : decode code 607 = .ok (.aload_n 0, 1) := by decide +kernel
theorem dd_lw_law_608 : decode code 608 = .ok (.iload 4, 2) := by decide +kernel
theorem dd_lw_law_610 : decode code 610 = .ok (.iconst 1, 1) := by decide +kernel
theorem dd_lw_law_611 : decode code 611 = .ok (.iadd, 1) := by decide +kernel
theorem dd_lw_law_612 : decode code 612 = .ok (.iaload, 1) := by decide +kernel
theorem dd_lw_law_613 : decode code 613 = .ok (.aload_n 0, 1) := by decide +kernel
theorem dd_lw_law_614 : decode code 614 = .ok (.iload 4, 2) := by decide +kernel
theorem dd_lw_law_616 : decode code 616 = .ok (.iconst 2, 1) := by decide +kernel
theorem dd_lw_law_617 : decode code 617 = .ok (.iadd, 1) := by decide +kernel
theorem dd_lw_law_618 : decode code 618 = .ok (.iaload, 1) := by decide +kernel
theorem dd_lw_law_619 : decode code 619 = .ok (.aload_n 3, 1) := by decide +kernel
theorem dd_lw_law_620 : decode code 620 = .ok (.invokestatic 121, 3) := by decide +kernel
theorem dd_lw_law_623 : decode code 623 = .ok (.istore 5, 2) := by decide +kernel
theorem dd_lw_law_625 : decode code 625 = .ok (.aload_n 2, 1) := by decide +kernel
theorem dd_lw_law_626 : decode code 626 = .ok (.aload_n 0, 1) := by decide +kernel
theorem dd_lw_law_627 : decode code 627 = .ok (.iload 4, 2) := by decide +kernel
theorem dd_lw_law_629 : decode code 629 = .ok (.iconst 1, 1) := by decide +kernel
theorem dd_lw_law_630 : decode code 630 = .ok (.iadd, 1) := by decide +kernel
theorem dd_lw_law_631 : decode code 631 = .ok (.iaload, 1) := by decide +kernel
theorem dd_lw_law_632 : decode code 632 = .ok (.aload_n 0, 1) := by decide +kernel
theorem dd_lw_law_633 : decode code 633 = .ok (.iload 4, 2) := by decide +kernel
theorem dd_lw_law_635 : decode code 635 = .ok (.iconst 2, 1) := by decide +kernel
theorem dd_lw_law_636 : decode code 636 = .ok (.iadd, 1) := by decide +kernel
theorem dd_lw_law_637 : decode code 637 = .ok (.iaload, 1) := by decide +kernel
theorem dd_lw_law_638 : decode code 638 = .ok (.invokevirtual 123, 3) := by decide +kernel
theorem dd_lw_law_641 : decode code 641 = .ok (.istore 6, 2) := by decide +kernel
theorem dd_lw_law_643 : decode code 643 = .ok (.aload_n 2, 1) := by decide +kernel
theorem dd_lw_law_644 : decode code 644 = .ok (.invokevirtual 97, 3) := by decide +kernel
theorem dd_lw_law_647 : decode code 647 = .ok (.iload 5, 2) := by decide +kernel
theorem dd_lw_law_649 : decode code 649 = .ok (.if_icmp .eq 5, 3) := by decide +kernel
theorem dd_lw_law_652 : decode code 652 = .ok (.iconst 0, 1) := by decide +kernel
theorem dd_lw_law_653 : decode code 653 = .ok (.ireturn, 1) := by decide +kernel
theorem dd_lw_law_654 : decode code 654 = .ok (.iload 5, 2) := by decide +kernel
theorem dd_lw_law_656 : decode code 656 = .ok (.ifCond .ne 22, 3) := by decide +kernel
theorem dd_lw_law_659 : decode code 659 = .ok (.aload_n 3, 1) := by decide +kernel
theorem dd_lw_law_660 : decode code 660 = .ok (.iconst 0, 1) := by decide +kernel
theorem dd_lw_law_661 : decode code 661 = .ok (.laload, 1) := by decide +kernel
theorem dd_lw_law_662 : decode code 662 = .ok (.iload 6, 2) := by decide +kernel
theorem dd_lw_law_664 : decode code 664 = .ok (.ifCond .eq 7, 3) := by decide +kernel
theorem dd_lw_law_667 : decode code 667 = .ok (.lconst 1, 1) := by decide +kernel
theorem dd_lw_law_668 : decode code 668 = .ok (.goto 4, 3) := by decide +kernel
theorem dd_lw_law_671 : decode code 671 = .ok (.lconst 0, 1) := by decide +kernel
theorem dd_lw_law_672 : decode code 672 = .ok (.lcmp, 1) := by decide +kernel
theorem dd_lw_law_673 : decode code 673 = .ok (.ifCond .eq 5, 3) := by decide +kernel
theorem dd_lw_law_676 : decode code 676 = .ok (.iconst 0, 1) := by decide +kernel
theorem dd_lw_law_677 : decode code 677 = .ok (.ireturn, 1) := by decide +kernel
theorem dd_lw_law_678 : decode code 678 = .ok (.goto 857, 3) := by decide +kernel
theorem dd_lw_law_681 : decode code 681 = .ok (.aload_n 1, 1) := by decide +kernel
theorem dd_lw_law_682 : decode code 682 = .ok (.aload_n 0, 1) := by decide +kernel
theorem dd_lw_law_683 : decode code 683 = .ok (.iload 4, 2) := by decide +kernel
theorem dd_lw_law_685 : decode code 685 = .ok (.iconst 1, 1) := by decide +kernel
theorem dd_lw_law_686 : decode code 686 = .ok (.iadd, 1) := by decide +kernel
theorem dd_lw_law_687 : decode code 687 = .ok (.iaload, 1) := by decide +kernel
theorem dd_lw_law_688 : decode code 688 = .ok (.aload_n 0, 1) := by decide +kernel
theorem dd_lw_law_689 : decode code 689 = .ok (.iload 4, 2) := by decide +kernel
theorem dd_lw_law_691 : decode code 691 = .ok (.iconst 2, 1) := by decide +kernel
theorem dd_lw_law_692 : decode code 692 = .ok (.iadd, 1) := by decide +kernel
theorem dd_lw_law_693 : decode code 693 = .ok (.iaload, 1) := by decide +kernel
theorem dd_lw_law_694 : decode code 694 = .ok (.aload_n 3, 1) := by decide +kernel
theorem dd_lw_law_695 : decode code 695 = .ok (.invokestatic 124, 3) := by decide +kernel
theorem dd_lw_law_698 : decode code 698 = .ok (.istore 5, 2) := by decide +kernel
theorem dd_lw_law_700 : decode code 700 = .ok (.aload_n 2, 1) := by decide +kernel
theorem dd_lw_law_701 : decode code 701 = .ok (.aload_n 0, 1) := by decide +kernel
theorem dd_lw_law_702 : decode code 702 = .ok (.iload 4, 2) := by decide +kernel
theorem dd_lw_law_704 : decode code 704 = .ok (.iconst 1, 1) := by decide +kernel
theorem dd_lw_law_705 : decode code 705 = .ok (.iadd, 1) := by decide +kernel
theorem dd_lw_law_706 : decode code 706 = .ok (.iaload, 1) := by decide +kernel
theorem dd_lw_law_707 : decode code 707 = .ok (.aload_n 0, 1) := by decide +kernel
theorem dd_lw_law_708 : decode code 708 = .ok (.iload 4, 2) := by decide +kernel
theorem dd_lw_law_710 : decode code 710 = .ok (.iconst 2, 1) := by decide +kernel
theorem dd_lw_law_711 : decode code 711 = .ok (.iadd, 1) := by decide +kernel
theorem dd_lw_law_712 : decode code 712 = .ok (.iaload, 1) := by decide +kernel
theorem dd_lw_law_713 : decode code 713 = .ok (.invokevirtual 126, 3) := by decide +kernel
theorem dd_lw_law_716 : decode code 716 = .ok (.istore 6, 2) := by decide +kernel
theorem dd_lw_law_718 : decode code 718 = .ok (.aload_n 2, 1) := by decide +kernel
theorem dd_lw_law_719 : decode code 719 = .ok (.invokevirtual 97, 3) := by decide +kernel
theorem dd_lw_law_722 : decode code 722 = .ok (.iload 5, 2) := by decide +kernel
theorem dd_lw_law_724 : decode code 724 = .ok (.if_icmp .eq 5, 3) := by decide +kernel
theorem dd_lw_law_727 : decode code 727 = .ok (.iconst 0, 1) := by decide +kernel
theorem dd_lw_law_728 : decode code 728 = .ok (.ireturn, 1) := by decide +kernel
theorem dd_lw_law_729 : decode code 729 = .ok (.iload 5, 2) := by decide +kernel
theorem dd_lw_law_731 : decode code 731 = .ok (.ifCond .ne 22, 3) := by decide +kernel
theorem dd_lw_law_734 : decode code 734 = .ok (.aload_n 3, 1) := by decide +kernel
theorem dd_lw_law_735 : decode code 735 = .ok (.iconst 0, 1) := by decide +kernel
theorem dd_lw_law_736 : decode code 736 = .ok (.laload, 1) := by decide +kernel
theorem dd_lw_law_737 : decode code 737 = .ok (.iload 6, 2) := by decide +kernel
theorem dd_lw_law_739 : decode code 739 = .ok (.ifCond .eq 7, 3) := by decide +kernel
theorem dd_lw_law_742 : decode code 742 = .ok (.lconst 1, 1) := by decide +kernel
theorem dd_lw_law_743 : decode code 743 = .ok (.goto 4, 3) := by decide +kernel
theorem dd_lw_law_746 : decode code 746 = .ok (.lconst 0, 1) := by decide +kernel
theorem dd_lw_law_747 : decode code 747 = .ok (.lcmp, 1) := by decide +kernel
theorem dd_lw_law_748 : decode code 748 = .ok (.ifCond .eq 5, 3) := by decide +kernel
theorem dd_lw_law_751 : decode code 751 = .ok (.iconst 0, 1) := by decide +kernel
theorem dd_lw_law_752 : decode code 752 = .ok (.ireturn, 1) := by decide +kernel
theorem dd_lw_law_753 : decode code 753 = .ok (.goto 782, 3) := by decide +kernel
theorem dd_lw_law_756 : decode code 756 = .ok (.aload_n 1, 1) := by decide +kernel
theorem dd_lw_law_757 : decode code 757 = .ok (.aload_n 0, 1) := by decide +kernel
theorem dd_lw_law_758 : decode code 758 = .ok (.iload 4, 2) := by decide +kernel
theorem dd_lw_law_760 : decode code 760 = .ok (.iconst 1, 1) := by decide +kernel
theorem dd_lw_law_761 : decode code 761 = .ok (.iadd, 1) := by decide +kernel
theorem dd_lw_law_762 : decode code 762 = .ok (.iaload, 1) := by decide +kernel
theorem dd_lw_law_763 : decode code 763 = .ok (.aload_n 0, 1) := by decide +kernel
theorem dd_lw_law_764 : decode code 764 = .ok (.iload 4, 2) := by decide +kernel
theorem dd_lw_law_766 : decode code 766 = .ok (.iconst 2, 1) := by decide +kernel
theorem dd_lw_law_767 : decode code 767 = .ok (.iadd, 1) := by decide +kernel
theorem dd_lw_law_768 : decode code 768 = .ok (.iaload, 1) := by decide +kernel
theorem dd_lw_law_769 : decode code 769 = .ok (.aload_n 0, 1) := by decide +kernel
theorem dd_lw_law_770 : decode code 770 = .ok (.iload 4, 2) := by decide +kernel
theorem dd_lw_law_772 : decode code 772 = .ok (.iconst 3, 1) := by decide +kernel
theorem dd_lw_law_773 : decode code 773 = .ok (.iadd, 1) := by decide +kernel
theorem dd_lw_law_774 : decode code 774 = .ok (.iaload, 1) := by decide +kernel
theorem dd_lw_law_775 : decode code 775 = .ok (.aload_n 3, 1) := by decide +kernel
theorem dd_lw_law_776 : decode code 776 = .ok (.invokestatic 127, 3) := by decide +kernel
theorem dd_lw_law_779 : decode code 779 = .ok (.istore 5, 2) := by decide +kernel
theorem dd_lw_law_781 : decode code 781 = .ok (.aload_n 2, 1) := by decide +kernel
theorem dd_lw_law_782 : decode code 782 = .ok (.aload_n 0, 1) := by decide +kernel
theorem dd_lw_law_783 : decode code 783 = .ok (.iload 4, 2) := by decide +kernel
theorem dd_lw_law_785 : decode code 785 = .ok (.iconst 1, 1) := by decide +kernel
theorem dd_lw_law_786 : decode code 786 = .ok (.iadd, 1) := by decide +kernel
theorem dd_lw_law_787 : decode code 787 = .ok (.iaload, 1) := by decide +kernel
theorem dd_lw_law_788 : decode code 788 = .ok (.aload_n 0, 1) := by decide +kernel
theorem dd_lw_law_789 : decode code 789 = .ok (.iload 4, 2) := by decide +kernel
theorem dd_lw_law_791 : decode code 791 = .ok (.iconst 2, 1) := by decide +kernel
theorem dd_lw_law_792 : decode code 792 = .ok (.iadd, 1) := by decide +kernel
theorem dd_lw_law_793 : decode code 793 = .ok (.iaload, 1) := by decide +kernel
theorem dd_lw_law_794 : decode code 794 = .ok (.aload_n 0, 1) := by decide +kernel
theorem dd_lw_law_795 : decode code 795 = .ok (.iload 4, 2) := by decide +kernel
theorem dd_lw_law_797 : decode code 797 = .ok (.iconst 3, 1) := by decide +kernel
theorem dd_lw_law_798 : decode code 798 = .ok (.iadd, 1) := by decide +kernel
theorem dd_lw_law_799 : decode code 799 = .ok (.iaload, 1) := by decide +kernel
theorem dd_lw_law_800 : decode code 800 = .ok (.invokevirtual 130, 3) := by decide +kernel
theorem dd_lw_law_803 : decode code 803 = .ok (.istore 6, 2) := by decide +kernel
theorem dd_lw_law_805 : decode code 805 = .ok (.aload_n 2, 1) := by decide +kernel
theorem dd_lw_law_806 : decode code 806 = .ok (.invokevirtual 97, 3) := by decide +kernel
theorem dd_lw_law_809 : decode code 809 = .ok (.iload 5, 2) := by decide +kernel
theorem dd_lw_law_811 : decode code 811 = .ok (.if_icmp .eq 5, 3) := by decide +kernel
theorem dd_lw_law_814 : decode code 814 = .ok (.iconst 0, 1) := by decide +kernel
theorem dd_lw_law_815 : decode code 815 = .ok (.ireturn, 1) := by decide +kernel
theorem dd_lw_law_816 : decode code 816 = .ok (.iload 5, 2) := by decide +kernel
theorem dd_lw_law_818 : decode code 818 = .ok (.ifCond .ne 22, 3) := by decide +kernel
theorem dd_lw_law_821 : decode code 821 = .ok (.aload_n 3, 1) := by decide +kernel
theorem dd_lw_law_822 : decode code 822 = .ok (.iconst 0, 1) := by decide +kernel
theorem dd_lw_law_823 : decode code 823 = .ok (.laload, 1) := by decide +kernel
theorem dd_lw_law_824 : decode code 824 = .ok (.iload 6, 2) := by decide +kernel
theorem dd_lw_law_826 : decode code 826 = .ok (.ifCond .eq 7, 3) := by decide +kernel
theorem dd_lw_law_829 : decode code 829 = .ok (.lconst 1, 1) := by decide +kernel
theorem dd_lw_law_830 : decode code 830 = .ok (.goto 4, 3) := by decide +kernel
theorem dd_lw_law_833 : decode code 833 = .ok (.lconst 0, 1) := by decide +kernel
theorem dd_lw_law_834 : decode code 834 = .ok (.lcmp, 1) := by decide +kernel
theorem dd_lw_law_835 : decode code 835 = .ok (.ifCond .eq 5, 3) := by decide +kernel
theorem dd_lw_law_838 : decode code 838 = .ok (.iconst 0, 1) := by decide +kernel
theorem dd_lw_law_839 : decode code 839 = .ok (.ireturn, 1) := by decide +kernel
theorem dd_lw_law_840 : decode code 840 = .ok (.goto 695, 3) := by decide +kernel
theorem dd_lw_law_843 : decode code 843 = .ok (.aload_n 1, 1) := by decide +kernel
theorem dd_lw_law_844 : decode code 844 = .ok (.aload_n 0, 1) := by decide +kernel
theorem dd_lw_law_845 : decode code 845 = .ok (.iload 4, 2) := by decide +kernel
theorem dd_lw_law_847 : decode code 847 = .ok (.iconst 1, 1) := by decide +kernel
theorem dd_lw_law_848 : decode code 848 = .ok (.iadd, 1) := by decide +kernel
theorem dd_lw_law_849 : decode code 849 = .ok (.iaload, 1) := by decide +kernel
theorem dd_lw_law_850 : decode code 850 = .ok (.aload_n 0, 1) := by decide +kernel
theorem dd_lw_law_851 : decode code 851 = .ok (.iload 4, 2) := by decide +kernel
theorem dd_lw_law_853 : decode code 853 = .ok (.iconst 2, 1) := by decide +kernel
theorem dd_lw_law_854 : decode code 854 = .ok (.iadd, 1) := by decide +kernel
theorem dd_lw_law_855 : decode code 855 = .ok (.iaload, 1) := by decide +kernel
theorem dd_lw_law_856 : decode code 856 = .ok (.aload_n 0, 1) := by decide +kernel
theorem dd_lw_law_857 : decode code 857 = .ok (.iload 4, 2) := by decide +kernel
theorem dd_lw_law_859 : decode code 859 = .ok (.iconst 3, 1) := by decide +kernel
theorem dd_lw_law_860 : decode code 860 = .ok (.iadd, 1) := by decide +kernel
theorem dd_lw_law_861 : decode code 861 = .ok (.iaload, 1) := by decide +kernel
theorem dd_lw_law_862 : decode code 862 = .ok (.aload_n 3, 1) := by decide +kernel
theorem dd_lw_law_863 : decode code 863 = .ok (.invokestatic 131, 3) := by decide +kernel
theorem dd_lw_law_866 : decode code 866 = .ok (.istore 5, 2) := by decide +kernel
theorem dd_lw_law_868 : decode code 868 = .ok (.aload_n 2, 1) := by decide +kernel
theorem dd_lw_law_869 : decode code 869 = .ok (.aload_n 0, 1) := by decide +kernel
theorem dd_lw_law_870 : decode code 870 = .ok (.iload 4, 2) := by decide +kernel
theorem dd_lw_law_872 : decode code 872 = .ok (.iconst 1, 1) := by decide +kernel
theorem dd_lw_law_873 : decode code 873 = .ok (.iadd, 1) := by decide +kernel
theorem dd_lw_law_874 : decode code 874 = .ok (.iaload, 1) := by decide +kernel
theorem dd_lw_law_875 : decode code 875 = .ok (.aload_n 0, 1) := by decide +kernel
theorem dd_lw_law_876 : decode code 876 = .ok (.iload 4, 2) := by decide +kernel
theorem dd_lw_law_878 : decode code 878 = .ok (.iconst 2, 1) := by decide +kernel
theorem dd_lw_law_879 : decode code 879 = .ok (.iadd, 1) := by decide +kernel
theorem dd_lw_law_880 : decode code 880 = .ok (.iaload, 1) := by decide +kernel
theorem dd_lw_law_881 : decode code 881 = .ok (.aload_n 0, 1) := by decide +kernel
theorem dd_lw_law_882 : decode code 882 = .ok (.iload 4, 2) := by decide +kernel
theorem dd_lw_law_884 : decode code 884 = .ok (.iconst 3, 1) := by decide +kernel
theorem dd_lw_law_885 : decode code 885 = .ok (.iadd, 1) := by decide +kernel
theorem dd_lw_law_886 : decode code 886 = .ok (.iaload, 1) := by decide +kernel
theorem dd_lw_law_887 : decode code 887 = .ok (.invokevirtual 133, 3) := by decide +kernel
theorem dd_lw_law_890 : decode code 890 = .ok (.istore 6, 2) := by decide +kernel
theorem dd_lw_law_892 : decode code 892 = .ok (.aload_n 2, 1) := by decide +kernel
theorem dd_lw_law_893 : decode code 893 = .ok (.invokevirtual 97, 3) := by decide +kernel
theorem dd_lw_law_896 : decode code 896 = .ok (.iload 5, 2) := by decide +kernel
theorem dd_lw_law_898 : decode code 898 = .ok (.if_icmp .eq 5, 3) := by decide +kernel
theorem dd_lw_law_901 : decode code 901 = .ok (.iconst 0, 1) := by decide +kernel
theorem dd_lw_law_902 : decode code 902 = .ok (.ireturn, 1) := by decide +kernel
theorem dd_lw_law_903 : decode code 903 = .ok (.iload 5, 2) := by decide +kernel
theorem dd_lw_law_905 : decode code 905 = .ok (.ifCond .ne 22, 3) := by decide +kernel
theorem dd_lw_law_908 : decode code 908 = .ok (.aload_n 3, 1) := by decide +kernel
theorem dd_lw_law_909 : decode code 909 = .ok (.iconst 0, 1) := by decide +kernel
theorem dd_lw_law_910 : decode code 910 = .ok (.laload, 1) := by decide +kernel
theorem dd_lw_law_911 : decode code 911 = .ok (.iload 6, 2) := by decide +kernel
theorem dd_lw_law_913 : decode code 913 = .ok (.ifCond .eq 7, 3) := by decide +kernel
theorem dd_lw_law_916 : decode code 916 = .ok (.lconst 1, 1) := by decide +kernel
theorem dd_lw_law_917 : decode code 917 = .ok (.goto 4, 3) := by decide +kernel
theorem dd_lw_law_920 : decode code 920 = .ok (.lconst 0, 1) := by decide +kernel
theorem dd_lw_law_921 : decode code 921 = .ok (.lcmp, 1) := by decide +kernel
theorem dd_lw_law_922 : decode code 922 = .ok (.ifCond .eq 5, 3) := by decide +kernel
theorem dd_lw_law_925 : decode code 925 = .ok (.iconst 0, 1) := by decide +kernel
theorem dd_lw_law_926 : decode code 926 = .ok (.ireturn, 1) := by decide +kernel
theorem dd_lw_law_927 : decode code 927 = .ok (.goto 608, 3) := by decide +kernel
theorem dd_lw_law_930 : decode code 930 = .ok (.aload_n 1, 1) := by decide +kernel
theorem dd_lw_law_931 : decode code 931 = .ok (.aload_n 0, 1) := by decide +kernel
theorem dd_lw_law_932 : decode code 932 = .ok (.iload 4, 2) := by decide +kernel
theorem dd_lw_law_934 : decode code 934 = .ok (.iconst 1, 1) := by decide +kernel
theorem dd_lw_law_935 : decode code 935 = .ok (.iadd, 1) := by decide +kernel
theorem dd_lw_law_936 : decode code 936 = .ok (.iaload, 1) := by decide +kernel
theorem dd_lw_law_937 : decode code 937 = .ok (.aload_n 0, 1) := by decide +kernel
theorem dd_lw_law_938 : decode code 938 = .ok (.iload 4, 2) := by decide +kernel
theorem dd_lw_law_940 : decode code 940 = .ok (.iconst 2, 1) := by decide +kernel
theorem dd_lw_law_941 : decode code 941 = .ok (.iadd, 1) := by decide +kernel
theorem dd_lw_law_942 : decode code 942 = .ok (.iaload, 1) := by decide +kernel
theorem dd_lw_law_943 : decode code 943 = .ok (.ifCond .eq 7, 3) := by decide +kernel
theorem dd_lw_law_946 : decode code 946 = .ok (.iconst 1, 1) := by decide +kernel
theorem dd_lw_law_947 : decode code 947 = .ok (.goto 4, 3) := by decide +kernel
theorem dd_lw_law_950 : decode code 950 = .ok (.iconst 0, 1) := by decide +kernel
theorem dd_lw_law_951 : decode code 951 = .ok (.aload_n 3, 1) := by decide +kernel
theorem dd_lw_law_952 : decode code 952 = .ok (.invokestatic 134, 3) := by decide +kernel
theorem dd_lw_law_955 : decode code 955 = .ok (.istore 5, 2) := by decide +kernel
theorem dd_lw_law_957 : decode code 957 = .ok (.aload_n 2, 1) := by decide +kernel
theorem dd_lw_law_958 : decode code 958 = .ok (.aload_n 0, 1) := by decide +kernel
theorem dd_lw_law_959 : decode code 959 = .ok (.iload 4, 2) := by decide +kernel
theorem dd_lw_law_961 : decode code 961 = .ok (.iconst 1, 1) := by decide +kernel
theorem dd_lw_law_962 : decode code 962 = .ok (.iadd, 1) := by decide +kernel
theorem dd_lw_law_963 : decode code 963 = .ok (.iaload, 1) := by decide +kernel
theorem dd_lw_law_964 : decode code 964 = .ok (.aload_n 0, 1) := by decide +kernel
theorem dd_lw_law_965 : decode code 965 = .ok (.iload 4, 2) := by decide +kernel
theorem dd_lw_law_967 : decode code 967 = .ok (.iconst 2, 1) := by decide +kernel
theorem dd_lw_law_968 : decode code 968 = .ok (.iadd, 1) := by decide +kernel
theorem dd_lw_law_969 : decode code 969 = .ok (.iaload, 1) := by decide +kernel
theorem dd_lw_law_970 : decode code 970 = .ok (.ifCond .eq 7, 3) := by decide +kernel
theorem dd_lw_law_973 : decode code 973 = .ok (.iconst 1, 1) := by decide +kernel
theorem dd_lw_law_974 : decode code 974 = .ok (.goto 4, 3) := by decide +kernel
theorem dd_lw_law_977 : decode code 977 = .ok (.iconst 0, 1) := by decide +kernel
theorem dd_lw_law_978 : decode code 978 = .ok (.invokevirtual 137, 3) := by decide +kernel
theorem dd_lw_law_981 : decode code 981 = .ok (.istore 6, 2) := by decide +kernel
theorem dd_lw_law_983 : decode code 983 = .ok (.aload_n 2, 1) := by decide +kernel
theorem dd_lw_law_984 : decode code 984 = .ok (.invokevirtual 97, 3) := by decide +kernel
theorem dd_lw_law_987 : decode code 987 = .ok (.iload 5, 2) := by decide +kernel
theorem dd_lw_law_989 : decode code 989 = .ok (.if_icmp .eq 5, 3) := by decide +kernel
theorem dd_lw_law_992 : decode code 992 = .ok (.iconst 0, 1) := by decide +kernel
theorem dd_lw_law_993 : decode code 993 = .ok (.ireturn, 1) := by decide +kernel
theorem dd_lw_law_994 : decode code 994 = .ok (.iload 5, 2) := by decide +kernel
theorem dd_lw_law_996 : decode code 996 = .ok (.ifCond .ne 15, 3) := by decide +kernel
theorem dd_lw_law_999 : decode code 999 = .ok (.aload_n 3, 1) := by decide +kernel
theorem dd_lw_law_1000 : decode code 1000 = .ok (.iconst 0, 1) := by decide +kernel
theorem dd_lw_law_1001 : decode code 1001 = .ok (.laload, 1) := by decide +kernel
theorem dd_lw_law_1002 : decode code 1002 = .ok (.iload 6, 2) := by decide +kernel
theorem dd_lw_law_1004 : decode code 1004 = .ok (.i2l, 1) := by decide +kernel
theorem dd_lw_law_1005 : decode code 1005 = .ok (.lcmp, 1) := by decide +kernel
theorem dd_lw_law_1006 : decode code 1006 = .ok (.ifCond .eq 5, 3) := by decide +kernel
theorem dd_lw_law_1009 : decode code 1009 = .ok (.iconst 0, 1) := by decide +kernel
theorem dd_lw_law_1010 : decode code 1010 = .ok (.ireturn, 1) := by decide +kernel
theorem dd_lw_law_1011 : decode code 1011 = .ok (.goto 524, 3) := by decide +kernel
theorem dd_lw_law_1014 : decode code 1014 = .ok (.aload_n 1, 1) := by decide +kernel
theorem dd_lw_law_1015 : decode code 1015 = .ok (.aload_n 0, 1) := by decide +kernel
theorem dd_lw_law_1016 : decode code 1016 = .ok (.iload 4, 2) := by decide +kernel
theorem dd_lw_law_1018 : decode code 1018 = .ok (.iconst 1, 1) := by decide +kernel
theorem dd_lw_law_1019 : decode code 1019 = .ok (.iadd, 1) := by decide +kernel
theorem dd_lw_law_1020 : decode code 1020 = .ok (.iaload, 1) := by decide +kernel
theorem dd_lw_law_1021 : decode code 1021 = .ok (.aload_n 3, 1) := by decide +kernel
theorem dd_lw_law_1022 : decode code 1022 = .ok (.invokestatic 138, 3) := by decide +kernel
theorem dd_lw_law_1025 : decode code 1025 = .ok (.istore 5, 2) := by decide +kernel
theorem dd_lw_law_1027 : decode code 1027 = .ok (.aload_n 2, 1) := by decide +kernel
theorem dd_lw_law_1028 : decode code 1028 = .ok (.aload_n 0, 1) := by decide +kernel
theorem dd_lw_law_1029 : decode code 1029 = .ok (.iload 4, 2) := by decide +kernel
theorem dd_lw_law_1031 : decode code 1031 = .ok (.iconst 1, 1) := by decide +kernel
theorem dd_lw_law_1032 : decode code 1032 = .ok (.iadd, 1) := by decide +kernel
theorem dd_lw_law_1033 : decode code 1033 = .ok (.iaload, 1) := by decide +kernel
theorem dd_lw_law_1034 : decode code 1034 = .ok (.invokevirtual 141, 3) := by decide +kernel
theorem dd_lw_law_1037 : decode code 1037 = .ok (.istore 6, 2) := by decide +kernel
theorem dd_lw_law_1039 : decode code 1039 = .ok (.aload_n 2, 1) := by decide +kernel
theorem dd_lw_law_1040 : decode code 1040 = .ok (.invokevirtual 97, 3) := by decide +kernel
theorem dd_lw_law_1043 : decode code 1043 = .ok (.iload 5, 2) := by decide +kernel
theorem dd_lw_law_1045 : decode code 1045 = .ok (.if_icmp .eq 5, 3) := by decide +kernel
theorem dd_lw_law_1048 : decode code 1048 = .ok (.iconst 0, 1) := by decide +kernel
theorem dd_lw_law_1049 : decode code 1049 = .ok (.ireturn, 1) := by decide +kernel
theorem dd_lw_law_1050 : decode code 1050 = .ok (.iload 5, 2) := by decide +kernel
theorem dd_lw_law_1052 : decode code 1052 = .ok (.ifCond .ne 15, 3) := by decide +kernel
theorem dd_lw_law_1055 : decode code 1055 = .ok (.aload_n 3, 1) := by decide +kernel
theorem dd_lw_law_1056 : decode code 1056 = .ok (.iconst 0, 1) := by decide +kernel
theorem dd_lw_law_1057 : decode code 1057 = .ok (.laload, 1) := by decide +kernel
theorem dd_lw_law_1058 : decode code 1058 = .ok (.iload 6, 2) := by decide +kernel
theorem dd_lw_law_1060 : decode code 1060 = .ok (.i2l, 1) := by decide +kernel
theorem dd_lw_law_1061 : decode code 1061 = .ok (.lcmp, 1) := by decide +kernel
theorem dd_lw_law_1062 : decode code 1062 = .ok (.ifCond .eq 5, 3) := by decide +kernel
theorem dd_lw_law_1065 : decode code 1065 = .ok (.iconst 0, 1) := by decide +kernel
theorem dd_lw_law_1066 : decode code 1066 = .ok (.ireturn, 1) := by decide +kernel
theorem dd_lw_law_1067 : decode code 1067 = .ok (.goto 468, 3) := by decide +kernel
theorem dd_lw_law_1070 : decode code 1070 = .ok (.aload_n 1, 1) := by decide +kernel
theorem dd_lw_law_1071 : decode code 1071 = .ok (.aload_n 0, 1) := by decide +kernel
theorem dd_lw_law_1072 : decode code 1072 = .ok (.iload 4, 2) := by decide +kernel
theorem dd_lw_law_1074 : decode code 1074 = .ok (.iconst 1, 1) := by decide +kernel
theorem dd_lw_law_1075 : decode code 1075 = .ok (.iadd, 1) := by decide +kernel
theorem dd_lw_law_1076 : decode code 1076 = .ok (.iaload, 1) := by decide +kernel
theorem dd_lw_law_1077 : decode code 1077 = .ok (.invokestatic 142, 3) := by decide +kernel
theorem dd_lw_law_1080 : decode code 1080 = .ok (.istore 5, 2) := by decide +kernel
theorem dd_lw_law_1082 : decode code 1082 = .ok (.aload_n 2, 1) := by decide +kernel
theorem dd_lw_law_1083 : decode code 1083 = .ok (.aload_n 0, 1) := by decide +kernel
theorem dd_lw_law_1084 : decode code 1084 = .ok (.iload 4, 2) := by decide +kernel
theorem dd_lw_law_1086 : decode code 1086 = .ok (.iconst 1, 1) := by decide +kernel
theorem dd_lw_law_1087 : decode code 1087 = .ok (.iadd, 1) := by decide +kernel
theorem dd_lw_law_1088 : decode code 1088 = .ok (.iaload, 1) := by decide +kernel
theorem dd_lw_law_1089 : decode code 1089 = .ok (.invokevirtual 145, 3) := by decide +kernel
theorem dd_lw_law_1092 : decode code 1092 = .ok (.aload_n 2, 1) := by decide +kernel
theorem dd_lw_law_1093 : decode code 1093 = .ok (.invokevirtual 97, 3) := by decide +kernel
theorem dd_lw_law_1096 : decode code 1096 = .ok (.iload 5, 2) := by decide +kernel
theorem dd_lw_law_1098 : decode code 1098 = .ok (.if_icmp .eq 5, 3) := by decide +kernel
theorem dd_lw_law_1101 : decode code 1101 = .ok (.iconst 0, 1) := by decide +kernel
theorem dd_lw_law_1102 : decode code 1102 = .ok (.ireturn, 1) := by decide +kernel
theorem dd_lw_law_1103 : decode code 1103 = .ok (.goto 432, 3) := by decide +kernel
theorem dd_lw_law_1106 : decode code 1106 = .ok (.aload_n 1, 1) := by decide +kernel
theorem dd_lw_law_1107 : decode code 1107 = .ok (.aload_n 0, 1) := by decide +kernel
theorem dd_lw_law_1108 : decode code 1108 = .ok (.iload 4, 2) := by decide +kernel
theorem dd_lw_law_1110 : decode code 1110 = .ok (.iconst 1, 1) := by decide +kernel
theorem dd_lw_law_1111 : decode code 1111 = .ok (.iadd, 1) := by decide +kernel
theorem dd_lw_law_1112 : decode code 1112 = .ok (.iaload, 1) := by decide +kernel
theorem dd_lw_law_1113 : decode code 1113 = .ok (.aload_n 0, 1) := by decide +kernel
theorem dd_lw_law_1114 : decode code 1114 = .ok (.iload 4, 2) := by decide +kernel
theorem dd_lw_law_1116 : decode code 1116 = .ok (.iconst 2, 1) := by decide +kernel
theorem dd_lw_law_1117 : decode code 1117 = .ok (.iadd, 1) := by decide +kernel
theorem dd_lw_law_1118 : decode code 1118 = .ok (.iaload, 1) := by decide +kernel
theorem dd_lw_law_1119 : decode code 1119 = .ok (.aload_n 3, 1) := by decide +kernel
theorem dd_lw_law_1120 : decode code 1120 = .ok (.invokestatic 146, 3) := by decide +kernel
theorem dd_lw_law_1123 : decode code 1123 = .ok (.istore 5, 2) := by decide +kernel
theorem dd_lw_law_1125 : decode code 1125 = .ok (.aload_n 2, 1) := by decide +kernel
theorem dd_lw_law_1126 : decode code 1126 = .ok (.aload_n 0, 1) := by decide +kernel
theorem dd_lw_law_1127 : decode code 1127 = .ok (.iload 4, 2) := by decide +kernel
theorem dd_lw_law_1129 : decode code 1129 = .ok (.iconst 1, 1) := by decide +kernel
theorem dd_lw_law_1130 : decode code 1130 = .ok (.iadd, 1) := by decide +kernel
theorem dd_lw_law_1131 : decode code 1131 = .ok (.iaload, 1) := by decide +kernel
theorem dd_lw_law_1132 : decode code 1132 = .ok (.aload_n 0, 1) := by decide +kernel
theorem dd_lw_law_1133 : decode code 1133 = .ok (.iload 4, 2) := by decide +kernel
theorem dd_lw_law_1135 : decode code 1135 = .ok (.iconst 2, 1) := by decide +kernel
theorem dd_lw_law_1136 : decode code 1136 = .ok (.iadd, 1) := by decide +kernel
theorem dd_lw_law_1137 : decode code 1137 = .ok (.iaload, 1) := by decide +kernel
theorem dd_lw_law_1138 : decode code 1138 = .ok (.invokevirtual 148, 3) := by decide +kernel
theorem dd_lw_law_1141 : decode code 1141 = .ok (.istore 6, 2) := by decide +kernel
theorem dd_lw_law_1143 : decode code 1143 = .ok (.aload_n 2, 1) := by decide +kernel
theorem dd_lw_law_1144 : decode code 1144 = .ok (.invokevirtual 97, 3) := by decide +kernel
theorem dd_lw_law_1147 : decode code 1147 = .ok (.iload 5, 2) := by decide +kernel
theorem dd_lw_law_1149 : decode code 1149 = .ok (.if_icmp .eq 5, 3) := by decide +kernel
theorem dd_lw_law_1152 : decode code 1152 = .ok (.iconst 0, 1) := by decide +kernel
theorem dd_lw_law_1153 : decode code 1153 = .ok (.ireturn, 1) := by decide +kernel
theorem dd_lw_law_1154 : decode code 1154 = .ok (.iload 5, 2) := by decide +kernel
theorem dd_lw_law_1156 : decode code 1156 = .ok (.ifCond .ne 22, 3) := by decide +kernel
theorem dd_lw_law_1159 : decode code 1159 = .ok (.aload_n 3, 1) := by decide +kernel
theorem dd_lw_law_1160 : decode code 1160 = .ok (.iconst 0, 1) := by decide +kernel
theorem dd_lw_law_1161 : decode code 1161 = .ok (.laload, 1) := by decide +kernel
theorem dd_lw_law_1162 : decode code 1162 = .ok (.iload 6, 2) := by decide +kernel
theorem dd_lw_law_1164 : decode code 1164 = .ok (.ifCond .eq 7, 3) := by decide +kernel
theorem dd_lw_law_1167 : decode code 1167 = .ok (.lconst 1, 1) := by decide +kernel
theorem dd_lw_law_1168 : decode code 1168 = .ok (.goto 4, 3) := by decide +kernel
theorem dd_lw_law_1171 : decode code 1171 = .ok (.lconst 0, 1) := by decide +kernel
theorem dd_lw_law_1172 : decode code 1172 = .ok (.lcmp, 1) := by decide +kernel
theorem dd_lw_law_1173 : decode code 1173 = .ok (.ifCond .eq 5, 3) := by decide +kernel
theorem dd_lw_law_1176 : decode code 1176 = .ok (.iconst 0, 1) := by decide +kernel
theorem dd_lw_law_1177 : decode code 1177 = .ok (.ireturn, 1) := by decide +kernel
theorem dd_lw_law_1178 : decode code 1178 = .ok (.goto 357, 3) := by decide +kernel
theorem dd_lw_law_1181 : decode code 1181 = .ok (.aload_n 1, 1) := by decide +kernel
theorem dd_lw_law_1182 : decode code 1182 = .ok (.aload_n 0, 1) := by decide +kernel
theorem dd_lw_law_1183 : decode code 1183 = .ok (.iload 4, 2) := by decide +kernel
theorem dd_lw_law_1185 : decode code 1185 = .ok (.iconst 1, 1) := by decide +kernel
theorem dd_lw_law_1186 : decode code 1186 = .ok (.iadd, 1) := by decide +kernel
theorem dd_lw_law_1187 : decode code 1187 = .ok (.iaload, 1) := by decide +kernel
theorem dd_lw_law_1188 : decode code 1188 = .ok (.aload_n 0, 1) := by decide +kernel
theorem dd_lw_law_1189 : decode code 1189 = .ok (.iload 4, 2) := by decide +kernel
theorem dd_lw_law_1191 : decode code 1191 = .ok (.iconst 2, 1) := by decide +kernel
theorem dd_lw_law_1192 : decode code 1192 = .ok (.iadd, 1) := by decide +kernel
theorem dd_lw_law_1193 : decode code 1193 = .ok (.iaload, 1) := by decide +kernel
theorem dd_lw_law_1194 : decode code 1194 = .ok (.aload_n 3, 1) := by decide +kernel
theorem dd_lw_law_1195 : decode code 1195 = .ok (.invokestatic 149, 3) := by decide +kernel
theorem dd_lw_law_1198 : decode code 1198 = .ok (.istore 5, 2) := by decide +kernel
theorem dd_lw_law_1200 : decode code 1200 = .ok (.aload_n 2, 1) := by decide +kernel
theorem dd_lw_law_1201 : decode code 1201 = .ok (.aload_n 0, 1) := by decide +kernel
theorem dd_lw_law_1202 : decode code 1202 = .ok (.iload 4, 2) := by decide +kernel
theorem dd_lw_law_1204 : decode code 1204 = .ok (.iconst 1, 1) := by decide +kernel
theorem dd_lw_law_1205 : decode code 1205 = .ok (.iadd, 1) := by decide +kernel
theorem dd_lw_law_1206 : decode code 1206 = .ok (.iaload, 1) := by decide +kernel
theorem dd_lw_law_1207 : decode code 1207 = .ok (.aload_n 0, 1) := by decide +kernel
theorem dd_lw_law_1208 : decode code 1208 = .ok (.iload 4, 2) := by decide +kernel
theorem dd_lw_law_1210 : decode code 1210 = .ok (.iconst 2, 1) := by decide +kernel
theorem dd_lw_law_1211 : decode code 1211 = .ok (.iadd, 1) := by decide +kernel
theorem dd_lw_law_1212 : decode code 1212 = .ok (.iaload, 1) := by decide +kernel
theorem dd_lw_law_1213 : decode code 1213 = .ok (.invokevirtual 151, 3) := by decide +kernel
theorem dd_lw_law_1216 : decode code 1216 = .ok (.istore 6, 2) := by decide +kernel
theorem dd_lw_law_1218 : decode code 1218 = .ok (.aload_n 2, 1) := by decide +kernel
theorem dd_lw_law_1219 : decode code 1219 = .ok (.invokevirtual 97, 3) := by decide +kernel
theorem dd_lw_law_1222 : decode code 1222 = .ok (.iload 5, 2) := by decide +kernel
theorem dd_lw_law_1224 : decode code 1224 = .ok (.if_icmp .eq 5, 3) := by decide +kernel
theorem dd_lw_law_1227 : decode code 1227 = .ok (.iconst 0, 1) := by decide +kernel
theorem dd_lw_law_1228 : decode code 1228 = .ok (.ireturn, 1) := by decide +kernel
theorem dd_lw_law_1229 : decode code 1229 = .ok (.iload 5, 2) := by decide +kernel
theorem dd_lw_law_1231 : decode code 1231 = .ok (.ifCond .ne 22, 3) := by decide +kernel
theorem dd_lw_law_1234 : decode code 1234 = .ok (.aload_n 3, 1) := by decide +kernel
theorem dd_lw_law_1235 : decode code 1235 = .ok (.iconst 0, 1) := by decide +kernel
theorem dd_lw_law_1236 : decode code 1236 = .ok (.laload, 1) := by decide +kernel
theorem dd_lw_law_1237 : decode code 1237 = .ok (.iload 6, 2) := by decide +kernel
theorem dd_lw_law_1239 : decode code 1239 = .ok (.ifCond .eq 7, 3) := by decide +kernel
theorem dd_lw_law_1242 : decode code 1242 = .ok (.lconst 1, 1) := by decide +kernel
theorem dd_lw_law_1243 : decode code 1243 = .ok (.goto 4, 3) := by decide +kernel
theorem dd_lw_law_1246 : decode code 1246 = .ok (.lconst 0, 1) := by decide +kernel
theorem dd_lw_law_1247 : decode code 1247 = .ok (.lcmp, 1) := by decide +kernel
theorem dd_lw_law_1248 : decode code 1248 = .ok (.ifCond .eq 5, 3) := by decide +kernel
theorem dd_lw_law_1251 : decode code 1251 = .ok (.iconst 0, 1) := by decide +kernel
theorem dd_lw_law_1252 : decode code 1252 = .ok (.ireturn, 1) := by decide +kernel
theorem dd_lw_law_1253 : decode code 1253 = .ok (.goto 282, 3) := by decide +kernel
theorem dd_lw_law_1256 : decode code 1256 = .ok (.aload_n 1, 1) := by decide +kernel
theorem dd_lw_law_1257 : decode code 1257 = .ok (.aload_n 0, 1) := by decide +kernel
theorem dd_lw_law_1258 : decode code 1258 = .ok (.iload 4, 2) := by decide +kernel
theorem dd_lw_law_1260 : decode code 1260 = .ok (.iconst 1, 1) := by decide +kernel
theorem dd_lw_law_1261 : decode code 1261 = .ok (.iadd, 1) := by decide +kernel
theorem dd_lw_law_1262 : decode code 1262 = .ok (.iaload, 1) := by decide +kernel
theorem dd_lw_law_1263 : decode code 1263 = .ok (.aload_n 3, 1) := by decide +kernel
theorem dd_lw_law_1264 : decode code 1264 = .ok (.invokestatic 152, 3) := by decide +kernel
theorem dd_lw_law_1267 : decode code 1267 = .ok (.istore 5, 2) := by decide +kernel
theorem dd_lw_law_1269 : decode code 1269 = .ok (.aload_n 2, 1) := by decide +kernel
theorem dd_lw_law_1270 : decode code 1270 = .ok (.aload_n 0, 1) := by decide +kernel
theorem dd_lw_law_1271 : decode code 1271 = .ok (.iload 4, 2) := by decide +kernel
theorem dd_lw_law_1273 : decode code 1273 = .ok (.iconst 1, 1) := by decide +kernel
theorem dd_lw_law_1274 : decode code 1274 = .ok (.iadd, 1) := by decide +kernel
theorem dd_lw_law_1275 : decode code 1275 = .ok (.iaload, 1) := by decide +kernel
theorem dd_lw_law_1276 : decode code 1276 = .ok (.invokevirtual 154, 3) := by decide +kernel
theorem dd_lw_law_1279 : decode code 1279 = .ok (.istore 6, 2) := by decide +kernel
theorem dd_lw_law_1281 : decode code 1281 = .ok (.aload_n 2, 1) := by decide +kernel
theorem dd_lw_law_1282 : decode code 1282 = .ok (.invokevirtual 97, 3) := by decide +kernel
theorem dd_lw_law_1285 : decode code 1285 = .ok (.iload 5, 2) := by decide +kernel
theorem dd_lw_law_1287 : decode code 1287 = .ok (.if_icmp .eq 5, 3) := by decide +kernel
theorem dd_lw_law_1290 : decode code 1290 = .ok (.iconst 0, 1) := by decide +kernel
theorem dd_lw_law_1291 : decode code 1291 = .ok (.ireturn, 1) := by decide +kernel
theorem dd_lw_law_1292 : decode code 1292 = .ok (.iload 5, 2) := by decide +kernel
theorem dd_lw_law_1294 : decode code 1294 = .ok (.ifCond .ne 15, 3) := by decide +kernel
theorem dd_lw_law_1297 : decode code 1297 = .ok (.aload_n 3, 1) := by decide +kernel
theorem dd_lw_law_1298 : decode code 1298 = .ok (.iconst 0, 1) := by decide +kernel
theorem dd_lw_law_1299 : decode code 1299 = .ok (.laload, 1) := by decide +kernel
theorem dd_lw_law_1300 : decode code 1300 = .ok (.iload 6, 2) := by decide +kernel
theorem dd_lw_law_1302 : decode code 1302 = .ok (.i2l, 1) := by decide +kernel
theorem dd_lw_law_1303 : decode code 1303 = .ok (.lcmp, 1) := by decide +kernel
theorem dd_lw_law_1304 : decode code 1304 = .ok (.ifCond .eq 5, 3) := by decide +kernel
theorem dd_lw_law_1307 : decode code 1307 = .ok (.iconst 0, 1) := by decide +kernel
theorem dd_lw_law_1308 : decode code 1308 = .ok (.ireturn, 1) := by decide +kernel
theorem dd_lw_law_1309 : decode code 1309 = .ok (.goto 226, 3) := by decide +kernel
theorem dd_lw_law_1312 : decode code 1312 = .ok (.aload_n 1, 1) := by decide +kernel
theorem dd_lw_law_1313 : decode code 1313 = .ok (.aload_n 0, 1) := by decide +kernel
theorem dd_lw_law_1314 : decode code 1314 = .ok (.iload 4, 2) := by decide +kernel
theorem dd_lw_law_1316 : decode code 1316 = .ok (.iconst 1, 1) := by decide +kernel
theorem dd_lw_law_1317 : decode code 1317 = .ok (.iadd, 1) := by decide +kernel
theorem dd_lw_law_1318 : decode code 1318 = .ok (.iaload, 1) := by decide +kernel
theorem dd_lw_law_1319 : decode code 1319 = .ok (.aload_n 0, 1) := by decide +kernel
theorem dd_lw_law_1320 : decode code 1320 = .ok (.iload 4, 2) := by decide +kernel
theorem dd_lw_law_1322 : decode code 1322 = .ok (.iconst 2, 1) := by decide +kernel
theorem dd_lw_law_1323 : decode code 1323 = .ok (.iadd, 1) := by decide +kernel
theorem dd_lw_law_1324 : decode code 1324 = .ok (.iaload, 1) := by decide +kernel
theorem dd_lw_law_1325 : decode code 1325 = .ok (.aload_n 3, 1) := by decide +kernel
theorem dd_lw_law_1326 : decode code 1326 = .ok (.invokestatic 155, 3) := by decide +kernel
theorem dd_lw_law_1329 : decode code 1329 = .ok (.istore 5, 2) := by decide +kernel
theorem dd_lw_law_1331 : decode code 1331 = .ok (.aload_n 2, 1) := by decide +kernel
theorem dd_lw_law_1332 : decode code 1332 = .ok (.aload_n 0, 1) := by decide +kernel
theorem dd_lw_law_1333 : decode code 1333 = .ok (.iload 4, 2) := by decide +kernel
theorem dd_lw_law_1335 : decode code 1335 = .ok (.iconst 1, 1) := by decide +kernel
theorem dd_lw_law_1336 : decode code 1336 = .ok (.iadd, 1) := by decide +kernel
theorem dd_lw_law_1337 : decode code 1337 = .ok (.iaload, 1) := by decide +kernel
theorem dd_lw_law_1338 : decode code 1338 = .ok (.aload_n 0, 1) := by decide +kernel
theorem dd_lw_law_1339 : decode code 1339 = .ok (.iload 4, 2) := by decide +kernel
theorem dd_lw_law_1341 : decode code 1341 = .ok (.iconst 2, 1) := by decide +kernel
theorem dd_lw_law_1342 : decode code 1342 = .ok (.iadd, 1) := by decide +kernel
theorem dd_lw_law_1343 : decode code 1343 = .ok (.iaload, 1) := by decide +kernel
theorem dd_lw_law_1344 : decode code 1344 = .ok (.invokevirtual 157, 3) := by decide +kernel
theorem dd_lw_law_1347 : decode code 1347 = .ok (.istore 6, 2) := by decide +kernel
theorem dd_lw_law_1349 : decode code 1349 = .ok (.aload_n 2, 1) := by decide +kernel
theorem dd_lw_law_1350 : decode code 1350 = .ok (.invokevirtual 97, 3) := by decide +kernel
theorem dd_lw_law_1353 : decode code 1353 = .ok (.iload 5, 2) := by decide +kernel
theorem dd_lw_law_1355 : decode code 1355 = .ok (.if_icmp .eq 5, 3) := by decide +kernel
theorem dd_lw_law_1358 : decode code 1358 = .ok (.iconst 0, 1) := by decide +kernel
theorem dd_lw_law_1359 : decode code 1359 = .ok (.ireturn, 1) := by decide +kernel
theorem dd_lw_law_1360 : decode code 1360 = .ok (.iload 5, 2) := by decide +kernel
theorem dd_lw_law_1362 : decode code 1362 = .ok (.ifCond .ne 22, 3) := by decide +kernel
theorem dd_lw_law_1365 : decode code 1365 = .ok (.aload_n 3, 1) := by decide +kernel
theorem dd_lw_law_1366 : decode code 1366 = .ok (.iconst 0, 1) := by decide +kernel
theorem dd_lw_law_1367 : decode code 1367 = .ok (.laload, 1) := by decide +kernel
theorem dd_lw_law_1368 : decode code 1368 = .ok (.iload 6, 2) := by decide +kernel
theorem dd_lw_law_1370 : decode code 1370 = .ok (.ifCond .eq 7, 3) := by decide +kernel
theorem dd_lw_law_1373 : decode code 1373 = .ok (.lconst 1, 1) := by decide +kernel
theorem dd_lw_law_1374 : decode code 1374 = .ok (.goto 4, 3) := by decide +kernel
theorem dd_lw_law_1377 : decode code 1377 = .ok (.lconst 0, 1) := by decide +kernel
theorem dd_lw_law_1378 : decode code 1378 = .ok (.lcmp, 1) := by decide +kernel
theorem dd_lw_law_1379 : decode code 1379 = .ok (.ifCond .eq 5, 3) := by decide +kernel
theorem dd_lw_law_1382 : decode code 1382 = .ok (.iconst 0, 1) := by decide +kernel
theorem dd_lw_law_1383 : decode code 1383 = .ok (.ireturn, 1) := by decide +kernel
theorem dd_lw_law_1384 : decode code 1384 = .ok (.goto 151, 3) := by decide +kernel
theorem dd_lw_law_1387 : decode code 1387 = .ok (.aload_n 1, 1) := by decide +kernel
theorem dd_lw_law_1388 : decode code 1388 = .ok (.aload_n 0, 1) := by decide +kernel
theorem dd_lw_law_1389 : decode code 1389 = .ok (.iload 4, 2) := by decide +kernel
theorem dd_lw_law_1391 : decode code 1391 = .ok (.iconst 1, 1) := by decide +kernel
theorem dd_lw_law_1392 : decode code 1392 = .ok (.iadd, 1) := by decide +kernel
theorem dd_lw_law_1393 : decode code 1393 = .ok (.iaload, 1) := by decide +kernel
theorem dd_lw_law_1394 : decode code 1394 = .ok (.aload_n 0, 1) := by decide +kernel
theorem dd_lw_law_1395 : decode code 1395 = .ok (.iload 4, 2) := by decide +kernel
theorem dd_lw_law_1397 : decode code 1397 = .ok (.iconst 2, 1) := by decide +kernel
theorem dd_lw_law_1398 : decode code 1398 = .ok (.iadd, 1) := by decide +kernel
theorem dd_lw_law_1399 : decode code 1399 = .ok (.iaload, 1) := by decide +kernel
theorem dd_lw_law_1400 : decode code 1400 = .ok (.aload_n 3, 1) := by decide +kernel
theorem dd_lw_law_1401 : decode code 1401 = .ok (.invokestatic 158, 3) := by decide +kernel
theorem dd_lw_law_1404 : decode code 1404 = .ok (.istore 5, 2) := by decide +kernel
theorem dd_lw_law_1406 : decode code 1406 = .ok (.aload_n 2, 1) := by decide +kernel
theorem dd_lw_law_1407 : decode code 1407 = .ok (.aload_n 0, 1) := by decide +kernel
theorem dd_lw_law_1408 : decode code 1408 = .ok (.iload 4, 2) := by decide +kernel
theorem dd_lw_law_1410 : decode code 1410 = .ok (.iconst 1, 1) := by decide +kernel
theorem dd_lw_law_1411 : decode code 1411 = .ok (.iadd, 1) := by decide +kernel
theorem dd_lw_law_1412 : decode code 1412 = .ok (.iaload, 1) := by decide +kernel
theorem dd_lw_law_1413 : decode code 1413 = .ok (.aload_n 0, 1) := by decide +kernel
theorem dd_lw_law_1414 : decode code 1414 = .ok (.iload 4, 2) := by decide +kernel
theorem dd_lw_law_1416 : decode code 1416 = .ok (.iconst 2, 1) := by decide +kernel
theorem dd_lw_law_1417 : decode code 1417 = .ok (.iadd, 1) := by decide +kernel
theorem dd_lw_law_1418 : decode code 1418 = .ok (.iaload, 1) := by decide +kernel
theorem dd_lw_law_1419 : decode code 1419 = .ok (.invokevirtual 160, 3) := by decide +kernel
theorem dd_lw_law_1422 : decode code 1422 = .ok (.istore 6, 2) := by decide +kernel
theorem dd_lw_law_1424 : decode code 1424 = .ok (.aload_n 2, 1) := by decide +kernel
theorem dd_lw_law_1425 : decode code 1425 = .ok (.invokevirtual 97, 3) := by decide +kernel
theorem dd_lw_law_1428 : decode code 1428 = .ok (.iload 5, 2) := by decide +kernel
theorem dd_lw_law_1430 : decode code 1430 = .ok (.if_icmp .eq 5, 3) := by decide +kernel
theorem dd_lw_law_1433 : decode code 1433 = .ok (.iconst 0, 1) := by decide +kernel
theorem dd_lw_law_1434 : decode code 1434 = .ok (.ireturn, 1) := by decide +kernel
theorem dd_lw_law_1435 : decode code 1435 = .ok (.iload 5, 2) := by decide +kernel
theorem dd_lw_law_1437 : decode code 1437 = .ok (.ifCond .ne 15, 3) := by decide +kernel
theorem dd_lw_law_1440 : decode code 1440 = .ok (.aload_n 3, 1) := by decide +kernel
theorem dd_lw_law_1441 : decode code 1441 = .ok (.iconst 0, 1) := by decide +kernel
theorem dd_lw_law_1442 : decode code 1442 = .ok (.laload, 1) := by decide +kernel
theorem dd_lw_law_1443 : decode code 1443 = .ok (.iload 6, 2) := by decide +kernel
theorem dd_lw_law_1445 : decode code 1445 = .ok (.i2l, 1) := by decide +kernel
theorem dd_lw_law_1446 : decode code 1446 = .ok (.lcmp, 1) := by decide +kernel
theorem dd_lw_law_1447 : decode code 1447 = .ok (.ifCond .eq 5, 3) := by decide +kernel
theorem dd_lw_law_1450 : decode code 1450 = .ok (.iconst 0, 1) := by decide +kernel
theorem dd_lw_law_1451 : decode code 1451 = .ok (.ireturn, 1) := by decide +kernel
theorem dd_lw_law_1452 : decode code 1452 = .ok (.goto 83, 3) := by decide +kernel
theorem dd_lw_law_1455 : decode code 1455 = .ok (.aload_n 1, 1) := by decide +kernel
theorem dd_lw_law_1456 : decode code 1456 = .ok (.aload_n 0, 1) := by decide +kernel
theorem dd_lw_law_1457 : decode code 1457 = .ok (.iload 4, 2) := by decide +kernel
theorem dd_lw_law_1459 : decode code 1459 = .ok (.iconst 1, 1) := by decide +kernel
theorem dd_lw_law_1460 : decode code 1460 = .ok (.iadd, 1) := by decide +kernel
theorem dd_lw_law_1461 : decode code 1461 = .ok (.iaload, 1) := by decide +kernel
theorem dd_lw_law_1462 : decode code 1462 = .ok (.aload_n 0, 1) := by decide +kernel
theorem dd_lw_law_1463 : decode code 1463 = .ok (.iload 4, 2) := by decide +kernel
theorem dd_lw_law_1465 : decode code 1465 = .ok (.iconst 2, 1) := by decide +kernel
theorem dd_lw_law_1466 : decode code 1466 = .ok (.iadd, 1) := by decide +kernel
theorem dd_lw_law_1467 : decode code 1467 = .ok (.iaload, 1) := by decide +kernel
theorem dd_lw_law_1468 : decode code 1468 = .ok (.aload_n 0, 1) := by decide +kernel
theorem dd_lw_law_1469 : decode code 1469 = .ok (.iload 4, 2) := by decide +kernel
theorem dd_lw_law_1471 : decode code 1471 = .ok (.iconst 3, 1) := by decide +kernel
theorem dd_lw_law_1472 : decode code 1472 = .ok (.iadd, 1) := by decide +kernel
theorem dd_lw_law_1473 : decode code 1473 = .ok (.iaload, 1) := by decide +kernel
theorem dd_lw_law_1474 : decode code 1474 = .ok (.aload_n 3, 1) := by decide +kernel
theorem dd_lw_law_1475 : decode code 1475 = .ok (.invokestatic 161, 3) := by decide +kernel
theorem dd_lw_law_1478 : decode code 1478 = .ok (.istore 5, 2) := by decide +kernel
theorem dd_lw_law_1480 : decode code 1480 = .ok (.aload_n 2, 1) := by decide +kernel
theorem dd_lw_law_1481 : decode code 1481 = .ok (.aload_n 0, 1) := by decide +kernel
theorem dd_lw_law_1482 : decode code 1482 = .ok (.iload 4, 2) := by decide +kernel
theorem dd_lw_law_1484 : decode code 1484 = .ok (.iconst 1, 1) := by decide +kernel
theorem dd_lw_law_1485 : decode code 1485 = .ok (.iadd, 1) := by decide +kernel
theorem dd_lw_law_1486 : decode code 1486 = .ok (.iaload, 1) := by decide +kernel
theorem dd_lw_law_1487 : decode code 1487 = .ok (.aload_n 0, 1) := by decide +kernel
theorem dd_lw_law_1488 : decode code 1488 = .ok (.iload 4, 2) := by decide +kernel
theorem dd_lw_law_1490 : decode code 1490 = .ok (.iconst 2, 1) := by decide +kernel
theorem dd_lw_law_1491 : decode code 1491 = .ok (.iadd, 1) := by decide +kernel
theorem dd_lw_law_1492 : decode code 1492 = .ok (.iaload, 1) := by decide +kernel
theorem dd_lw_law_1493 : decode code 1493 = .ok (.aload_n 0, 1) := by decide +kernel
theorem dd_lw_law_1494 : decode code 1494 = .ok (.iload 4, 2) := by decide +kernel
theorem dd_lw_law_1496 : decode code 1496 = .ok (.iconst 3, 1) := by decide +kernel
theorem dd_lw_law_1497 : decode code 1497 = .ok (.iadd, 1) := by decide +kernel
theorem dd_lw_law_1498 : decode code 1498 = .ok (.iaload, 1) := by decide +kernel
theorem dd_lw_law_1499 : decode code 1499 = .ok (.invokevirtual 163, 3) := by decide +kernel
theorem dd_lw_law_1502 : decode code 1502 = .ok (.istore 6, 2) := by decide +kernel
theorem dd_lw_law_1504 : decode code 1504 = .ok (.aload_n 2, 1) := by decide +kernel
theorem dd_lw_law_1505 : decode code 1505 = .ok (.invokevirtual 97, 3) := by decide +kernel
theorem dd_lw_law_1508 : decode code 1508 = .ok (.iload 5, 2) := by decide +kernel
theorem dd_lw_law_1510 : decode code 1510 = .ok (.if_icmp .eq 5, 3) := by decide +kernel
theorem dd_lw_law_1513 : decode code 1513 = .ok (.iconst 0, 1) := by decide +kernel
theorem dd_lw_law_1514 : decode code 1514 = .ok (.ireturn, 1) := by decide +kernel
theorem dd_lw_law_1515 : decode code 1515 = .ok (.iload 5, 2) := by decide +kernel
theorem dd_lw_law_1517 : decode code 1517 = .ok (.ifCond .ne 15, 3) := by decide +kernel
theorem dd_lw_law_1520 : decode code 1520 = .ok (.aload_n 3, 1) := by decide +kernel
theorem dd_lw_law_1521 : decode code 1521 = .ok (.iconst 0, 1) := by decide +kernel
theorem dd_lw_law_1522 : decode code 1522 = .ok (.laload, 1) := by decide +kernel
theorem dd_lw_law_1523 : decode code 1523 = .ok (.iload 6, 2) := by decide +kernel
theorem dd_lw_law_1525 : decode code 1525 = .ok (.i2l, 1) := by decide +kernel
theorem dd_lw_law_1526 : decode code 1526 = .ok (.lcmp, 1) := by decide +kernel
theorem dd_lw_law_1527 : decode code 1527 = .ok (.ifCond .eq 5, 3) := by decide +kernel
theorem dd_lw_law_1530 : decode code 1530 = .ok (.iconst 0, 1) := by decide +kernel
theorem dd_lw_law_1531 : decode code 1531 = .ok (.ireturn, 1) := by decide +kernel
theorem dd_lw_law_1532 : decode code 1532 = .ok (.goto 3, 3) := by decide +kernel
theorem dd_lw_law_1535 : decode code 1535 = .ok (.iinc 4 5, 3) := by decide +kernel
theorem dd_lw_law_1538 : decode code 1538 = .ok (.goto (-1515), 3) := by decide +kernel
theorem dd_lw_law_1541 : decode code 1541 = .ok (.iconst 1, 1) := by decide +kernel
theorem dd_lw_law_1542 : decode code 1542 = .ok (.ireturn, 1) := by decide +kernel
