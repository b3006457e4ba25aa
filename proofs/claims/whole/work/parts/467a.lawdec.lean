/-! the law's instructions -/
theorem ld_0 : decode code 0 = .ok (.new 7, 3) := by decide +kernel
theorem ld_3 : decode code 3 = .ok (.dup, 1) := by decide +kernel
theorem ld_4 : decode code 4 = .ok (.invokespecial 9, 3) := by decide +kernel
theorem ld_7 : decode code 7 = .ok (.astore_n 1, 1) := by decide +kernel
theorem ld_8 : decode code 8 = .ok (.new 10, 3) := by decide +kernel
theorem ld_11 : decode code 11 = .ok (.dup, 1) := by decide +kernel
theorem ld_12 : decode code 12 = .ok (.invokespecial 12, 3) := by decide +kernel
theorem ld_15 : decode code 15 = .ok (.astore_n 2, 1) := by decide +kernel
theorem ld_16 : decode code 16 = .ok (.iconst 0, 1) := by decide +kernel
theorem ld_17 : decode code 17 = .ok (.istore_n 3, 1) := by decide +kernel
theorem ld_18 : decode code 18 = .ok (.iload_n 3, 1) := by decide +kernel
theorem ld_19 : decode code 19 = .ok (.aload_n 0, 1) := by decide +kernel
theorem ld_20 : decode code 20 = .ok (.arraylength, 1) := by decide +kernel
theorem ld_21 : decode code 21 = .ok (.bipush 6, 2) := by decide +kernel
theorem ld_23 : decode code 23 = .ok (.isub, 1) := by decide +kernel
theorem ld_24 : decode code 24 = .ok (.if_icmp .gt 866, 3) := by decide +kernel
theorem ld_27 : decode code 27 = .ok (.aload_n 0, 1) := by decide +kernel
theorem ld_28 : decode code 28 = .ok (.iload_n 3, 1) := by decide +kernel
theorem ld_29 : decode code 29 = .ok (.iaload, 1) := by decide +kernel
theorem ld_30 : decode code 30 = .ok (.bipush 31, 2) := by decide +kernel
theorem ld_32 : decode code 32 = .ok (.iand, 1) := by decide +kernel
theorem ld_33 : decode code 33 = .ok (.tableswitch 851 0 27 #[127, 150, 163, 176, 189, 222, 255, 288, 301, 344, 377, 400, 463, 476, 509, 522, 555, 578, 591, 614, 647, 670, 693, 706, 739, 782, 815, 828], 127) := by decide +kernel
theorem ld_160 : decode code 160 = .ok (.aload_n 1, 1) := by decide +kernel
theorem ld_161 : decode code 161 = .ok (.aload_n 0, 1) := by decide +kernel
theorem ld_162 : decode code 162 = .ok (.iload_n 3, 1) := by decide +kernel
theorem ld_163 : decode code 163 = .ok (.iconst 1, 1) := by decide +kernel
theorem ld_164 : decode code 164 = .ok (.iadd, 1) := by decide +kernel
theorem ld_165 : decode code 165 = .ok (.iaload, 1) := by decide +kernel
theorem ld_166 : decode code 166 = .ok (.invokevirtual 13, 3) := by decide +kernel
theorem ld_169 : decode code 169 = .ok (.aload_n 2, 1) := by decide +kernel
theorem ld_170 : decode code 170 = .ok (.aload_n 0, 1) := by decide +kernel
theorem ld_171 : decode code 171 = .ok (.iload_n 3, 1) := by decide +kernel
theorem ld_172 : decode code 172 = .ok (.iconst 1, 1) := by decide +kernel
theorem ld_173 : decode code 173 = .ok (.iadd, 1) := by decide +kernel
theorem ld_174 : decode code 174 = .ok (.iaload, 1) := by decide +kernel
theorem ld_175 : decode code 175 = .ok (.invokevirtual 17, 3) := by decide +kernel
theorem ld_178 : decode code 178 = .ok (.if_icmp .eq 706, 3) := by decide +kernel
theorem ld_181 : decode code 181 = .ok (.iconst 0, 1) := by decide +kernel
theorem ld_182 : decode code 182 = .ok (.ireturn, 1) := by decide +kernel
theorem ld_183 : decode code 183 = .ok (.aload_n 1, 1) := by decide +kernel
theorem ld_184 : decode code 184 = .ok (.invokevirtual 18, 3) := by decide +kernel
theorem ld_187 : decode code 187 = .ok (.aload_n 2, 1) := by decide +kernel
theorem ld_188 : decode code 188 = .ok (.invokevirtual 22, 3) := by decide +kernel
theorem ld_191 : decode code 191 = .ok (.if_icmp .eq 693, 3) := by decide +kernel
theorem ld_194 : decode code 194 = .ok (.iconst 0, 1) := by decide +kernel
theorem ld_195 : decode code 195 = .ok (.ireturn, 1) := by decide +kernel
theorem ld_196 : decode code 196 = .ok (.aload_n 1, 1) := by decide +kernel
theorem ld_197 : decode code 197 = .ok (.invokevirtual 23, 3) := by decide +kernel
theorem ld_200 : decode code 200 = .ok (.aload_n 2, 1) := by decide +kernel
theorem ld_201 : decode code 201 = .ok (.invokevirtual 26, 3) := by decide +kernel
theorem ld_204 : decode code 204 = .ok (.if_icmp .eq 680, 3) := by decide +kernel
theorem ld_207 : decode code 207 = .ok (.iconst 0, 1) := by decide +kernel
theorem ld_208 : decode code 208 = .ok (.ireturn, 1) := by decide +kernel
theorem ld_209 : decode code 209 = .ok (.aload_n 1, 1) := by decide +kernel
theorem ld_210 : decode code 210 = .ok (.invokevirtual 27, 3) := by decide +kernel
theorem ld_213 : decode code 213 = .ok (.aload_n 2, 1) := by decide +kernel
theorem ld_214 : decode code 214 = .ok (.invokevirtual 30, 3) := by decide +kernel
theorem ld_217 : decode code 217 = .ok (.if_icmp .eq 667, 3) := by decide +kernel
theorem ld_220 : decode code 220 = .ok (.iconst 0, 1) := by decide +kernel
theorem ld_221 : decode code 221 = .ok (.ireturn, 1) := by decide +kernel
theorem ld_222 : decode code 222 = .ok (.aload_n 1, 1) := by decide +kernel
theorem ld_223 : decode code 223 = .ok (.aload_n 0, 1) := by decide +kernel
theorem ld_224 : decode code 224 = .ok (.iload_n 3, 1) := by decide +kernel
theorem ld_225 : decode code 225 = .ok (.iconst 1, 1) := by decide +kernel
theorem ld_226 : decode code 226 = .ok (.iadd, 1) := by decide +kernel
theorem ld_227 : decode code 227 = .ok (.iaload, 1) := by decide +kernel
theorem ld_228 : decode code 228 = .ok (.aload_n 0, 1) := by decide +kernel
theorem ld_229 : decode code 229 = .ok (.iload_n 3, 1) := by decide +kernel
theorem ld_230 : decode code 230 = .ok (.iconst 2, 1) := by decide +kernel
theorem ld_231 : decode code 231 = .ok (.iadd, 1) := by decide +kernel
theorem ld_232 : decode code 232 = .ok (.iaload, 1) := by decide +kernel
theorem ld_233 : decode code 233 = .ok (.invokevirtual 31, 3) := by decide +kernel
theorem ld_236 : decode code 236 = .ok (.aload_n 2, 1) := by decide +kernel
theorem ld_237 : decode code 237 = .ok (.aload_n 0, 1) := by decide +kernel
theorem ld_238 : decode code 238 = .ok (.iload_n 3, 1) := by decide +kernel
theorem ld_239 : decode code 239 = .ok (.iconst 1, 1) := by decide +kernel
theorem ld_240 : decode code 240 = .ok (.iadd, 1) := by decide +kernel
theorem ld_241 : decode code 241 = .ok (.iaload, 1) := by decide +kernel
theorem ld_242 : decode code 242 = .ok (.aload_n 0, 1) := by decide +kernel
theorem ld_243 : decode code 243 = .ok (.iload_n 3, 1) := by decide +kernel
theorem ld_244 : decode code 244 = .ok (.iconst 2, 1) := by decide +kernel
theorem ld_245 : decode code 245 = .ok (.iadd, 1) := by decide +kernel
theorem ld_246 : decode code 246 = .ok (.iaload, 1) := by decide +kernel
theorem ld_247 : decode code 247 = .ok (.invokevirtual 35, 3) := by decide +kernel
theorem ld_250 : decode code 250 = .ok (.if_icmp .eq 634, 3) := by decide +kernel
theorem ld_253 : decode code 253 = .ok (.iconst 0, 1) := by decide +kernel
theorem ld_254 : decode code 254 = .ok (.ireturn, 1) := by decide +kernel
theorem ld_255 : decode code 255 = .ok (.aload_n 1, 1) := by decide +kernel
theorem ld_256 : decode code 256 = .ok (.aload_n 0, 1) := by decide +kernel
theorem ld_257 : decode code 257 = .ok (.iload_n 3, 1) := by decide +kernel
theorem ld_258 : decode code 258 = .ok (.iconst 1, 1) := by decide +kernel
theorem ld_259 : decode code 259 = .ok (.iadd, 1) := by decide +kernel
theorem ld_260 : decode code 260 = .ok (.iaload, 1) := by decide +kernel
theorem ld_261 : decode code 261 = .ok (.aload_n 0, 1) := by decide +kernel
theorem ld_262 : decode code 262 = .ok (.iload_n 3, 1) := by decide +kernel
theorem ld_263 : decode code 263 = .ok (.iconst 2, 1) := by decide +kernel
theorem ld_264 : decode code 264 = .ok (.iadd, 1) := by decide +kernel
theorem ld_265 : decode code 265 = .ok (.iaload, 1) := by decide +kernel
theorem ld_266 : decode code 266 = .ok (.invokevirtual 36, 3) := by decide +kernel
theorem ld_269 : decode code 269 = .ok (.aload_n 2, 1) := by decide +kernel
theorem ld_270 : decode code 270 = .ok (.aload_n 0, 1) := by decide +kernel
theorem ld_271 : decode code 271 = .ok (.iload_n 3, 1) := by decide +kernel
theorem ld_272 : decode code 272 = .ok (.iconst 1, 1) := by decide +kernel
theorem ld_273 : decode code 273 = .ok (.iadd, 1) := by decide +kernel
theorem ld_274 : decode code 274 = .ok (.iaload, 1) := by decide +kernel
theorem ld_275 : decode code 275 = .ok (.aload_n 0, 1) := by decide +kernel
theorem ld_276 : decode code 276 = .ok (.iload_n 3, 1) := by decide +kernel
theorem ld_277 : decode code 277 = .ok (.iconst 2, 1) := by decide +kernel
theorem ld_278 : decode code 278 = .ok (.iadd, 1) := by decide +kernel
theorem ld_279 : decode code 279 = .ok (.iaload, 1) := by decide +kernel
theorem ld_280 : decode code 280 = .ok (.invokevirtual 39, 3) := by decide +kernel
theorem ld_283 : decode code 283 = .ok (.if_icmp .eq 601, 3) := by decide +kernel
theorem ld_286 : decode code 286 = .ok (.iconst 0, 1) := by decide +kernel
theorem ld_287 : decode code 287 = .ok (.ireturn, 1) := by decide +kernel
theorem ld_288 : decode code 288 = .ok (.aload_n 1, 1) := by decide +kernel
theorem ld_289 : decode code 289 = .ok (.aload_n 0, 1) := by decide +kernel
theorem ld_290 : decode code 290 = .ok (.iload_n 3, 1) := by decide +kernel
theorem ld_291 : decode code 291 = .ok (.iconst 1, 1) := by decide +kernel
theorem ld_292 : decode code 292 = .ok (.iadd, 1) := by decide +kernel
theorem ld_293 : decode code 293 = .ok (.iaload, 1) := by decide +kernel
theorem ld_294 : decode code 294 = .ok (.aload_n 0, 1) := by decide +kernel
theorem ld_295 : decode code 295 = .ok (.iload_n 3, 1) := by decide +kernel
theorem ld_296 : decode code 296 = .ok (.iconst 2, 1) := by decide +kernel
theorem ld_297 : decode code 297 = .ok (.iadd, 1) := by decide +kernel
theorem ld_298 : decode code 298 = .ok (.iaload, 1) := by decide +kernel
theorem ld_299 : decode code 299 = .ok (.invokevirtual 40, 3) := by decide +kernel
theorem ld_302 : decode code 302 = .ok (.aload_n 2, 1) := by decide +kernel
theorem ld_303 : decode code 303 = .ok (.aload_n 0, 1) := by decide +kernel
theorem ld_304 : decode code 304 = .ok (.iload_n 3, 1) := by decide +kernel
theorem ld_305 : decode code 305 = .ok (.iconst 1, 1) := by decide +kernel
theorem ld_306 : decode code 306 = .ok (.iadd, 1) := by decide +kernel
theorem ld_307 : decode code 307 = .ok (.iaload, 1) := by decide +kernel
theorem ld_308 : decode code 308 = .ok (.aload_n 0, 1) := by decide +kernel
theorem ld_309 : decode code 309 = .ok (.iload_n 3, 1) := by decide +kernel
theorem ld_310 : decode code 310 = .ok (.iconst 2, 1) := by decide +kernel
theorem ld_311 : decode code 311 = .ok (.iadd, 1) := by decide +kernel
theorem ld_312 : decode code 312 = .ok (.iaload, 1) := by decide +kernel
theorem ld_313 : decode code 313 = .ok (.invokevirtual 43, 3) := by decide +kernel
theorem ld_316 : decode code 316 = .ok (.if_icmp .eq 568, 3) := by decide +kernel
theorem ld_319 : decode code 319 = .ok (.iconst 0, 1) := by decide +kernel
theorem ld_320 : decode code 320 = .ok (.ireturn, 1) := by decide +kernel
theorem ld_321 : decode code 321 = .ok (.aload_n 1, 1) := by decide +kernel
theorem ld_322 : decode code 322 = .ok (.invokevirtual 44, 3) := by decide +kernel
theorem ld_325 : decode code 325 = .ok (.aload_n 2, 1) := by decide +kernel
theorem ld_326 : decode code 326 = .ok (.invokevirtual 47, 3) := by decide +kernel
theorem ld_329 : decode code 329 = .ok (.if_icmp .eq 555, 3) := by decide +kernel
theorem ld_332 : decode code 332 = .ok (.iconst 0, 1) := by decide +kernel
theorem ld_333 : decode code 333 = .ok (.ireturn, 1) := by decide +kernel
theorem ld_334 : decode code 334 = .ok (.aload_n 1, 1) := by decide +kernel
theorem ld_335 : decode code 335 = .ok (.aload_n 0, 1) := by decide +kernel
theorem ld_336 : decode code 336 = .ok (.iload_n 3, 1) := by decide +kernel
theorem ld_337 : decode code 337 = .ok (.iconst 1, 1) := by decide +kernel
theorem ld_338 : decode code 338 = .ok (.iadd, 1) := by decide +kernel
theorem ld_339 : decode code 339 = .ok (.iaload, 1) := by decide +kernel
theorem ld_340 : decode code 340 = .ok (.aload_n 0, 1) := by decide +kernel
theorem ld_341 : decode code 341 = .ok (.iload_n 3, 1) := by decide +kernel
theorem ld_342 : decode code 342 = .ok (.iconst 2, 1) := by decide +kernel
theorem ld_343 : decode code 343 = .ok (.iadd, 1) := by decide +kernel
theorem ld_344 : decode code 344 = .ok (.iaload, 1) := by decide +kernel
theorem ld_345 : decode code 345 = .ok (.aload_n 0, 1) := by decide +kernel
theorem ld_346 : decode code 346 = .ok (.iload_n 3, 1) := by decide +kernel
theorem ld_347 : decode code 347 = .ok (.iconst 3, 1) := by decide +kernel
theorem ld_348 : decode code 348 = .ok (.iadd, 1) := by decide +kernel
theorem ld_349 : decode code 349 = .ok (.iaload, 1) := by decide +kernel
theorem ld_350 : decode code 350 = .ok (.invokevirtual 48, 3) := by decide +kernel
theorem ld_353 : decode code 353 = .ok (.aload_n 2, 1) := by decide +kernel
theorem ld_354 : decode code 354 = .ok (.aload_n 0, 1) := by decide +kernel
theorem ld_355 : decode code 355 = .ok (.iload_n 3, 1) := by decide +kernel
theorem ld_356 : decode code 356 = .ok (.iconst 1, 1) := by decide +kernel
theorem ld_357 : decode code 357 = .ok (.iadd, 1) := by decide +kernel
theorem ld_358 : decode code 358 = .ok (.iaload, 1) := by decide +kernel
theorem ld_359 : decode code 359 = .ok (.aload_n 0, 1) := by decide +kernel
theorem ld_360 : decode code 360 = .ok (.iload_n 3, 1) := by decide +kernel
theorem ld_361 : decode code 361 = .ok (.iconst 2, 1) := by decide +kernel
theorem ld_362 : decode code 362 = .ok (.iadd, 1) := by decide +kernel
theorem ld_363 : decode code 363 = .ok (.iaload, 1) := by decide +kernel
theorem ld_364 : decode code 364 = .ok (.aload_n 0, 1) := by decide +kernel
theorem ld_365 : decode code 365 = .ok (.iload_n 3, 1) := by decide +kernel
theorem ld_366 : decode code 366 = .ok (.iconst 3, 1) := by decide +kernel
theorem ld_367 : decode code 367 = .ok (.iadd, 1) := by decide +kernel
theorem ld_368 : decode code 368 = .ok (.iaload, 1) := by decide +kernel
theorem ld_369 : decode code 369 = .ok (.invokevirtual 52, 3) := by decide +kernel
theorem ld_372 : decode code 372 = .ok (.if_icmp .eq 512, 3) := by decide +kernel
theorem ld_375 : decode code 375 = .ok (.iconst 0, 1) := by decide +kernel
theorem ld_376 : decode code 376 = .ok (.ireturn, 1) := by decide +kernel
theorem ld_377 : decode code 377 = .ok (.aload_n 1, 1) := by decide +kernel
theorem ld_378 : decode code 378 = .ok (.aload_n 0, 1) := by decide +kernel
theorem ld_379 : decode code 379 = .ok (.iload_n 3, 1) := by decide +kernel
theorem ld_380 : decode code 380 = .ok (.iconst 1, 1) := by decide +kernel
theorem ld_381 : decode code 381 = .ok (.iadd, 1) := by decide +kernel
theorem ld_382 : decode code 382 = .ok (.iaload, 1) := by decide +kernel
theorem ld_383 : decode code 383 = .ok (.aload_n 0, 1) := by decide +kernel
theorem ld_384 : decode code 384 = .ok (.iload_n 3, 1) := by decide +kernel
theorem ld_385 : decode code 385 = .ok (.iconst 2, 1) := by decide +kernel
theorem ld_386 : decode code 386 = .ok (.iadd, 1) := by decide +kernel
theorem ld_387 : decode code 387 = .ok (.iaload, 1) := by decide +kernel
theorem ld_388 : decode code 388 = .ok (.invokevirtual 53, 3) := by decide +kernel
theorem ld_391 : decode code 391 = .ok (.aload_n 2, 1) := by decide +kernel
theorem ld_392 : decode code 392 = .ok (.aload_n 0, 1) := by decide +kernel
theorem ld_393 : decode code 393 = .ok (.iload_n 3, 1) := by decide +kernel
theorem ld_394 : decode code 394 = .ok (.iconst 1, 1) := by decide +kernel
theorem ld_395 : decode code 395 = .ok (.iadd, 1) := by decide +kernel
theorem ld_396 : decode code 396 = .ok (.iaload, 1) := by decide +kernel
theorem ld_397 : decode code 397 = .ok (.aload_n 0, 1) := by decide +kernel
theorem ld_398 : decode code 398 = .ok (.iload_n 3, 1) := by decide +kernel
theorem ld_399 : decode code 399 = .ok (.iconst 2, 1) := by decide +kernel
theorem ld_400 : decode code 400 = .ok (.iadd, 1) := by decide +kernel
theorem ld_401 : decode code 401 = .ok (.iaload, 1) := by decide +kernel
theorem ld_402 : decode code 402 = .ok (.invokevirtual 56, 3) := by decide +kernel
theorem ld_405 : decode code 405 = .ok (.if_icmp .eq 479, 3) := by decide +kernel
theorem ld_408 : decode code 408 = .ok (.iconst 0, 1) := by decide +kernel
theorem ld_409 : decode code 409 = .ok (.ireturn, 1) := by decide +kernel
theorem ld_410 : decode code 410 = .ok (.aload_n 1, 1) := by decide +kernel
theorem ld_411 : decode code 411 = .ok (.aload_n 0, 1) := by decide +kernel
theorem ld_412 : decode code 412 = .ok (.iload_n 3, 1) := by decide +kernel
theorem ld_413 : decode code 413 = .ok (.iconst 1, 1) := by decide +kernel
theorem ld_414 : decode code 414 = .ok (.iadd, 1) := by decide +kernel
theorem ld_415 : decode code 415 = .ok (.iaload, 1) := by decide +kernel
theorem ld_416 : decode code 416 = .ok (.invokevirtual 57, 3) := by decide +kernel
theorem ld_419 : decode code 419 = .ok (.aload_n 2, 1) := by decide +kernel
theorem ld_420 : decode code 420 = .ok (.aload_n 0, 1) := by decide +kernel
theorem ld_421 : decode code 421 = .ok (.iload_n 3, 1) := by decide +kernel
theorem ld_422 : decode code 422 = .ok (.iconst 1, 1) := by decide +kernel
theorem ld_423 : decode code 423 = .ok (.iadd, 1) := by decide +kernel
theorem ld_424 : decode code 424 = .ok (.iaload, 1) := by decide +kernel
theorem ld_425 : decode code 425 = .ok (.invokevirtual 60, 3) := by decide +kernel
theorem ld_428 : decode code 428 = .ok (.if_icmp .eq 456, 3) := by decide +kernel
theorem ld_431 : decode code 431 = .ok (.iconst 0, 1) := by decide +kernel
theorem ld_432 : decode code 432 = .ok (.ireturn, 1) := by decide +kernel
theorem ld_433 : decode code 433 = .ok (.aload_n 1, 1) := by decide +kernel
theorem ld_434 : decode code 434 = .ok (.aload_n 0, 1) := by decide +kernel
theorem ld_435 : decode code 435 = .ok (.iload_n 3, 1) := by decide +kernel
theorem ld_436 : decode code 436 = .ok (.iconst 1, 1) := by decide +kernel
theorem ld_437 : decode code 437 = .ok (.iadd, 1) := by decide +kernel
theorem ld_438 : decode code 438 = .ok (.iaload, 1) := by decide +kernel
theorem ld_439 : decode code 439 = .ok (.aload_n 0, 1) := by decide +kernel
theorem ld_440 : decode code 440 = .ok (.iload_n 3, 1) := by decide +kernel
theorem ld_441 : decode code 441 = .ok (.iconst 2, 1) := by decide +kernel
theorem ld_442 : decode code 442 = .ok (.iadd, 1) := by decide +kernel
theorem ld_443 : decode code 443 = .ok (.iaload, 1) := by decide +kernel
theorem ld_444 : decode code 444 = .ok (.aload_n 0, 1) := by decide +kernel
theorem ld_445 : decode code 445 = .ok (.iload_n 3, 1) := by decide +kernel
theorem ld_446 : decode code 446 = .ok (.iconst 3, 1) := by decide +kernel
theorem ld_447 : decode code 447 = .ok (.iadd, 1) := by decide +kernel
theorem ld_448 : decode code 448 = .ok (.iaload, 1) := by decide +kernel
theorem ld_449 : decode code 449 = .ok (.aload_n 0, 1) := by decide +kernel
theorem ld_450 : decode code 450 = .ok (.iload_n 3, 1) := by decide +kernel
theorem ld_451 : decode code 451 = .ok (.iconst 4, 1) := by decide +kernel
theorem ld_452 : decode code 452 = .ok (.iadd, 1) := by decide +kernel
theorem ld_453 : decode code 453 = .ok (.iaload, 1) := by decide +kernel
theorem ld_454 : decode code 454 = .ok (.aload_n 0, 1) := by decide +kernel
theorem ld_455 : decode code 455 = .ok (.iload_n 3, 1) := by decide +kernel
theorem ld_456 : decode code 456 = .ok (.iconst 5, 1) := by decide +kernel
theorem ld_457 : decode code 457 = .ok (.iadd, 1) := by decide +kernel
theorem ld_458 : decode code 458 = .ok (.iaload, 1) := by decide +kernel
theorem ld_459 : decode code 459 = .ok (.invokevirtual 61, 3) := by decide +kernel
theorem ld_462 : decode code 462 = .ok (.aload_n 2, 1) := by decide +kernel
theorem ld_463 : decode code 463 = .ok (.aload_n 0, 1) := by decide +kernel
theorem ld_464 : decode code 464 = .ok (.iload_n 3, 1) := by decide +kernel
theorem ld_465 : decode code 465 = .ok (.iconst 1, 1) := by decide +kernel
theorem ld_466 : decode code 466 = .ok (.iadd, 1) := by decide +kernel
theorem ld_467 : decode code 467 = .ok (.iaload, 1) := by decide +kernel
theorem ld_468 : decode code 468 = .ok (.aload_n 0, 1) := by decide +kernel
theorem ld_469 : decode code 469 = .ok (.iload_n 3, 1) := by decide +kernel
theorem ld_470 : decode code 470 = .ok (.iconst 2, 1) := by decide +kernel
theorem ld_471 : decode code 471 = .ok (.iadd, 1) := by decide +kernel
theorem ld_472 : decode code 472 = .ok (.iaload, 1) := by decide +kernel
theorem ld_473 : decode code 473 = .ok (.aload_n 0, 1) := by decide +kernel
theorem ld_474 : decode code 474 = .ok (.iload_n 3, 1) := by decide +kernel
theorem ld_475 : decode code 475 = .ok (.iconst 3, 1) := by decide +kernel
theorem ld_476 : decode code 476 = .ok (.iadd, 1) := by decide +kernel
theorem ld_477 : decode code 477 = .ok (.iaload, 1) := by decide +kernel
theorem ld_478 : decode code 478 = .ok (.aload_n 0, 1) := by decide +kernel
theorem ld_479 : decode code 479 = .ok (.iload_n 3, 1) := by decide +kernel
theorem ld_480 : decode code 480 = .ok (.iconst 4, 1) := by decide +kernel
theorem ld_481 : decode code 481 = .ok (.iadd, 1) := by decide +kernel
theorem ld_482 : decode code 482 = .ok (.iaload, 1) := by decide +kernel
theorem ld_483 : decode code 483 = .ok (.aload_n 0, 1) := by decide +kernel
theorem ld_484 : decode code 484 = .ok (.iload_n 3, 1) := by decide +kernel
theorem ld_485 : decode code 485 = .ok (.iconst 5, 1) := by decide +kernel
theorem ld_486 : decode code 486 = .ok (.iadd, 1) := by decide +kernel
theorem ld_487 : decode code 487 = .ok (.iaload, 1) := by decide +kernel
theorem ld_488 : decode code 488 = .ok (.invokevirtual 65, 3) := by decide +kernel
theorem ld_491 : decode code 491 = .ok (.if_icmp .eq 393, 3) := by decide +kernel
theorem ld_494 : decode code 494 = .ok (.iconst 0, 1) := by decide +kernel
theorem ld_495 : decode code 495 = .ok (.ireturn, 1) := by decide +kernel
theorem ld_496 : decode code 496 = .ok (.aload_n 1, 1) := by decide +kernel
theorem ld_497 : decode code 497 = .ok (.invokevirtual 66, 3) := by decide +kernel
theorem ld_500 : decode code 500 = .ok (.aload_n 2, 1) := by decide +kernel
theorem ld_501 : decode code 501 = .ok (.invokevirtual 69, 3) := by decide +kernel
theorem ld_504 : decode code 504 = .ok (.if_icmp .eq 380, 3) := by decide +kernel
