theorem dL_law_0 : decode code 0 = .ok (.new 7, 3) := by decide +kernel
theorem dL_law_3 : decode code 3 = .ok (.dup, 1) := by decide +kernel
theorem dL_law_4 : decode code 4 = .ok (.invokespecial 9, 3) := by decide +kernel
theorem dL_law_7 : decode code 7 = .ok (.astore_n 1, 1) := by decide +kernel
theorem dL_law_8 : decode code 8 = .ok (.new 10, 3) := by decide +kernel
theorem dL_law_11 : decode code 11 = .ok (.dup, 1) := by decide +kernel
theorem dL_law_12 : decode code 12 = .ok (.invokespecial 12, 3) := by decide +kernel
theorem dL_law_15 : decode code 15 = .ok (.astore_n 2, 1) := by decide +kernel
theorem dL_law_16 : decode code 16 = .ok (.iconst 0, 1) := by decide +kernel
theorem dL_law_17 : decode code 17 = .ok (.istore_n 3, 1) := by decide +kernel
theorem dL_law_18 : decode code 18 = .ok (.iload_n 3, 1) := by decide +kernel
theorem dL_law_19 : decode code 19 = .ok (.aload_n 0, 1) := by decide +kernel
theorem dL_law_20 : decode code 20 = .ok (.arraylength, 1) := by decide +kernel
theorem dL_law_21 : decode code 21 = .ok (.bipush 6, 2) := by decide +kernel
theorem dL_law_23 : decode code 23 = .ok (.isub, 1) := by decide +kernel
theorem dL_law_24 : decode code 24 = .ok (.if_icmp .gt 1338, 3) := by decide +kernel
theorem dL_law_27 : decode code 27 = .ok (.aload_n 0, 1) := by decide +kernel
theorem dL_law_28 : decode code 28 = .ok (.iload_n 3, 1) := by decide +kernel
theorem dL_law_29 : decode code 29 = .ok (.iaload, 1) := by decide +kernel
theorem dL_law_30 : decode code 30 = .ok (.bipush 63, 2) := by decide +kernel
theorem dL_law_32 : decode code 32 = .ok (.iand, 1) := by decide +kernel
theorem dL_law_33 : decode code 33 = .ok (.tableswitch 1323 0 40 #[179, 222, 255, 288, 311, 344, 387, 430, 453, 476, 519, 542, 575, 598, 611, 634, 657, 680, 703, 726, 749, 772, 805, 838, 861, 895, 918, 951, 964, 977, 1010, 1043, 1086, 1129, 1192, 1215, 1238, 1251, 1264, 1277, 1300], 179) := by decide +kernel
theorem dL_law_212 : decode code 212 = .ok (.aload_n 1, 1) := by decide +kernel
theorem dL_law_213 : decode code 213 = .ok (.aload_n 0, 1) := by decide +kernel
theorem dL_law_214 : decode code 214 = .ok (.iload_n 3, 1) := by decide +kernel
theorem dL_law_215 : decode code 215 = .ok (.iconst 1, 1) := by decide +kernel
theorem dL_law_216 : decode code 216 = .ok (.iadd, 1) := by decide +kernel
theorem dL_law_217 : decode code 217 = .ok (.iaload, 1) := by decide +kernel
theorem dL_law_218 : decode code 218 = .ok (.aload_n 0, 1) := by decide +kernel
theorem dL_law_219 : decode code 219 = .ok (.iload_n 3, 1) := by decide +kernel
theorem dL_law_220 : decode code 220 = .ok (.iconst 2, 1) := by decide +kernel
theorem dL_law_221 : decode code 221 = .ok (.iadd, 1) := by decide +kernel
theorem dL_law_222 : decode code 222 = .ok (.iaload, 1) := by decide +kernel
theorem dL_law_223 : decode code 223 = .ok (.aload_n 0, 1) := by decide +kernel
theorem dL_law_224 : decode code 224 = .ok (.iload_n 3, 1) := by decide +kernel
theorem dL_law_225 : decode code 225 = .ok (.iconst 3, 1) := by decide +kernel
theorem dL_law_226 : decode code 226 = .ok (.iadd, 1) := by decide +kernel
theorem dL_law_227 : decode code 227 = .ok (.iaload, 1) := by decide +kernel
theorem dL_law_228 : decode code 228 = .ok (.invokevirtual 13, 3) := by decide +kernel
theorem dL_law_231 : decode code 231 = .ok (.aload_n 2, 1) := by decide +kernel
theorem dL_law_232 : decode code 232 = .ok (.aload_n 0, 1) := by decide +kernel
theorem dL_law_233 : decode code 233 = .ok (.iload_n 3, 1) := by decide +kernel
theorem dL_law_234 : decode code 234 = .ok (.iconst 1, 1) := by decide +kernel
theorem dL_law_235 : decode code 235 = .ok (.iadd, 1) := by decide +kernel
theorem dL_law_236 : decode code 236 = .ok (.iaload, 1) := by decide +kernel
theorem dL_law_237 : decode code 237 = .ok (.aload_n 0, 1) := by decide +kernel
theorem dL_law_238 : decode code 238 = .ok (.iload_n 3, 1) := by decide +kernel
theorem dL_law_239 : decode code 239 = .ok (.iconst 2, 1) := by decide +kernel
theorem dL_law_240 : decode code 240 = .ok (.iadd, 1) := by decide +kernel
theorem dL_law_241 : decode code 241 = .ok (.iaload, 1) := by decide +kernel
theorem dL_law_242 : decode code 242 = .ok (.aload_n 0, 1) := by decide +kernel
theorem dL_law_243 : decode code 243 = .ok (.iload_n 3, 1) := by decide +kernel
theorem dL_law_244 : decode code 244 = .ok (.iconst 3, 1) := by decide +kernel
theorem dL_law_245 : decode code 245 = .ok (.iadd, 1) := by decide +kernel
theorem dL_law_246 : decode code 246 = .ok (.iaload, 1) := by decide +kernel
theorem dL_law_247 : decode code 247 = .ok (.invokevirtual 17, 3) := by decide +kernel
theorem dL_law_250 : decode code 250 = .ok (.if_icmp .eq 1106, 3) := by decide +kernel
theorem dL_law_253 : decode code 253 = .ok (.iconst 0, 1) := by decide +kernel
theorem dL_law_254 : decode code 254 = .ok (.ireturn, 1) := by decide +kernel
theorem dL_law_255 : decode code 255 = .ok (.aload_n 1, 1) := by decide +kernel
theorem dL_law_256 : decode code 256 = .ok (.aload_n 0, 1) := by decide +kernel
theorem dL_law_257 : decode code 257 = .ok (.iload_n 3, 1) := by decide +kernel
theorem dL_law_258 : decode code 258 = .ok (.iconst 1, 1) := by decide +kernel
theorem dL_law_259 : decode code 259 = .ok (.iadd, 1) := by decide +kernel
theorem dL_law_260 : decode code 260 = .ok (.iaload, 1) := by decide +kernel
theorem dL_law_261 : decode code 261 = .ok (.aload_n 0, 1) := by decide +kernel
theorem dL_law_262 : decode code 262 = .ok (.iload_n 3, 1) := by decide +kernel
theorem dL_law_263 : decode code 263 = .ok (.iconst 2, 1) := by decide +kernel
theorem dL_law_264 : decode code 264 = .ok (.iadd, 1) := by decide +kernel
theorem dL_law_265 : decode code 265 = .ok (.iaload, 1) := by decide +kernel
theorem dL_law_266 : decode code 266 = .ok (.invokevirtual 18, 3) := by decide +kernel
theorem dL_law_269 : decode code 269 = .ok (.aload_n 2, 1) := by decide +kernel
theorem dL_law_270 : decode code 270 = .ok (.aload_n 0, 1) := by decide +kernel
theorem dL_law_271 : decode code 271 = .ok (.iload_n 3, 1) := by decide +kernel
theorem dL_law_272 : decode code 272 = .ok (.iconst 1, 1) := by decide +kernel
theorem dL_law_273 : decode code 273 = .ok (.iadd, 1) := by decide +kernel
theorem dL_law_274 : decode code 274 = .ok (.iaload, 1) := by decide +kernel
theorem dL_law_275 : decode code 275 = .ok (.aload_n 0, 1) := by decide +kernel
theorem dL_law_276 : decode code 276 = .ok (.iload_n 3, 1) := by decide +kernel
theorem dL_law_277 : decode code 277 = .ok (.iconst 2, 1) := by decide +kernel
theorem dL_law_278 : decode code 278 = .ok (.iadd, 1) := by decide +kernel
theorem dL_law_279 : decode code 279 = .ok (.iaload, 1) := by decide +kernel
theorem dL_law_280 : decode code 280 = .ok (.invokevirtual 22, 3) := by decide +kernel
theorem dL_law_283 : decode code 283 = .ok (.if_icmp .eq 1073, 3) := by decide +kernel
theorem dL_law_286 : decode code 286 = .ok (.iconst 0, 1) := by decide +kernel
theorem dL_law_287 : decode code 287 = .ok (.ireturn, 1) := by decide +kernel
theorem dL_law_288 : decode code 288 = .ok (.aload_n 1, 1) := by decide +kernel
theorem dL_law_289 : decode code 289 = .ok (.aload_n 0, 1) := by decide +kernel
theorem dL_law_290 : decode code 290 = .ok (.iload_n 3, 1) := by decide +kernel
theorem dL_law_291 : decode code 291 = .ok (.iconst 1, 1) := by decide +kernel
theorem dL_law_292 : decode code 292 = .ok (.iadd, 1) := by decide +kernel
theorem dL_law_293 : decode code 293 = .ok (.iaload, 1) := by decide +kernel
theorem dL_law_294 : decode code 294 = .ok (.aload_n 0, 1) := by decide +kernel
theorem dL_law_295 : decode code 295 = .ok (.iload_n 3, 1) := by decide +kernel
theorem dL_law_296 : decode code 296 = .ok (.iconst 2, 1) := by decide +kernel
theorem dL_law_297 : decode code 297 = .ok (.iadd, 1) := by decide +kernel
theorem dL_law_298 : decode code 298 = .ok (.iaload, 1) := by decide +kernel
theorem dL_law_299 : decode code 299 = .ok (.invokevirtual 23, 3) := by decide +kernel
theorem dL_law_302 : decode code 302 = .ok (.aload_n 2, 1) := by decide +kernel
theorem dL_law_303 : decode code 303 = .ok (.aload_n 0, 1) := by decide +kernel
theorem dL_law_304 : decode code 304 = .ok (.iload_n 3, 1) := by decide +kernel
theorem dL_law_305 : decode code 305 = .ok (.iconst 1, 1) := by decide +kernel
theorem dL_law_306 : decode code 306 = .ok (.iadd, 1) := by decide +kernel
theorem dL_law_307 : decode code 307 = .ok (.iaload, 1) := by decide +kernel
theorem dL_law_308 : decode code 308 = .ok (.aload_n 0, 1) := by decide +kernel
theorem dL_law_309 : decode code 309 = .ok (.iload_n 3, 1) := by decide +kernel
theorem dL_law_310 : decode code 310 = .ok (.iconst 2, 1) := by decide +kernel
theorem dL_law_311 : decode code 311 = .ok (.iadd, 1) := by decide +kernel
theorem dL_law_312 : decode code 312 = .ok (.iaload, 1) := by decide +kernel
theorem dL_law_313 : decode code 313 = .ok (.invokevirtual 26, 3) := by decide +kernel
theorem dL_law_316 : decode code 316 = .ok (.if_icmp .eq 1040, 3) := by decide +kernel
theorem dL_law_319 : decode code 319 = .ok (.iconst 0, 1) := by decide +kernel
theorem dL_law_320 : decode code 320 = .ok (.ireturn, 1) := by decide +kernel
theorem dL_law_321 : decode code 321 = .ok (.aload_n 1, 1) := by decide +kernel
theorem dL_law_322 : decode code 322 = .ok (.aload_n 0, 1) := by decide +kernel
theorem dL_law_323 : decode code 323 = .ok (.iload_n 3, 1) := by decide +kernel
theorem dL_law_324 : decode code 324 = .ok (.iconst 1, 1) := by decide +kernel
theorem dL_law_325 : decode code 325 = .ok (.iadd, 1) := by decide +kernel
theorem dL_law_326 : decode code 326 = .ok (.iaload, 1) := by decide +kernel
theorem dL_law_327 : decode code 327 = .ok (.invokevirtual 27, 3) := by decide +kernel
theorem dL_law_330 : decode code 330 = .ok (.aload_n 2, 1) := by decide +kernel
theorem dL_law_331 : decode code 331 = .ok (.aload_n 0, 1) := by decide +kernel
theorem dL_law_332 : decode code 332 = .ok (.iload_n 3, 1) := by decide +kernel
theorem dL_law_333 : decode code 333 = .ok (.iconst 1, 1) := by decide +kernel
theorem dL_law_334 : decode code 334 = .ok (.iadd, 1) := by decide +kernel
theorem dL_law_335 : decode code 335 = .ok (.iaload, 1) := by decide +kernel
theorem dL_law_336 : decode code 336 = .ok (.invokevirtual 31, 3) := by decide +kernel
theorem dL_law_339 : decode code 339 = .ok (.if_icmp .eq 1017, 3) := by decide +kernel
theorem dL_law_342 : decode code 342 = .ok (.iconst 0, 1) := by decide +kernel
theorem dL_law_343 : decode code 343 = .ok (.ireturn, 1) := by decide +kernel
theorem dL_law_344 : decode code 344 = .ok (.aload_n 1, 1) := by decide +kernel
theorem dL_law_345 : decode code 345 = .ok (.aload_n 0, 1) := by decide +kernel
theorem dL_law_346 : decode code 346 = .ok (.iload_n 3, 1) := by decide +kernel
theorem dL_law_347 : decode code 347 = .ok (.iconst 1, 1) := by decide +kernel
theorem dL_law_348 : decode code 348 = .ok (.iadd, 1) := by decide +kernel
theorem dL_law_349 : decode code 349 = .ok (.iaload, 1) := by decide +kernel
theorem dL_law_350 : decode code 350 = .ok (.aload_n 0, 1) := by decide +kernel
theorem dL_law_351 : decode code 351 = .ok (.iload_n 3, 1) := by decide +kernel
theorem dL_law_352 : decode code 352 = .ok (.iconst 2, 1) := by decide +kernel
theorem dL_law_353 : decode code 353 = .ok (.iadd, 1) := by decide +kernel
theorem dL_law_354 : decode code 354 = .ok (.iaload, 1) := by decide +kernel
theorem dL_law_355 : decode code 355 = .ok (.invokevirtual 32, 3) := by decide +kernel
theorem dL_law_358 : decode code 358 = .ok (.aload_n 2, 1) := by decide +kernel
theorem dL_law_359 : decode code 359 = .ok (.aload_n 0, 1) := by decide +kernel
theorem dL_law_360 : decode code 360 = .ok (.iload_n 3, 1) := by decide +kernel
theorem dL_law_361 : decode code 361 = .ok (.iconst 1, 1) := by decide +kernel
theorem dL_law_362 : decode code 362 = .ok (.iadd, 1) := by decide +kernel
theorem dL_law_363 : decode code 363 = .ok (.iaload, 1) := by decide +kernel
theorem dL_law_364 : decode code 364 = .ok (.aload_n 0, 1) := by decide +kernel
theorem dL_law_365 : decode code 365 = .ok (.iload_n 3, 1) := by decide +kernel
theorem dL_law_366 : decode code 366 = .ok (.iconst 2, 1) := by decide +kernel
theorem dL_law_367 : decode code 367 = .ok (.iadd, 1) := by decide +kernel
theorem dL_law_368 : decode code 368 = .ok (.iaload, 1) := by decide +kernel
theorem dL_law_369 : decode code 369 = .ok (.invokevirtual 35, 3) := by decide +kernel
theorem dL_law_372 : decode code 372 = .ok (.if_icmp .eq 984, 3) := by decide +kernel
theorem dL_law_375 : decode code 375 = .ok (.iconst 0, 1) := by decide +kernel
theorem dL_law_376 : decode code 376 = .ok (.ireturn, 1) := by decide +kernel
theorem dL_law_377 : decode code 377 = .ok (.aload_n 1, 1) := by decide +kernel
theorem dL_law_378 : decode code 378 = .ok (.aload_n 0, 1) := by decide +kernel
theorem dL_law_379 : decode code 379 = .ok (.iload_n 3, 1) := by decide +kernel
theorem dL_law_380 : decode code 380 = .ok (.iconst 1, 1) := by decide +kernel
theorem dL_law_381 : decode code 381 = .ok (.iadd, 1) := by decide +kernel
theorem dL_law_382 : decode code 382 = .ok (.iaload, 1) := by decide +kernel
theorem dL_law_383 : decode code 383 = .ok (.aload_n 0, 1) := by decide +kernel
theorem dL_law_384 : decode code 384 = .ok (.iload_n 3, 1) := by decide +kernel
theorem dL_law_385 : decode code 385 = .ok (.iconst 2, 1) := by decide +kernel
theorem dL_law_386 : decode code 386 = .ok (.iadd, 1) := by decide +kernel
theorem dL_law_387 : decode code 387 = .ok (.iaload, 1) := by decide +kernel
theorem dL_law_388 : decode code 388 = .ok (.aload_n 0, 1) := by decide +kernel
theorem dL_law_389 : decode code 389 = .ok (.iload_n 3, 1) := by decide +kernel
theorem dL_law_390 : decode code 390 = .ok (.iconst 3, 1) := by decide +kernel
theorem dL_law_391 : decode code 391 = .ok (.iadd, 1) := by decide +kernel
theorem dL_law_392 : decode code 392 = .ok (.iaload, 1) := by decide +kernel
theorem dL_law_393 : decode code 393 = .ok (.invokevirtual 36, 3) := by decide +kernel
theorem dL_law_396 : decode code 396 = .ok (.aload_n 2, 1) := by decide +kernel
theorem dL_law_397 : decode code 397 = .ok (.aload_n 0, 1) := by decide +kernel
theorem dL_law_398 : decode code 398 = .ok (.iload_n 3, 1) := by decide +kernel
theorem dL_law_399 : decode code 399 = .ok (.iconst 1, 1) := by decide +kernel
theorem dL_law_400 : decode code 400 = .ok (.iadd, 1) := by decide +kernel
theorem dL_law_401 : decode code 401 = .ok (.iaload, 1) := by decide +kernel
theorem dL_law_402 : decode code 402 = .ok (.aload_n 0, 1) := by decide +kernel
theorem dL_law_403 : decode code 403 = .ok (.iload_n 3, 1) := by decide +kernel
theorem dL_law_404 : decode code 404 = .ok (.iconst 2, 1) := by decide +kernel
theorem dL_law_405 : decode code 405 = .ok (.iadd, 1) := by decide +kernel
theorem dL_law_406 : decode code 406 = .ok (.iaload, 1) := by decide +kernel
theorem dL_law_407 : decode code 407 = .ok (.aload_n 0, 1) := by decide +kernel
theorem dL_law_408 : decode code 408 = .ok (.iload_n 3, 1) := by decide +kernel
theorem dL_law_409 : decode code 409 = .ok (.iconst 3, 1) := by decide +kernel
theorem dL_law_410 : decode code 410 = .ok (.iadd, 1) := by decide +kernel
theorem dL_law_411 : decode code 411 = .ok (.iaload, 1) := by decide +kernel
theorem dL_law_412 : decode code 412 = .ok (.invokevirtual 39, 3) := by decide +kernel
theorem dL_law_415 : decode code 415 = .ok (.if_icmp .eq 941, 3) := by decide +kernel
theorem dL_law_418 : decode code 418 = .ok (.iconst 0, 1) := by decide +kernel
theorem dL_law_419 : decode code 419 = .ok (.ireturn, 1) := by decide +kernel
theorem dL_law_420 : decode code 420 = .ok (.aload_n 1, 1) := by decide +kernel
theorem dL_law_421 : decode code 421 = .ok (.aload_n 0, 1) := by decide +kernel
theorem dL_law_422 : decode code 422 = .ok (.iload_n 3, 1) := by decide +kernel
theorem dL_law_423 : decode code 423 = .ok (.iconst 1, 1) := by decide +kernel
theorem dL_law_424 : decode code 424 = .ok (.iadd, 1) := by decide +kernel
theorem dL_law_425 : decode code 425 = .ok (.iaload, 1) := by decide +kernel
theorem dL_law_426 : decode code 426 = .ok (.aload_n 0, 1) := by decide +kernel
theorem dL_law_427 : decode code 427 = .ok (.iload_n 3, 1) := by decide +kernel
theorem dL_law_428 : decode code 428 = .ok (.iconst 2, 1) := by decide +kernel
theorem dL_law_429 : decode code 429 = .ok (.iadd, 1) := by decide +kernel
theorem dL_law_430 : decode code 430 = .ok (.iaload, 1) := by decide +kernel
theorem dL_law_431 : decode code 431 = .ok (.aload_n 0, 1) := by decide +kernel
theorem dL_law_432 : decode code 432 = .ok (.iload_n 3, 1) := by decide +kernel
theorem dL_law_433 : decode code 433 = .ok (.iconst 3, 1) := by decide +kernel
theorem dL_law_434 : decode code 434 = .ok (.iadd, 1) := by decide +kernel
theorem dL_law_435 : decode code 435 = .ok (.iaload, 1) := by decide +kernel
theorem dL_law_436 : decode code 436 = .ok (.invokevirtual 40, 3) := by decide +kernel
theorem dL_law_439 : decode code 439 = .ok (.aload_n 2, 1) := by decide +kernel
theorem dL_law_440 : decode code 440 = .ok (.aload_n 0, 1) := by decide +kernel
theorem dL_law_441 : decode code 441 = .ok (.iload_n 3, 1) := by decide +kernel
theorem dL_law_442 : decode code 442 = .ok (.iconst 1, 1) := by decide +kernel
theorem dL_law_443 : decode code 443 = .ok (.iadd, 1) := by decide +kernel
theorem dL_law_444 : decode code 444 = .ok (.iaload, 1) := by decide +kernel
theorem dL_law_445 : decode code 445 = .ok (.aload_n 0, 1) := by decide +kernel
theorem dL_law_446 : decode code 446 = .ok (.iload_n 3, 1) := by decide +kernel
theorem dL_law_447 : decode code 447 = .ok (.iconst 2, 1) := by decide +kernel
theorem dL_law_448 : decode code 448 = .ok (.iadd, 1) := by decide +kernel
theorem dL_law_449 : decode code 449 = .ok (.iaload, 1) := by decide +kernel
theorem dL_law_450 : decode code 450 = .ok (.aload_n 0, 1) := by decide +kernel
theorem dL_law_451 : decode code 451 = .ok (.iload_n 3, 1) := by decide +kernel
theorem dL_law_452 : decode code 452 = .ok (.iconst 3, 1) := by decide +kernel
theorem dL_law_453 : decode code 453 = .ok (.iadd, 1) := by decide +kernel
theorem dL_law_454 : decode code 454 = .ok (.iaload, 1) := by decide +kernel
theorem dL_law_455 : decode code 455 = .ok (.invokevirtual 43, 3) := by decide +kernel
theorem dL_law_458 : decode code 458 = .ok (.if_icmp .eq 898, 3) := by decide +kernel
theorem dL_law_461 : decode code 461 = .ok (.iconst 0, 1) := by decide +kernel
theorem dL_law_462 : decode code 462 = .ok (.ireturn, 1) := by decide +kernel
theorem dL_law_463 : decode code 463 = .ok (.aload_n 1, 1) := by decide +kernel
theorem dL_law_464 : decode code 464 = .ok (.aload_n 0, 1) := by decide +kernel
theorem dL_law_465 : decode code 465 = .ok (.iload_n 3, 1) := by decide +kernel
theorem dL_law_466 : decode code 466 = .ok (.iconst 1, 1) := by decide +kernel
theorem dL_law_467 : decode code 467 = .ok (.iadd, 1) := by decide +kernel
theorem dL_law_468 : decode code 468 = .ok (.iaload, 1) := by decide +kernel
theorem dL_law_469 : decode code 469 = .ok (.invokevirtual 44, 3) := by decide +kernel
theorem dL_law_472 : decode code 472 = .ok (.aload_n 2, 1) := by decide +kernel
theorem dL_law_473 : decode code 473 = .ok (.aload_n 0, 1) := by decide +kernel
theorem dL_law_474 : decode code 474 = .ok (.iload_n 3, 1) := by decide +kernel
theorem dL_law_475 : decode code 475 = .ok (.iconst 1, 1) := by decide +kernel
theorem dL_law_476 : decode code 476 = .ok (.iadd, 1) := by decide +kernel
theorem dL_law_477 : decode code 477 = .ok (.iaload, 1) := by decide +kernel
theorem dL_law_478 : decode code 478 = .ok (.invokevirtual 47, 3) := by decide +kernel
theorem dL_law_481 : decode code 481 = .ok (.if_icmp .eq 875, 3) := by decide +kernel
theorem dL_law_484 : decode code 484 = .ok (.iconst 0, 1) := by decide +kernel
theorem dL_law_485 : decode code 485 = .ok (.ireturn, 1) := by decide +kernel
theorem dL_law_486 : decode code 486 = .ok (.aload_n 1, 1) := by decide +kernel
theorem dL_law_487 : decode code 487 = .ok (.aload_n 0, 1) := by decide +kernel
theorem dL_law_488 : decode code 488 = .ok (.iload_n 3, 1) := by decide +kernel
theorem dL_law_489 : decode code 489 = .ok (.iconst 1, 1) := by decide +kernel
theorem dL_law_490 : decode code 490 = .ok (.iadd, 1) := by decide +kernel
theorem dL_law_491 : decode code 491 = .ok (.iaload, 1) := by decide +kernel
theorem dL_law_492 : decode code 492 = .ok (.invokevirtual 48, 3) := by decide +kernel
theorem dL_law_495 : decode code 495 = .ok (.aload_n 2, 1) := by decide +kernel
theorem dL_law_496 : decode code 496 = .ok (.aload_n 0, 1) := by decide +kernel
theorem dL_law_497 : decode code 497 = .ok (.iload_n 3, 1) := by decide +kernel
theorem dL_law_498 : decode code 498 = .ok (.iconst 1, 1) := by decide +kernel
theorem dL_law_499 : decode code 499 = .ok (.iadd, 1) := by decide +kernel
theorem dL_law_500 : decode code 500 = .ok (.iaload, 1) := by decide +kernel
theorem dL_law_501 : decode code 501 = .ok (.invokevirtual 51, 3) := by decide +kernel
theorem dL_law_504 : decode code 504 = .ok (.if_icmp .eq 852, 3) := by decide +kernel
theorem dL_law_507 : decode code 507 = .ok (.iconst 0, 1) := by decide +kernel
theorem dL_law_508 : decode code 508 = .ok (.ireturn, 1) := by decide +kernel
theorem dL_law_509 : decode code 509 = .ok (.aload_n 1, 1) := by decide +kernel
theorem dL_law_510 : decode code 510 = .ok (.aload_n 0, 1) := by decide +kernel
theorem dL_law_511 : decode code 511 = .ok (.iload_n 3, 1) := by decide +kernel
theorem dL_law_512 : decode code 512 = .ok (.iconst 1, 1) := by decide +kernel
theorem dL_law_513 : decode code 513 = .ok (.iadd, 1) := by decide +kernel
theorem dL_law_514 : decode code 514 = .ok (.iaload, 1) := by decide +kernel
theorem dL_law_515 : decode code 515 = .ok (.aload_n 0, 1) := by decide +kernel
theorem dL_law_516 : decode code 516 = .ok (.iload_n 3, 1) := by decide +kernel
theorem dL_law_517 : decode code 517 = .ok (.iconst 2, 1) := by decide +kernel
theorem dL_law_518 : decode code 518 = .ok (.iadd, 1) := by decide +kernel
theorem dL_law_519 : decode code 519 = .ok (.iaload, 1) := by decide +kernel
theorem dL_law_520 : decode code 520 = .ok (.aload_n 0, 1) := by decide +kernel
theorem dL_law_521 : decode code 521 = .ok (.iload_n 3, 1) := by decide +kernel
theorem dL_law_522 : decode code 522 = .ok (.iconst 3, 1) := by decide +kernel
theorem dL_law_523 : decode code 523 = .ok (.iadd, 1) := by decide +kernel
theorem dL_law_524 : decode code 524 = .ok (.iaload, 1) := by decide +kernel
theorem dL_law_525 : decode code 525 = .ok (.invokevirtual 52, 3) := by decide +kernel
theorem dL_law_528 : decode code 528 = .ok (.aload_n 2, 1) := by decide +kernel
theorem dL_law_529 : decode code 529 = .ok (.aload_n 0, 1) := by decide +kernel
theorem dL_law_530 : decode code 530 = .ok (.iload_n 3, 1) := by decide +kernel
theorem dL_law_531 : decode code 531 = .ok (.iconst 1, 1) := by decide +kernel
theorem dL_law_532 : decode code 532 = .ok (.iadd, 1) := by decide +kernel
theorem dL_law_533 : decode code 533 = .ok (.iaload, 1) := by decide +kernel
theorem dL_law_534 : decode code 534 = .ok (.aload_n 0, 1) := by decide +kernel
theorem dL_law_535 : decode code 535 = .ok (.iload_n 3, 1) := by decide +kernel
theorem dL_law_536 : decode code 536 = .ok (.iconst 2, 1) := by decide +kernel
theorem dL_law_537 : decode code 537 = .ok (.iadd, 1) := by decide +kernel
theorem dL_law_538 : decode code 538 = .ok (.iaload, 1) := by decide +kernel
theorem dL_law_539 : decode code 539 = .ok (.aload_n 0, 1) := by decide +kernel
theorem dL_law_540 : decode code 540 = .ok (.iload_n 3, 1) := by decide +kernel
theorem dL_law_541 : decode code 541 = .ok (.iconst 3, 1) := by decide +kernel
theorem dL_law_542 : decode code 542 = .ok (.iadd, 1) := by decide +kernel
theorem dL_law_543 : decode code 543 = .ok (.iaload, 1) := by decide +kernel
theorem dL_law_544 : decode code 544 = .ok (.invokevirtual 55, 3) := by decide +kernel
theorem dL_law_547 : decode code 547 = .ok (.if_icmp .eq 809, 3) := by decide +kernel
theorem dL_law_550 : decode code 550 = .ok (.iconst 0, 1) := by decide +kernel
theorem dL_law_551 : decode code 551 = .ok (.ireturn, 1) := by decide +kernel
theorem dL_law_552 : decode code 552 = .ok (.aload_n 1, 1) := by decide +kernel
theorem dL_law_553 : decode code 553 = .ok (.aload_n 0, 1) := by decide +kernel
theorem dL_law_554 : decode code 554 = .ok (.iload_n 3, 1) := by decide +kernel
theorem dL_law_555 : decode code 555 = .ok (.iconst 1, 1) := by decide +kernel
theorem dL_law_556 : decode code 556 = .ok (.iadd, 1) := by decide +kernel
theorem dL_law_557 : decode code 557 = .ok (.iaload, 1) := by decide +kernel
theorem dL_law_558 : decode code 558 = .ok (.invokevirtual 56, 3) := by decide +kernel
theorem dL_law_561 : decode code 561 = .ok (.aload_n 2, 1) := by decide +kernel
theorem dL_law_562 : decode code 562 = .ok (.aload_n 0, 1) := by decide +kernel
theorem dL_law_563 : decode code 563 = .ok (.iload_n 3, 1) := by decide +kernel
theorem dL_law_564 : decode code 564 = .ok (.iconst 1, 1) := by decide +kernel
theorem dL_law_565 : decode code 565 = .ok (.iadd, 1) := by decide +kernel
theorem dL_law_566 : decode code 566 = .ok (.iaload, 1) := by decide +kernel
theorem dL_law_567 : decode code 567 = .ok (.invokevirtual 59, 3) := by decide +kernel
theorem dL_law_570 : decode code 570 = .ok (.if_icmp .eq 786, 3) := by decide +kernel
theorem dL_law_573 : decode code 573 = .ok (.iconst 0, 1) := by decide +kernel
theorem dL_law_574 : decode code 574 = .ok (.ireturn, 1) := by decide +kernel
theorem dL_law_575 : decode code 575 = .ok (.aload_n 1, 1) := by decide +kernel
theorem dL_law_576 : decode code 576 = .ok (.aload_n 0, 1) := by decide +kernel
theorem dL_law_577 : decode code 577 = .ok (.iload_n 3, 1) := by decide +kernel
theorem dL_law_578 : decode code 578 = .ok (.iconst 1, 1) := by decide +kernel
theorem dL_law_579 : decode code 579 = .ok (.iadd, 1) := by decide +kernel
theorem dL_law_580 : decode code 580 = .ok (.iaload, 1) := by decide +kernel
theorem dL_law_581 : decode code 581 = .ok (.aload_n 0, 1) := by decide +kernel
theorem dL_law_582 : decode code 582 = .ok (.iload_n 3, 1) := by decide +kernel
theorem dL_law_583 : decode code 583 = .ok (.iconst 2, 1) := by decide +kernel
theorem dL_law_584 : decode code 584 = .ok (.iadd, 1) := by decide +kernel
theorem dL_law_585 : decode code 585 = .ok (.iaload, 1) := by decide +kernel
theorem dL_law_586 : decode code 586 = .ok (.invokevirtual 60, 3) := by decide +kernel
theorem dL_law_589 : decode code 589 = .ok (.aload_n 2, 1) := by decide +kernel
theorem dL_law_590 : decode code 590 = .ok (.aload_n 0, 1) := by decide +kernel
theorem dL_law_591 : decode code 591 = .ok (.iload_n 3, 1) := by decide +kernel
theorem dL_law_592 : decode code 592 = .ok (.iconst 1, 1) := by decide +kernel
theorem dL_law_593 : decode code 593 = .ok (.iadd, 1) := by decide +kernel
theorem dL_law_594 : decode code 594 = .ok (.iaload, 1) := by decide +kernel
theorem dL_law_595 : decode code 595 = .ok (.aload_n 0, 1) := by decide +kernel
theorem dL_law_596 : decode code 596 = .ok (.iload_n 3, 1) := by decide +kernel
theorem dL_law_597 : decode code 597 = .ok (.iconst 2, 1) := by decide +kernel
theorem dL_law_598 : decode code 598 = .ok (.iadd, 1) := by decide +kernel
theorem dL_law_599 : decode code 599 = .ok (.iaload, 1) := by decide +kernel
theorem dL_law_600 : decode code 600 = .ok (.invokevirtual 63, 3) := by decide +kernel
theorem dL_law_603 : decode code 603 = .ok (.if_icmp .eq 753, 3) := by decide +kernel
theorem dL_law_606 : decode code 606 = .ok (.iconst 0, 1) := by decide +kernel
theorem dL_law_607 : decode code 607 = .ok (.ireturn, 1) := by decide +kernel
theorem dL_law_608 : decode code 608 = .ok (.aload_n 1, 1) := by decide +kernel
theorem dL_law_609 : decode code 609 = .ok (.aload_n 0, 1) := by decide +kernel
theorem dL_law_610 : decode code 610 = .ok (.iload_n 3, 1) := by decide +kernel
theorem dL_law_611 : decode code 611 = .ok (.iconst 1, 1) := by decide +kernel
theorem dL_law_612 : decode code 612 = .ok (.iadd, 1) := by decide +kernel
theorem dL_law_613 : decode code 613 = .ok (.iaload, 1) := by decide +kernel
theorem dL_law_614 : decode code 614 = .ok (.invokevirtual 64, 3) := by decide +kernel
theorem dL_law_617 : decode code 617 = .ok (.aload_n 2, 1) := by decide +kernel
theorem dL_law_618 : decode code 618 = .ok (.aload_n 0, 1) := by decide +kernel
theorem dL_law_619 : decode code 619 = .ok (.iload_n 3, 1) := by decide +kernel
theorem dL_law_620 : decode code 620 = .ok (.iconst 1, 1) := by decide +kernel
theorem dL_law_621 : decode code 621 = .ok (.iadd, 1) := by decide +kernel
theorem dL_law_622 : decode code 622 = .ok (.iaload, 1) := by decide +kernel
theorem dL_law_623 : decode code 623 = .ok (.invokevirtual 67, 3) := by decide +kernel
theorem dL_law_626 : decode code 626 = .ok (.if_icmp .eq 730, 3) := by decide +kernel
theorem dL_law_629 : decode code 629 = .ok (.iconst 0, 1) := by decide +kernel
theorem dL_law_630 : decode code 630 = .ok (.ireturn, 1) := by decide +kernel
theorem dL_law_631 : decode code 631 = .ok (.aload_n 1, 1) := by decide +kernel
theorem dL_law_632 : decode code 632 = .ok (.invokevirtual 68, 3) := by decide +kernel
theorem dL_law_635 : decode code 635 = .ok (.aload_n 2, 1) := by decide +kernel
theorem dL_law_636 : decode code 636 = .ok (.invokevirtual 72, 3) := by decide +kernel
theorem dL_law_639 : decode code 639 = .ok (.if_icmp .eq 717, 3) := by decide +kernel
theorem dL_law_642 : decode code 642 = .ok (.iconst 0, 1) := by decide +kernel
theorem dL_law_643 : decode code 643 = .ok (.ireturn, 1) := by decide +kernel
theorem dL_law_644 : decode code 644 = .ok (.aload_n 1, 1) := by decide +kernel
theorem dL_law_645 : decode code 645 = .ok (.aload_n 0, 1) := by decide +kernel
theorem dL_law_646 : decode code 646 = .ok (.iload_n 3, 1) := by decide +kernel
theorem dL_law_647 : decode code 647 = .ok (.iconst 1, 1) := by decide +kernel
theorem dL_law_648 : decode code 648 = .ok (.iadd, 1) := by decide +kernel
theorem dL_law_649 : decode code 649 = .ok (.iaload, 1) := by decide +kernel
theorem dL_law_650 : decode code 650 = .ok (.invokevirtual 73, 3) := by decide +kernel
theorem dL_law_653 : decode code 653 = .ok (.aload_n 2, 1) := by decide +kernel
theorem dL_law_654 : decode code 654 = .ok (.aload_n 0, 1) := by decide +kernel
theorem dL_law_655 : decode code 655 = .ok (.iload_n 3, 1) := by decide +kernel
theorem dL_law_656 : decode code 656 = .ok (.iconst 1, 1) := by decide +kernel
theorem dL_law_657 : decode code 657 = .ok (.iadd, 1) := by decide +kernel
theorem dL_law_658 : decode code 658 = .ok (.iaload, 1) := by decide +kernel
theorem dL_law_659 : decode code 659 = .ok (.invokevirtual 76, 3) := by decide +kernel
theorem dL_law_662 : decode code 662 = .ok (.if_icmp .eq 694, 3) := by decide +kernel
theorem dL_law_665 : decode code 665 = .ok (.iconst 0, 1) := by decide +kernel
theorem dL_law_666 : decode code 666 = .ok (.ireturn, 1) := by decide +kernel
theorem dL_law_667 : decode code 667 = .ok (.aload_n 1, 1) := by decide +kernel
theorem dL_law_668 : decode code 668 = .ok (.aload_n 0, 1) := by decide +kernel
theorem dL_law_669 : decode code 669 = .ok (.iload_n 3, 1) := by decide +kernel
theorem dL_law_670 : decode code 670 = .ok (.iconst 1, 1) := by decide +kernel
theorem dL_law_671 : decode code 671 = .ok (.iadd, 1) := by decide +kernel
theorem dL_law_672 : decode code 672 = .ok (.iaload, 1) := by decide +kernel
theorem dL_law_673 : decode code 673 = .ok (.invokevirtual 77, 3) := by decide +kernel
theorem dL_law_676 : decode code 676 = .ok (.aload_n 2, 1) := by decide +kernel
theorem dL_law_677 : decode code 677 = .ok (.aload_n 0, 1) := by decide +kernel
theorem dL_law_678 : decode code 678 = .ok (.iload_n 3, 1) := by decide +kernel
theorem dL_law_679 : decode code 679 = .ok (.iconst 1, 1) := by decide +kernel
theorem dL_law_680 : decode code 680 = .ok (.iadd, 1) := by decide +kernel
theorem dL_law_681 : decode code 681 = .ok (.iaload, 1) := by decide +kernel
theorem dL_law_682 : decode code 682 = .ok (.invokevirtual 80, 3) := by decide +kernel
theorem dL_law_685 : decode code 685 = .ok (.if_icmp .eq 671, 3) := by decide +kernel
theorem dL_law_688 : decode code 688 = .ok (.iconst 0, 1) := by decide +kernel
theorem dL_law_689 : decode code 689 = .ok (.ireturn, 1) := by decide +kernel
theorem dL_law_690 : decode code 690 = .ok (.aload_n 1, 1) := by decide +kernel
theorem dL_law_691 : decode code 691 = .ok (.aload_n 0, 1) := by decide +kernel
theorem dL_law_692 : decode code 692 = .ok (.iload_n 3, 1) := by decide +kernel
theorem dL_law_693 : decode code 693 = .ok (.iconst 1, 1) := by decide +kernel
theorem dL_law_694 : decode code 694 = .ok (.iadd, 1) := by decide +kernel
theorem dL_law_695 : decode code 695 = .ok (.iaload, 1) := by decide +kernel
theorem dL_law_696 : decode code 696 = .ok (.invokevirtual 81, 3) := by decide +kernel
theorem dL_law_699 : decode code 699 = .ok (.aload_n 2, 1) := by decide +kernel
theorem dL_law_700 : decode code 700 = .ok (.aload_n 0, 1) := by decide +kernel
theorem dL_law_701 : decode code 701 = .ok (.iload_n 3, 1) := by decide +kernel
theorem dL_law_702 : decode code 702 = .ok (.iconst 1, 1) := by decide +kernel
theorem dL_law_703 : decode code 703 = .ok (.iadd, 1) := by decide +kernel
theorem dL_law_704 : decode code 704 = .ok (.iaload, 1) := by decide +kernel
theorem dL_law_705 : decode code 705 = .ok (.invokevirtual 84, 3) := by decide +kernel
theorem dL_law_708 : decode code 708 = .ok (.if_icmp .eq 648, 3) := by decide +kernel
theorem dL_law_711 : decode code 711 = .ok (.iconst 0, 1) := by decide +kernel
theorem dL_law_712 : decode code 712 = .ok (.ireturn, 1) := by decide +kernel
theorem dL_law_713 : decode code 713 = .ok (.aload_n 1, 1) := by decide +kernel
theorem dL_law_714 : decode code 714 = .ok (.aload_n 0, 1) := by decide +kernel
theorem dL_law_715 : decode code 715 = .ok (.iload_n 3, 1) := by decide +kernel
theorem dL_law_716 : decode code 716 = .ok (.iconst 1, 1) := by decide +kernel
theorem dL_law_717 : decode code 717 = .ok (.iadd, 1) := by decide +kernel
theorem dL_law_718 : decode code 718 = .ok (.iaload, 1) := by decide +kernel
theorem dL_law_719 : decode code 719 = .ok (.invokevirtual 85, 3) := by decide +kernel
theorem dL_law_722 : decode code 722 = .ok (.aload_n 2, 1) := by decide +kernel
theorem dL_law_723 : decode code 723 = .ok (.aload_n 0, 1) := by decide +kernel
theorem dL_law_724 : decode code 724 = .ok (.iload_n 3, 1) := by decide +kernel
theorem dL_law_725 : decode code 725 = .ok (.iconst 1, 1) := by decide +kernel
theorem dL_law_726 : decode code 726 = .ok (.iadd, 1) := by decide +kernel
theorem dL_law_727 : decode code 727 = .ok (.iaload, 1) := by decide +kernel
theorem dL_law_728 : decode code 728 = .ok (.invokevirtual 88, 3) := by decide +kernel
theorem dL_law_731 : decode code 731 = .ok (.if_icmp .eq 625, 3) := by decide +kernel
theorem dL_law_734 : decode code 734 = .ok (.iconst 0, 1) := by decide +kernel
theorem dL_law_735 : decode code 735 = .ok (.ireturn, 1) := by decide +kernel
theorem dL_law_736 : decode code 736 = .ok (.aload_n 1, 1) := by decide +kernel
theorem dL_law_737 : decode code 737 = .ok (.aload_n 0, 1) := by decide +kernel
theorem dL_law_738 : decode code 738 = .ok (.iload_n 3, 1) := by decide +kernel
theorem dL_law_739 : decode code 739 = .ok (.iconst 1, 1) := by decide +kernel
theorem dL_law_740 : decode code 740 = .ok (.iadd, 1) := by decide +kernel
theorem dL_law_741 : decode code 741 = .ok (.iaload, 1) := by decide +kernel
theorem dL_law_742 : decode code 742 = .ok (.invokevirtual 89, 3) := by decide +kernel
theorem dL_law_745 : decode code 745 = .ok (.aload_n 2, 1) := by decide +kernel
theorem dL_law_746 : decode code 746 = .ok (.aload_n 0, 1) := by decide +kernel
theorem dL_law_747 : decode code 747 = .ok (.iload_n 3, 1) := by decide +kernel
theorem dL_law_748 : decode code 748 = .ok (.iconst 1, 1) := by decide +kernel
theorem dL_law_749 : decode code 749 = .ok (.iadd, 1) := by decide +kernel
theorem dL_law_750 : decode code 750 = .ok (.iaload, 1) := by decide +kernel
theorem dL_law_751 : decode code 751 = .ok (.invokevirtual 92, 3) := by decide +kernel
theorem dL_law_754 : decode code 754 = .ok (.if_icmp .eq 602, 3) := by decide +kernel
theorem dL_law_757 : decode code 757 = .ok (.iconst 0, 1) := by decide +kernel
theorem dL_law_758 : decode code 758 = .ok (.ireturn, 1) := by decide +kernel
theorem dL_law_759 : decode code 759 = .ok (.aload_n 1, 1) := by decide +kernel
theorem dL_law_760 : decode code 760 = .ok (.aload_n 0, 1) := by decide +kernel
theorem dL_law_761 : decode code 761 = .ok (.iload_n 3, 1) := by decide +kernel
theorem dL_law_762 : decode code 762 = .ok (.iconst 1, 1) := by decide +kernel
theorem dL_law_763 : decode code 763 = .ok (.iadd, 1) := by decide +kernel
theorem dL_law_764 : decode code 764 = .ok (.iaload, 1) := by decide +kernel
theorem dL_law_765 : decode code 765 = .ok (.invokevirtual 93, 3) := by decide +kernel
theorem dL_law_768 : decode code 768 = .ok (.aload_n 2, 1) := by decide +kernel
theorem dL_law_769 : decode code 769 = .ok (.aload_n 0, 1) := by decide +kernel
theorem dL_law_770 : decode code 770 = .ok (.iload_n 3, 1) := by decide +kernel
theorem dL_law_771 : decode code 771 = .ok (.iconst 1, 1) := by decide +kernel
theorem dL_law_772 : decode code 772 = .ok (.iadd, 1) := by decide +kernel
theorem dL_law_773 : decode code 773 = .ok (.iaload, 1) := by decide +kernel
theorem dL_law_774 : decode code 774 = .ok (.invokevirtual 96, 3) := by decide +kernel
theorem dL_law_777 : decode code 777 = .ok (.if_icmp .eq 579, 3) := by decide +kernel
theorem dL_law_780 : decode code 780 = .ok (.iconst 0, 1) := by decide +kernel
theorem dL_law_781 : decode code 781 = .ok (.ireturn, 1) := by decide +kernel
theorem dL_law_782 : decode code 782 = .ok (.aload_n 1, 1) := by decide +kernel
theorem dL_law_783 : decode code 783 = .ok (.aload_n 0, 1) := by decide +kernel
theorem dL_law_784 : decode code 784 = .ok (.iload_n 3, 1) := by decide +kernel
theorem dL_law_785 : decode code 785 = .ok (.iconst 1, 1) := by decide +kernel
theorem dL_law_786 : decode code 786 = .ok (.iadd, 1) := by decide +kernel
theorem dL_law_787 : decode code 787 = .ok (.iaload, 1) := by decide +kernel
theorem dL_law_788 : decode code 788 = .ok (.invokevirtual 97, 3) := by decide +kernel
theorem dL_law_791 : decode code 791 = .ok (.aload_n 2, 1) := by decide +kernel
theorem dL_law_792 : decode code 792 = .ok (.aload_n 0, 1) := by decide +kernel
theorem dL_law_793 : decode code 793 = .ok (.iload_n 3, 1) := by decide +kernel
theorem dL_law_794 : decode code 794 = .ok (.iconst 1, 1) := by decide +kernel
theorem dL_law_795 : decode code 795 = .ok (.iadd, 1) := by decide +kernel
theorem dL_law_796 : decode code 796 = .ok (.iaload, 1) := by decide +kernel
theorem dL_law_797 : decode code 797 = .ok (.invokevirtual 100, 3) := by decide +kernel
theorem dL_law_800 : decode code 800 = .ok (.if_icmp .eq 556, 3) := by decide +kernel
theorem dL_law_803 : decode code 803 = .ok (.iconst 0, 1) := by decide +kernel
theorem dL_law_804 : decode code 804 = .ok (.ireturn, 1) := by decide +kernel
theorem dL_law_805 : decode code 805 = .ok (.aload_n 1, 1) := by decide +kernel
theorem dL_law_806 : decode code 806 = .ok (.aload_n 0, 1) := by decide +kernel
theorem dL_law_807 : decode code 807 = .ok (.iload_n 3, 1) := by decide +kernel
theorem dL_law_808 : decode code 808 = .ok (.iconst 1, 1) := by decide +kernel
theorem dL_law_809 : decode code 809 = .ok (.iadd, 1) := by decide +kernel
theorem dL_law_810 : decode code 810 = .ok (.iaload, 1) := by decide +kernel
theorem dL_law_811 : decode code 811 = .ok (.aload_n 0, 1) := by decide +kernel
theorem dL_law_812 : decode code 812 = .ok (.iload_n 3, 1) := by decide +kernel
theorem dL_law_813 : decode code 813 = .ok (.iconst 2, 1) := by decide +kernel
theorem dL_law_814 : decode code 814 = .ok (.iadd, 1) := by decide +kernel
theorem dL_law_815 : decode code 815 = .ok (.iaload, 1) := by decide +kernel
theorem dL_law_816 : decode code 816 = .ok (.invokevirtual 101, 3) := by decide +kernel
theorem dL_law_819 : decode code 819 = .ok (.aload_n 2, 1) := by decide +kernel
theorem dL_law_820 : decode code 820 = .ok (.aload_n 0, 1) := by decide +kernel
theorem dL_law_821 : decode code 821 = .ok (.iload_n 3, 1) := by decide +kernel
theorem dL_law_822 : decode code 822 = .ok (.iconst 1, 1) := by decide +kernel
theorem dL_law_823 : decode code 823 = .ok (.iadd, 1) := by decide +kernel
theorem dL_law_824 : decode code 824 = .ok (.iaload, 1) := by decide +kernel
theorem dL_law_825 : decode code 825 = .ok (.aload_n 0, 1) := by decide +kernel
theorem dL_law_826 : decode code 826 = .ok (.iload_n 3, 1) := by decide +kernel
theorem dL_law_827 : decode code 827 = .ok (.iconst 2, 1) := by decide +kernel
theorem dL_law_828 : decode code 828 = .ok (.iadd, 1) := by decide +kernel
theorem dL_law_829 : decode code 829 = .ok (.iaload, 1) := by decide +kernel
theorem dL_law_830 : decode code 830 = .ok (.invokevirtual 104, 3) := by decide +kernel
theorem dL_law_833 : decode code 833 = .ok (.if_icmp .eq 523, 3) := by decide +kernel
theorem dL_law_836 : decode code 836 = .ok (.iconst 0, 1) := by decide +kernel
theorem dL_law_837 : decode code 837 = .ok (.ireturn, 1) := by decide +kernel
theorem dL_law_838 : decode code 838 = .ok (.aload_n 1, 1) := by decide +kernel
theorem dL_law_839 : decode code 839 = .ok (.aload_n 0, 1) := by decide +kernel
theorem dL_law_840 : decode code 840 = .ok (.iload_n 3, 1) := by decide +kernel
theorem dL_law_841 : decode code 841 = .ok (.iconst 1, 1) := by decide +kernel
theorem dL_law_842 : decode code 842 = .ok (.iadd, 1) := by decide +kernel
theorem dL_law_843 : decode code 843 = .ok (.iaload, 1) := by decide +kernel
theorem dL_law_844 : decode code 844 = .ok (.aload_n 0, 1) := by decide +kernel
theorem dL_law_845 : decode code 845 = .ok (.iload_n 3, 1) := by decide +kernel
theorem dL_law_846 : decode code 846 = .ok (.iconst 2, 1) := by decide +kernel
theorem dL_law_847 : decode code 847 = .ok (.iadd, 1) := by decide +kernel
theorem dL_law_848 : decode code 848 = .ok (.iaload, 1) := by decide +kernel
theorem dL_law_849 : decode code 849 = .ok (.invokevirtual 105, 3) := by decide +kernel
theorem dL_law_852 : decode code 852 = .ok (.aload_n 2, 1) := by decide +kernel
theorem dL_law_853 : decode code 853 = .ok (.aload_n 0, 1) := by decide +kernel
theorem dL_law_854 : decode code 854 = .ok (.iload_n 3, 1) := by decide +kernel
theorem dL_law_855 : decode code 855 = .ok (.iconst 1, 1) := by decide +kernel
theorem dL_law_856 : decode code 856 = .ok (.iadd, 1) := by decide +kernel
theorem dL_law_857 : decode code 857 = .ok (.iaload, 1) := by decide +kernel
theorem dL_law_858 : decode code 858 = .ok (.aload_n 0, 1) := by decide +kernel
theorem dL_law_859 : decode code 859 = .ok (.iload_n 3, 1) := by decide +kernel
theorem dL_law_860 : decode code 860 = .ok (.iconst 2, 1) := by decide +kernel
theorem dL_law_861 : decode code 861 = .ok (.iadd, 1) := by decide +kernel
theorem dL_law_862 : decode code 862 = .ok (.iaload, 1) := by decide +kernel
theorem dL_law_863 : decode code 863 = .ok (.invokevirtual 108, 3) := by decide +kernel
theorem dL_law_866 : decode code 866 = .ok (.if_icmp .eq 490, 3) := by decide +kernel
theorem dL_law_869 : decode code 869 = .ok (.iconst 0, 1) := by decide +kernel
theorem dL_law_870 : decode code 870 = .ok (.ireturn, 1) := by decide +kernel
theorem dL_law_871 : decode code 871 = .ok (.aload_n 1, 1) := by decide +kernel
theorem dL_law_872 : decode code 872 = .ok (.aload_n 0, 1) := by decide +kernel
theorem dL_law_873 : decode code 873 = .ok (.iload_n 3, 1) := by decide +kernel
theorem dL_law_874 : decode code 874 = .ok (.iconst 1, 1) := by decide +kernel
theorem dL_law_875 : decode code 875 = .ok (.iadd, 1) := by decide +kernel
theorem dL_law_876 : decode code 876 = .ok (.iaload, 1) := by decide +kernel
theorem dL_law_877 : decode code 877 = .ok (.invokevirtual 109, 3) := by decide +kernel
theorem dL_law_880 : decode code 880 = .ok (.aload_n 2, 1) := by decide +kernel
theorem dL_law_881 : decode code 881 = .ok (.aload_n 0, 1) := by decide +kernel
theorem dL_law_882 : decode code 882 = .ok (.iload_n 3, 1) := by decide +kernel
theorem dL_law_883 : decode code 883 = .ok (.iconst 1, 1) := by decide +kernel
theorem dL_law_884 : decode code 884 = .ok (.iadd, 1) := by decide +kernel
theorem dL_law_885 : decode code 885 = .ok (.iaload, 1) := by decide +kernel
theorem dL_law_886 : decode code 886 = .ok (.invokevirtual 112, 3) := by decide +kernel
theorem dL_law_889 : decode code 889 = .ok (.if_icmp .eq 467, 3) := by decide +kernel
theorem dL_law_892 : decode code 892 = .ok (.iconst 0, 1) := by decide +kernel
theorem dL_law_893 : decode code 893 = .ok (.ireturn, 1) := by decide +kernel
theorem dL_law_894 : decode code 894 = .ok (.aload_n 1, 1) := by decide +kernel
theorem dL_law_895 : decode code 895 = .ok (.aload_n 0, 1) := by decide +kernel
theorem dL_law_896 : decode code 896 = .ok (.iload_n 3, 1) := by decide +kernel
theorem dL_law_897 : decode code 897 = .ok (.iconst 1, 1) := by decide +kernel
theorem dL_law_898 : decode code 898 = .ok (.iadd, 1) := by decide +kernel
theorem dL_law_899 : decode code 899 = .ok (.iaload, 1) := by decide +kernel
theorem dL_law_900 : decode code 900 = .ok (.aload_n 0, 1) := by decide +kernel
theorem dL_law_901 : decode code 901 = .ok (.iload_n 3, 1) := by decide +kernel
theorem dL_law_902 : decode code 902 = .ok (.iconst 2, 1) := by decide +kernel
theorem dL_law_903 : decode code 903 = .ok (.iadd, 1) := by decide +kernel
theorem dL_law_904 : decode code 904 = .ok (.iaload, 1) := by decide +kernel
theorem dL_law_905 : decode code 905 = .ok (.invokevirtual 113, 3) := by decide +kernel
theorem dL_law_908 : decode code 908 = .ok (.aload_n 2, 1) := by decide +kernel
theorem dL_law_909 : decode code 909 = .ok (.aload_n 0, 1) := by decide +kernel
theorem dL_law_910 : decode code 910 = .ok (.iload_n 3, 1) := by decide +kernel
theorem dL_law_911 : decode code 911 = .ok (.iconst 1, 1) := by decide +kernel
theorem dL_law_912 : decode code 912 = .ok (.iadd, 1) := by decide +kernel
theorem dL_law_913 : decode code 913 = .ok (.iaload, 1) := by decide +kernel
theorem dL_law_914 : decode code 914 = .ok (.aload_n 0, 1) := by decide +kernel
theorem dL_law_915 : decode code 915 = .ok (.iload_n 3, 1) := by decide +kernel
theorem dL_law_916 : decode code 916 = .ok (.iconst 2, 1) := by decide +kernel
theorem dL_law_917 : decode code 917 = .ok (.iadd, 1) := by decide +kernel
theorem dL_law_918 : decode code 918 = .ok (.iaload, 1) := by decide +kernel
theorem dL_law_919 : decode code 919 = .ok (.invokevirtual 117, 3) := by decide +kernel
theorem dL_law_922 : decode code 922 = .ok (.lcmp, 1) := by decide +kernel
theorem dL_law_923 : decode code 923 = .ok (.ifCond .eq 433, 3) := by decide +kernel
theorem dL_law_926 : decode code 926 = .ok (.iconst 0, 1) := by decide +kernel
theorem dL_law_927 : decode code 927 = .ok (.ireturn, 1) := by decide +kernel
theorem dL_law_928 : decode code 928 = .ok (.aload_n 1, 1) := by decide +kernel
theorem dL_law_929 : decode code 929 = .ok (.aload_n 0, 1) := by decide +kernel
theorem dL_law_930 : decode code 930 = .ok (.iload_n 3, 1) := by decide +kernel
theorem dL_law_931 : decode code 931 = .ok (.iconst 1, 1) := by decide +kernel
theorem dL_law_932 : decode code 932 = .ok (.iadd, 1) := by decide +kernel
theorem dL_law_933 : decode code 933 = .ok (.iaload, 1) := by decide +kernel
theorem dL_law_934 : decode code 934 = .ok (.invokevirtual 118, 3) := by decide +kernel
theorem dL_law_937 : decode code 937 = .ok (.aload_n 2, 1) := by decide +kernel
theorem dL_law_938 : decode code 938 = .ok (.aload_n 0, 1) := by decide +kernel
theorem dL_law_939 : decode code 939 = .ok (.iload_n 3, 1) := by decide +kernel
theorem dL_law_940 : decode code 940 = .ok (.iconst 1, 1) := by decide +kernel
theorem dL_law_941 : decode code 941 = .ok (.iadd, 1) := by decide +kernel
theorem dL_law_942 : decode code 942 = .ok (.iaload, 1) := by decide +kernel
theorem dL_law_943 : decode code 943 = .ok (.invokevirtual 121, 3) := by decide +kernel
theorem dL_law_946 : decode code 946 = .ok (.if_icmp .eq 410, 3) := by decide +kernel
theorem dL_law_949 : decode code 949 = .ok (.iconst 0, 1) := by decide +kernel
theorem dL_law_950 : decode code 950 = .ok (.ireturn, 1) := by decide +kernel
theorem dL_law_951 : decode code 951 = .ok (.aload_n 1, 1) := by decide +kernel
theorem dL_law_952 : decode code 952 = .ok (.aload_n 0, 1) := by decide +kernel
theorem dL_law_953 : decode code 953 = .ok (.iload_n 3, 1) := by decide +kernel
theorem dL_law_954 : decode code 954 = .ok (.iconst 1, 1) := by decide +kernel
theorem dL_law_955 : decode code 955 = .ok (.iadd, 1) := by decide +kernel
theorem dL_law_956 : decode code 956 = .ok (.iaload, 1) := by decide +kernel
theorem dL_law_957 : decode code 957 = .ok (.aload_n 0, 1) := by decide +kernel
theorem dL_law_958 : decode code 958 = .ok (.iload_n 3, 1) := by decide +kernel
theorem dL_law_959 : decode code 959 = .ok (.iconst 2, 1) := by decide +kernel
theorem dL_law_960 : decode code 960 = .ok (.iadd, 1) := by decide +kernel
theorem dL_law_961 : decode code 961 = .ok (.iaload, 1) := by decide +kernel
theorem dL_law_962 : decode code 962 = .ok (.invokevirtual 122, 3) := by decide +kernel
theorem dL_law_965 : decode code 965 = .ok (.aload_n 2, 1) := by decide +kernel
theorem dL_law_966 : decode code 966 = .ok (.aload_n 0, 1) := by decide +kernel
theorem dL_law_967 : decode code 967 = .ok (.iload_n 3, 1) := by decide +kernel
theorem dL_law_968 : decode code 968 = .ok (.iconst 1, 1) := by decide +kernel
theorem dL_law_969 : decode code 969 = .ok (.iadd, 1) := by decide +kernel
theorem dL_law_970 : decode code 970 = .ok (.iaload, 1) := by decide +kernel
theorem dL_law_971 : decode code 971 = .ok (.aload_n 0, 1) := by decide +kernel
theorem dL_law_972 : decode code 972 = .ok (.iload_n 3, 1) := by decide +kernel
theorem dL_law_973 : decode code 973 = .ok (.iconst 2, 1) := by decide +kernel
theorem dL_law_974 : decode code 974 = .ok (.iadd, 1) := by decide +kernel
theorem dL_law_975 : decode code 975 = .ok (.iaload, 1) := by decide +kernel
theorem dL_law_976 : decode code 976 = .ok (.invokevirtual 125, 3) := by decide +kernel
theorem dL_law_979 : decode code 979 = .ok (.if_icmp .eq 377, 3) := by decide +kernel
theorem dL_law_982 : decode code 982 = .ok (.iconst 0, 1) := by decide +kernel
theorem dL_law_983 : decode code 983 = .ok (.ireturn, 1) := by decide +kernel
theorem dL_law_984 : decode code 984 = .ok (.aload_n 1, 1) := by decide +kernel
theorem dL_law_985 : decode code 985 = .ok (.invokevirtual 126, 3) := by decide +kernel
theorem dL_law_988 : decode code 988 = .ok (.aload_n 2, 1) := by decide +kernel
theorem dL_law_989 : decode code 989 = .ok (.invokevirtual 129, 3) := by decide +kernel
theorem dL_law_992 : decode code 992 = .ok (.if_icmp .eq 364, 3) := by decide +kernel
theorem dL_law_995 : decode code 995 = .ok (.iconst 0, 1) := by decide +kernel
theorem dL_law_996 : decode code 996 = .ok (.ireturn, 1) := by decide +kernel
theorem dL_law_997 : decode code 997 = .ok (.aload_n 1, 1) := by decide +kernel
theorem dL_law_998 : decode code 998 = .ok (.invokevirtual 130, 3) := by decide +kernel
theorem dL_law_1001 : decode code 1001 = .ok (.aload_n 2, 1) := by decide +kernel
theorem dL_law_1002 : decode code 1002 = .ok (.invokevirtual 133, 3) := by decide +kernel
theorem dL_law_1005 : decode code 1005 = .ok (.if_icmp .eq 351, 3) := by decide +kernel
theorem dL_law_1008 : decode code 1008 = .ok (.iconst 0, 1) := by decide +kernel
theorem dL_law_1009 : decode code 1009 = .ok (.ireturn, 1) := by decide +kernel
theorem dL_law_1010 : decode code 1010 = .ok (.aload_n 1, 1) := by decide +kernel
theorem dL_law_1011 : decode code 1011 = .ok (.aload_n 0, 1) := by decide +kernel
theorem dL_law_1012 : decode code 1012 = .ok (.iload_n 3, 1) := by decide +kernel
theorem dL_law_1013 : decode code 1013 = .ok (.iconst 1, 1) := by decide +kernel
theorem dL_law_1014 : decode code 1014 = .ok (.iadd, 1) := by decide +kernel
theorem dL_law_1015 : decode code 1015 = .ok (.iaload, 1) := by decide +kernel
theorem dL_law_1016 : decode code 1016 = .ok (.aload_n 0, 1) := by decide +kernel
theorem dL_law_1017 : decode code 1017 = .ok (.iload_n 3, 1) := by decide +kernel
theorem dL_law_1018 : decode code 1018 = .ok (.iconst 2, 1) := by decide +kernel
theorem dL_law_1019 : decode code 1019 = .ok (.iadd, 1) := by decide +kernel
theorem dL_law_1020 : decode code 1020 = .ok (.iaload, 1) := by decide +kernel
theorem dL_law_1021 : decode code 1021 = .ok (.invokevirtual 134, 3) := by decide +kernel
theorem dL_law_1024 : decode code 1024 = .ok (.aload_n 2, 1) := by decide +kernel
theorem dL_law_1025 : decode code 1025 = .ok (.aload_n 0, 1) := by decide +kernel
theorem dL_law_1026 : decode code 1026 = .ok (.iload_n 3, 1) := by decide +kernel
theorem dL_law_1027 : decode code 1027 = .ok (.iconst 1, 1) := by decide +kernel
theorem dL_law_1028 : decode code 1028 = .ok (.iadd, 1) := by decide +kernel
theorem dL_law_1029 : decode code 1029 = .ok (.iaload, 1) := by decide +kernel
theorem dL_law_1030 : decode code 1030 = .ok (.aload_n 0, 1) := by decide +kernel
theorem dL_law_1031 : decode code 1031 = .ok (.iload_n 3, 1) := by decide +kernel
theorem dL_law_1032 : decode code 1032 = .ok (.iconst 2, 1) := by decide +kernel
theorem dL_law_1033 : decode code 1033 = .ok (.iadd, 1) := by decide +kernel
theorem dL_law_1034 : decode code 1034 = .ok (.iaload, 1) := by decide +kernel
theorem dL_law_1035 : decode code 1035 = .ok (.invokevirtual 137, 3) := by decide +kernel
theorem dL_law_1038 : decode code 1038 = .ok (.if_icmp .eq 318, 3) := by decide +kernel
theorem dL_law_1041 : decode code 1041 = .ok (.iconst 0, 1) := by decide +kernel
theorem dL_law_1042 : decode code 1042 = .ok (.ireturn, 1) := by decide +kernel
theorem dL_law_1043 : decode code 1043 = .ok (.aload_n 1, 1) := by decide +kernel
theorem dL_law_1044 : decode code 1044 = .ok (.aload_n 0, 1) := by decide +kernel
theorem dL_law_1045 : decode code 1045 = .ok (.iload_n 3, 1) := by decide +kernel
theorem dL_law_1046 : decode code 1046 = .ok (.iconst 1, 1) := by decide +kernel
theorem dL_law_1047 : decode code 1047 = .ok (.iadd, 1) := by decide +kernel
theorem dL_law_1048 : decode code 1048 = .ok (.iaload, 1) := by decide +kernel
theorem dL_law_1049 : decode code 1049 = .ok (.aload_n 0, 1) := by decide +kernel
theorem dL_law_1050 : decode code 1050 = .ok (.iload_n 3, 1) := by decide +kernel
theorem dL_law_1051 : decode code 1051 = .ok (.iconst 2, 1) := by decide +kernel
theorem dL_law_1052 : decode code 1052 = .ok (.iadd, 1) := by decide +kernel
theorem dL_law_1053 : decode code 1053 = .ok (.iaload, 1) := by decide +kernel
theorem dL_law_1054 : decode code 1054 = .ok (.invokevirtual 138, 3) := by decide +kernel
theorem dL_law_1057 : decode code 1057 = .ok (.aload_n 2, 1) := by decide +kernel
theorem dL_law_1058 : decode code 1058 = .ok (.aload_n 0, 1) := by decide +kernel
theorem dL_law_1059 : decode code 1059 = .ok (.iload_n 3, 1) := by decide +kernel
theorem dL_law_1060 : decode code 1060 = .ok (.iconst 1, 1) := by decide +kernel
theorem dL_law_1061 : decode code 1061 = .ok (.iadd, 1) := by decide +kernel
theorem dL_law_1062 : decode code 1062 = .ok (.iaload, 1) := by decide +kernel
theorem dL_law_1063 : decode code 1063 = .ok (.aload_n 0, 1) := by decide +kernel
theorem dL_law_1064 : decode code 1064 = .ok (.iload_n 3, 1) := by decide +kernel
theorem dL_law_1065 : decode code 1065 = .ok (.iconst 2, 1) := by decide +kernel
theorem dL_law_1066 : decode code 1066 = .ok (.iadd, 1) := by decide +kernel
theorem dL_law_1067 : decode code 1067 = .ok (.iaload, 1) := by decide +kernel
theorem dL_law_1068 : decode code 1068 = .ok (.invokevirtual 141, 3) := by decide +kernel
theorem dL_law_1071 : decode code 1071 = .ok (.if_icmp .eq 285, 3) := by decide +kernel
theorem dL_law_1074 : decode code 1074 = .ok (.iconst 0, 1) := by decide +kernel
theorem dL_law_1075 : decode code 1075 = .ok (.ireturn, 1) := by decide +kernel
theorem dL_law_1076 : decode code 1076 = .ok (.aload_n 1, 1) := by decide +kernel
theorem dL_law_1077 : decode code 1077 = .ok (.aload_n 0, 1) := by decide +kernel
theorem dL_law_1078 : decode code 1078 = .ok (.iload_n 3, 1) := by decide +kernel
theorem dL_law_1079 : decode code 1079 = .ok (.iconst 1, 1) := by decide +kernel
theorem dL_law_1080 : decode code 1080 = .ok (.iadd, 1) := by decide +kernel
theorem dL_law_1081 : decode code 1081 = .ok (.iaload, 1) := by decide +kernel
theorem dL_law_1082 : decode code 1082 = .ok (.aload_n 0, 1) := by decide +kernel
theorem dL_law_1083 : decode code 1083 = .ok (.iload_n 3, 1) := by decide +kernel
theorem dL_law_1084 : decode code 1084 = .ok (.iconst 2, 1) := by decide +kernel
theorem dL_law_1085 : decode code 1085 = .ok (.iadd, 1) := by decide +kernel
theorem dL_law_1086 : decode code 1086 = .ok (.iaload, 1) := by decide +kernel
theorem dL_law_1087 : decode code 1087 = .ok (.aload_n 0, 1) := by decide +kernel
theorem dL_law_1088 : decode code 1088 = .ok (.iload_n 3, 1) := by decide +kernel
theorem dL_law_1089 : decode code 1089 = .ok (.iconst 3, 1) := by decide +kernel
theorem dL_law_1090 : decode code 1090 = .ok (.iadd, 1) := by decide +kernel
theorem dL_law_1091 : decode code 1091 = .ok (.iaload, 1) := by decide +kernel
theorem dL_law_1092 : decode code 1092 = .ok (.invokevirtual 142, 3) := by decide +kernel
theorem dL_law_1095 : decode code 1095 = .ok (.aload_n 2, 1) := by decide +kernel
theorem dL_law_1096 : decode code 1096 = .ok (.aload_n 0, 1) := by decide +kernel
theorem dL_law_1097 : decode code 1097 = .ok (.iload_n 3, 1) := by decide +kernel
theorem dL_law_1098 : decode code 1098 = .ok (.iconst 1, 1) := by decide +kernel
theorem dL_law_1099 : decode code 1099 = .ok (.iadd, 1) := by decide +kernel
theorem dL_law_1100 : decode code 1100 = .ok (.iaload, 1) := by decide +kernel
theorem dL_law_1101 : decode code 1101 = .ok (.aload_n 0, 1) := by decide +kernel
theorem dL_law_1102 : decode code 1102 = .ok (.iload_n 3, 1) := by decide +kernel
theorem dL_law_1103 : decode code 1103 = .ok (.iconst 2, 1) := by decide +kernel
theorem dL_law_1104 : decode code 1104 = .ok (.iadd, 1) := by decide +kernel
theorem dL_law_1105 : decode code 1105 = .ok (.iaload, 1) := by decide +kernel
theorem dL_law_1106 : decode code 1106 = .ok (.aload_n 0, 1) := by decide +kernel
theorem dL_law_1107 : decode code 1107 = .ok (.iload_n 3, 1) := by decide +kernel
theorem dL_law_1108 : decode code 1108 = .ok (.iconst 3, 1) := by decide +kernel
theorem dL_law_1109 : decode code 1109 = .ok (.iadd, 1) := by decide +kernel
theorem dL_law_1110 : decode code 1110 = .ok (.iaload, 1) := by decide +kernel
theorem dL_law_1111 : decode code 1111 = .ok (.invokevirtual 145, 3) := by decide +kernel
theorem dL_law_1114 : decode code 1114 = .ok (.if_icmp .eq 242, 3) := by decide +kernel
theorem dL_law_1117 : decode code 1117 = .ok (.iconst 0, 1) := by decide +kernel
theorem dL_law_1118 : decode code 1118 = .ok (.ireturn, 1) := by decide +kernel
theorem dL_law_1119 : decode code 1119 = .ok (.aload_n 1, 1) := by decide +kernel
theorem dL_law_1120 : decode code 1120 = .ok (.aload_n 0, 1) := by decide +kernel
theorem dL_law_1121 : decode code 1121 = .ok (.iload_n 3, 1) := by decide +kernel
theorem dL_law_1122 : decode code 1122 = .ok (.iconst 1, 1) := by decide +kernel
theorem dL_law_1123 : decode code 1123 = .ok (.iadd, 1) := by decide +kernel
theorem dL_law_1124 : decode code 1124 = .ok (.iaload, 1) := by decide +kernel
theorem dL_law_1125 : decode code 1125 = .ok (.aload_n 0, 1) := by decide +kernel
theorem dL_law_1126 : decode code 1126 = .ok (.iload_n 3, 1) := by decide +kernel
theorem dL_law_1127 : decode code 1127 = .ok (.iconst 2, 1) := by decide +kernel
theorem dL_law_1128 : decode code 1128 = .ok (.iadd, 1) := by decide +kernel
theorem dL_law_1129 : decode code 1129 = .ok (.iaload, 1) := by decide +kernel
theorem dL_law_1130 : decode code 1130 = .ok (.aload_n 0, 1) := by decide +kernel
theorem dL_law_1131 : decode code 1131 = .ok (.iload_n 3, 1) := by decide +kernel
theorem dL_law_1132 : decode code 1132 = .ok (.iconst 3, 1) := by decide +kernel
theorem dL_law_1133 : decode code 1133 = .ok (.iadd, 1) := by decide +kernel
theorem dL_law_1134 : decode code 1134 = .ok (.iaload, 1) := by decide +kernel
theorem dL_law_1135 : decode code 1135 = .ok (.invokevirtual 146, 3) := by decide +kernel
theorem dL_law_1138 : decode code 1138 = .ok (.aload_n 2, 1) := by decide +kernel
theorem dL_law_1139 : decode code 1139 = .ok (.aload_n 0, 1) := by decide +kernel
theorem dL_law_1140 : decode code 1140 = .ok (.iload_n 3, 1) := by decide +kernel
theorem dL_law_1141 : decode code 1141 = .ok (.iconst 1, 1) := by decide +kernel
theorem dL_law_1142 : decode code 1142 = .ok (.iadd, 1) := by decide +kernel
theorem dL_law_1143 : decode code 1143 = .ok (.iaload, 1) := by decide +kernel
theorem dL_law_1144 : decode code 1144 = .ok (.aload_n 0, 1) := by decide +kernel
theorem dL_law_1145 : decode code 1145 = .ok (.iload_n 3, 1) := by decide +kernel
theorem dL_law_1146 : decode code 1146 = .ok (.iconst 2, 1) := by decide +kernel
theorem dL_law_1147 : decode code 1147 = .ok (.iadd, 1) := by decide +kernel
theorem dL_law_1148 : decode code 1148 = .ok (.iaload, 1) := by decide +kernel
theorem dL_law_1149 : decode code 1149 = .ok (.aload_n 0, 1) := by decide +kernel
theorem dL_law_1150 : decode code 1150 = .ok (.iload_n 3, 1) := by decide +kernel
theorem dL_law_1151 : decode code 1151 = .ok (.iconst 3, 1) := by decide +kernel
theorem dL_law_1152 : decode code 1152 = .ok (.iadd, 1) := by decide +kernel
theorem dL_law_1153 : decode code 1153 = .ok (.iaload, 1) := by decide +kernel
theorem dL_law_1154 : decode code 1154 = .ok (.invokevirtual 149, 3) := by decide +kernel
theorem dL_law_1157 : decode code 1157 = .ok (.if_icmp .eq 199, 3) := by decide +kernel
theorem dL_law_1160 : decode code 1160 = .ok (.iconst 0, 1) := by decide +kernel
theorem dL_law_1161 : decode code 1161 = .ok (.ireturn, 1) := by decide +kernel
theorem dL_law_1162 : decode code 1162 = .ok (.aload_n 1, 1) := by decide +kernel
theorem dL_law_1163 : decode code 1163 = .ok (.aload_n 0, 1) := by decide +kernel
theorem dL_law_1164 : decode code 1164 = .ok (.iload_n 3, 1) := by decide +kernel
theorem dL_law_1165 : decode code 1165 = .ok (.iconst 1, 1) := by decide +kernel
theorem dL_law_1166 : decode code 1166 = .ok (.iadd, 1) := by decide +kernel
theorem dL_law_1167 : decode code 1167 = .ok (.iaload, 1) := by decide +kernel
theorem dL_law_1168 : decode code 1168 = .ok (.aload_n 0, 1) := by decide +kernel
theorem dL_law_1169 : decode code 1169 = .ok (.iload_n 3, 1) := by decide +kernel
theorem dL_law_1170 : decode code 1170 = .ok (.iconst 2, 1) := by decide +kernel
theorem dL_law_1171 : decode code 1171 = .ok (.iadd, 1) := by decide +kernel
theorem dL_law_1172 : decode code 1172 = .ok (.iaload, 1) := by decide +kernel
theorem dL_law_1173 : decode code 1173 = .ok (.aload_n 0, 1) := by decide +kernel
theorem dL_law_1174 : decode code 1174 = .ok (.iload_n 3, 1) := by decide +kernel
theorem dL_law_1175 : decode code 1175 = .ok (.iconst 3, 1) := by decide +kernel
theorem dL_law_1176 : decode code 1176 = .ok (.iadd, 1) := by decide +kernel
theorem dL_law_1177 : decode code 1177 = .ok (.iaload, 1) := by decide +kernel
theorem dL_law_1178 : decode code 1178 = .ok (.aload_n 0, 1) := by decide +kernel
theorem dL_law_1179 : decode code 1179 = .ok (.iload_n 3, 1) := by decide +kernel
theorem dL_law_1180 : decode code 1180 = .ok (.iconst 4, 1) := by decide +kernel
theorem dL_law_1181 : decode code 1181 = .ok (.iadd, 1) := by decide +kernel
theorem dL_law_1182 : decode code 1182 = .ok (.iaload, 1) := by decide +kernel
theorem dL_law_1183 : decode code 1183 = .ok (.aload_n 0, 1) := by decide +kernel
theorem dL_law_1184 : decode code 1184 = .ok (.iload_n 3, 1) := by decide +kernel
theorem dL_law_1185 : decode code 1185 = .ok (.iconst 5, 1) := by decide +kernel
theorem dL_law_1186 : decode code 1186 = .ok (.iadd, 1) := by decide +kernel
theorem dL_law_1187 : decode code 1187 = .ok (.iaload, 1) := by decide +kernel
theorem dL_law_1188 : decode code 1188 = .ok (.invokevirtual 150, 3) := by decide +kernel
theorem dL_law_1191 : decode code 1191 = .ok (.aload_n 2, 1) := by decide +kernel
theorem dL_law_1192 : decode code 1192 = .ok (.aload_n 0, 1) := by decide +kernel
theorem dL_law_1193 : decode code 1193 = .ok (.iload_n 3, 1) := by decide +kernel
theorem dL_law_1194 : decode code 1194 = .ok (.iconst 1, 1) := by decide +kernel
theorem dL_law_1195 : decode code 1195 = .ok (.iadd, 1) := by decide +kernel
theorem dL_law_1196 : decode code 1196 = .ok (.iaload, 1) := by decide +kernel
theorem dL_law_1197 : decode code 1197 = .ok (.aload_n 0, 1) := by decide +kernel
theorem dL_law_1198 : decode code 1198 = .ok (.iload_n 3, 1) := by decide +kernel
theorem dL_law_1199 : decode code 1199 = .ok (.iconst 2, 1) := by decide +kernel
theorem dL_law_1200 : decode code 1200 = .ok (.iadd, 1) := by decide +kernel
theorem dL_law_1201 : decode code 1201 = .ok (.iaload, 1) := by decide +kernel
theorem dL_law_1202 : decode code 1202 = .ok (.aload_n 0, 1) := by decide +kernel
theorem dL_law_1203 : decode code 1203 = .ok (.iload_n 3, 1) := by decide +kernel
theorem dL_law_1204 : decode code 1204 = .ok (.iconst 3, 1) := by decide +kernel
theorem dL_law_1205 : decode code 1205 = .ok (.iadd, 1) := by decide +kernel
theorem dL_law_1206 : decode code 1206 = .ok (.iaload, 1) := by decide +kernel
theorem dL_law_1207 : decode code 1207 = .ok (.aload_n 0, 1) := by decide +kernel
theorem dL_law_1208 : decode code 1208 = .ok (.iload_n 3, 1) := by decide +kernel
theorem dL_law_1209 : decode code 1209 = .ok (.iconst 4, 1) := by decide +kernel
theorem dL_law_1210 : decode code 1210 = .ok (.iadd, 1) := by decide +kernel
theorem dL_law_1211 : decode code 1211 = .ok (.iaload, 1) := by decide +kernel
theorem dL_law_1212 : decode code 1212 = .ok (.aload_n 0, 1) := by decide +kernel
theorem dL_law_1213 : decode code 1213 = .ok (.iload_n 3, 1) := by decide +kernel
theorem dL_law_1214 : decode code 1214 = .ok (.iconst 5, 1) := by decide +kernel
theorem dL_law_1215 : decode code 1215 = .ok (.iadd, 1) := by decide +kernel
theorem dL_law_1216 : decode code 1216 = .ok (.iaload, 1) := by decide +kernel
theorem dL_law_1217 : decode code 1217 = .ok (.invokevirtual 154, 3) := by decide +kernel
theorem dL_law_1220 : decode code 1220 = .ok (.if_icmp .eq 136, 3) := by decide +kernel
theorem dL_law_1223 : decode code 1223 = .ok (.iconst 0, 1) := by decide +kernel
theorem dL_law_1224 : decode code 1224 = .ok (.ireturn, 1) := by decide +kernel
theorem dL_law_1225 : decode code 1225 = .ok (.aload_n 1, 1) := by decide +kernel
theorem dL_law_1226 : decode code 1226 = .ok (.aload_n 0, 1) := by decide +kernel
theorem dL_law_1227 : decode code 1227 = .ok (.iload_n 3, 1) := by decide +kernel
theorem dL_law_1228 : decode code 1228 = .ok (.iconst 1, 1) := by decide +kernel
theorem dL_law_1229 : decode code 1229 = .ok (.iadd, 1) := by decide +kernel
theorem dL_law_1230 : decode code 1230 = .ok (.iaload, 1) := by decide +kernel
theorem dL_law_1231 : decode code 1231 = .ok (.invokevirtual 155, 3) := by decide +kernel
theorem dL_law_1234 : decode code 1234 = .ok (.aload_n 2, 1) := by decide +kernel
theorem dL_law_1235 : decode code 1235 = .ok (.aload_n 0, 1) := by decide +kernel
theorem dL_law_1236 : decode code 1236 = .ok (.iload_n 3, 1) := by decide +kernel
theorem dL_law_1237 : decode code 1237 = .ok (.iconst 1, 1) := by decide +kernel
theorem dL_law_1238 : decode code 1238 = .ok (.iadd, 1) := by decide +kernel
theorem dL_law_1239 : decode code 1239 = .ok (.iaload, 1) := by decide +kernel
theorem dL_law_1240 : decode code 1240 = .ok (.invokevirtual 158, 3) := by decide +kernel
theorem dL_law_1243 : decode code 1243 = .ok (.if_icmp .eq 113, 3) := by decide +kernel
theorem dL_law_1246 : decode code 1246 = .ok (.iconst 0, 1) := by decide +kernel
theorem dL_law_1247 : decode code 1247 = .ok (.ireturn, 1) := by decide +kernel
theorem dL_law_1248 : decode code 1248 = .ok (.aload_n 1, 1) := by decide +kernel
theorem dL_law_1249 : decode code 1249 = .ok (.aload_n 0, 1) := by decide +kernel
theorem dL_law_1250 : decode code 1250 = .ok (.iload_n 3, 1) := by decide +kernel
theorem dL_law_1251 : decode code 1251 = .ok (.iconst 1, 1) := by decide +kernel
theorem dL_law_1252 : decode code 1252 = .ok (.iadd, 1) := by decide +kernel
theorem dL_law_1253 : decode code 1253 = .ok (.iaload, 1) := by decide +kernel
theorem dL_law_1254 : decode code 1254 = .ok (.invokevirtual 159, 3) := by decide +kernel
theorem dL_law_1257 : decode code 1257 = .ok (.aload_n 2, 1) := by decide +kernel
theorem dL_law_1258 : decode code 1258 = .ok (.aload_n 0, 1) := by decide +kernel
theorem dL_law_1259 : decode code 1259 = .ok (.iload_n 3, 1) := by decide +kernel
theorem dL_law_1260 : decode code 1260 = .ok (.iconst 1, 1) := by decide +kernel
theorem dL_law_1261 : decode code 1261 = .ok (.iadd, 1) := by decide +kernel
theorem dL_law_1262 : decode code 1262 = .ok (.iaload, 1) := by decide +kernel
theorem dL_law_1263 : decode code 1263 = .ok (.invokevirtual 162, 3) := by decide +kernel
theorem dL_law_1266 : decode code 1266 = .ok (.if_icmp .eq 90, 3) := by decide +kernel
theorem dL_law_1269 : decode code 1269 = .ok (.iconst 0, 1) := by decide +kernel
theorem dL_law_1270 : decode code 1270 = .ok (.ireturn, 1) := by decide +kernel
theorem dL_law_1271 : decode code 1271 = .ok (.aload_n 1, 1) := by decide +kernel
theorem dL_law_1272 : decode code 1272 = .ok (.invokevirtual 163, 3) := by decide +kernel
theorem dL_law_1275 : decode code 1275 = .ok (.aload_n 2, 1) := by decide +kernel
theorem dL_law_1276 : decode code 1276 = .ok (.invokevirtual 166, 3) := by decide +kernel
theorem dL_law_1279 : decode code 1279 = .ok (.if_icmp .eq 77, 3) := by decide +kernel
theorem dL_law_1282 : decode code 1282 = .ok (.iconst 0, 1) := by decide +kernel
theorem dL_law_1283 : decode code 1283 = .ok (.ireturn, 1) := by decide +kernel
theorem dL_law_1284 : decode code 1284 = .ok (.aload_n 1, 1) := by decide +kernel
theorem dL_law_1285 : decode code 1285 = .ok (.invokevirtual 167, 3) := by decide +kernel
theorem dL_law_1288 : decode code 1288 = .ok (.aload_n 2, 1) := by decide +kernel
theorem dL_law_1289 : decode code 1289 = .ok (.invokevirtual 170, 3) := by decide +kernel
theorem dL_law_1292 : decode code 1292 = .ok (.if_icmp .eq 64, 3) := by decide +kernel
theorem dL_law_1295 : decode code 1295 = .ok (.iconst 0, 1) := by decide +kernel
theorem dL_law_1296 : decode code 1296 = .ok (.ireturn, 1) := by decide +kernel
theorem dL_law_1297 : decode code 1297 = .ok (.aload_n 1, 1) := by decide +kernel
theorem dL_law_1298 : decode code 1298 = .ok (.invokevirtual 171, 3) := by decide +kernel
theorem dL_law_1301 : decode code 1301 = .ok (.aload_n 2, 1) := by decide +kernel
theorem dL_law_1302 : decode code 1302 = .ok (.invokevirtual 174, 3) := by decide +kernel
theorem dL_law_1305 : decode code 1305 = .ok (.if_icmp .eq 51, 3) := by decide +kernel
theorem dL_law_1308 : decode code 1308 = .ok (.iconst 0, 1) := by decide +kernel
theorem dL_law_1309 : decode code 1309 = .ok (.ireturn, 1) := by decide +kernel
theorem dL_law_1310 : decode code 1310 = .ok (.aload_n 1, 1) := by decide +kernel
theorem dL_law_1311 : decode code 1311 = .ok (.aload_n 0, 1) := by decide +kernel
theorem dL_law_1312 : decode code 1312 = .ok (.iload_n 3, 1) := by decide +kernel
theorem dL_law_1313 : decode code 1313 = .ok (.iconst 1, 1) := by decide +kernel
theorem dL_law_1314 : decode code 1314 = .ok (.iadd, 1) := by decide +kernel
theorem dL_law_1315 : decode code 1315 = .ok (.iaload, 1) := by decide +kernel
theorem dL_law_1316 : decode code 1316 = .ok (.invokevirtual 175, 3) := by decide +kernel
theorem dL_law_1319 : decode code 1319 = .ok (.aload_n 2, 1) := by decide +kernel
theorem dL_law_1320 : decode code 1320 = .ok (.aload_n 0, 1) := by decide +kernel
theorem dL_law_1321 : decode code 1321 = .ok (.iload_n 3, 1) := by decide +kernel
theorem dL_law_1322 : decode code 1322 = .ok (.iconst 1, 1) := by decide +kernel
theorem dL_law_1323 : decode code 1323 = .ok (.iadd, 1) := by decide +kernel
theorem dL_law_1324 : decode code 1324 = .ok (.iaload, 1) := by decide +kernel
theorem dL_law_1325 : decode code 1325 = .ok (.invokevirtual 178, 3) := by decide +kernel
theorem dL_law_1328 : decode code 1328 = .ok (.if_icmp .eq 28, 3) := by decide +kernel
theorem dL_law_1331 : decode code 1331 = .ok (.iconst 0, 1) := by decide +kernel
theorem dL_law_1332 : decode code 1332 = .ok (.ireturn, 1) := by decide +kernel
theorem dL_law_1333 : decode code 1333 = .ok (.aload_n 1, 1) := by decide +kernel
theorem dL_law_1334 : decode code 1334 = .ok (.aload_n 0, 1) := by decide +kernel
theorem dL_law_1335 : decode code 1335 = .ok (.iload_n 3, 1) := by decide +kernel
theorem dL_law_1336 : decode code 1336 = .ok (.iconst 1, 1) := by decide +kernel
theorem dL_law_1337 : decode code 1337 = .ok (.iadd, 1) := by decide +kernel
theorem dL_law_1338 : decode code 1338 = .ok (.iaload, 1) := by decide +kernel
theorem dL_law_1339 : decode code 1339 = .ok (.invokevirtual 179, 3) := by decide +kernel
theorem dL_law_1342 : decode code 1342 = .ok (.aload_n 2, 1) := by decide +kernel
theorem dL_law_1343 : decode code 1343 = .ok (.aload_n 0, 1) := by decide +kernel
theorem dL_law_1344 : decode code 1344 = .ok (.iload_n 3, 1) := by decide +kernel
theorem dL_law_1345 : decode code 1345 = .ok (.iconst 1, 1) := by decide +kernel
theorem dL_law_1346 : decode code 1346 = .ok (.iadd, 1) := by decide +kernel
theorem dL_law_1347 : decode code 1347 = .ok (.iaload, 1) := by decide +kernel
theorem dL_law_1348 : decode code 1348 = .ok (.invokevirtual 182, 3) := by decide +kernel
theorem dL_law_1351 : decode code 1351 = .ok (.if_icmp .eq 5, 3) := by decide +kernel
theorem dL_law_1354 : decode code 1354 = .ok (.iconst 0, 1) := by decide +kernel
theorem dL_law_1355 : decode code 1355 = .ok (.ireturn, 1) := by decide +kernel
theorem dL_law_1356 : decode code 1356 = .ok (.iinc 3 6, 3) := by decide +kernel
theorem dL_law_1359 : decode code 1359 = .ok (.goto (-1341), 3) := by decide +kernel
theorem dL_law_1362 : decode code 1362 = .ok (.iconst 1, 1) := by decide +kernel
theorem dL_law_1363 : decode code 1363 = .ok (.ireturn, 1) := by decide +kernel
