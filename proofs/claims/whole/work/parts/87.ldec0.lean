theorem d_law_0 : decode code 0 = .ok (.new 7, 3) := by decide +kernel
theorem d_law_3 : decode code 3 = .ok (.dup, 1) := by decide +kernel
theorem d_law_4 : decode code 4 = .ok (.invokespecial 9, 3) := by decide +kernel
theorem d_law_7 : decode code 7 = .ok (.astore_n 1, 1) := by decide +kernel
theorem d_law_8 : decode code 8 = .ok (.new 10, 3) := by decide +kernel
theorem d_law_11 : decode code 11 = .ok (.dup, 1) := by decide +kernel
theorem d_law_12 : decode code 12 = .ok (.invokespecial 12, 3) := by decide +kernel
theorem d_law_15 : decode code 15 = .ok (.astore_n 2, 1) := by decide +kernel
theorem d_law_16 : decode code 16 = .ok (.iconst 0, 1) := by decide +kernel
theorem d_law_17 : decode code 17 = .ok (.istore_n 3, 1) := by decide +kernel
theorem d_law_18 : decode code 18 = .ok (.iload_n 3, 1) := by decide +kernel
theorem d_law_19 : decode code 19 = .ok (.aload_n 0, 1) := by decide +kernel
theorem d_law_20 : decode code 20 = .ok (.arraylength, 1) := by decide +kernel
theorem d_law_21 : decode code 21 = .ok (.bipush 6, 2) := by decide +kernel
theorem d_law_23 : decode code 23 = .ok (.isub, 1) := by decide +kernel
theorem d_law_24 : decode code 24 = .ok (.if_icmp .gt 1341, 3) := by decide +kernel
theorem d_law_27 : decode code 27 = .ok (.aload_n 0, 1) := by decide +kernel
theorem d_law_28 : decode code 28 = .ok (.iload_n 3, 1) := by decide +kernel
theorem d_law_29 : decode code 29 = .ok (.iaload, 1) := by decide +kernel
theorem d_law_30 : decode code 30 = .ok (.bipush 63, 2) := by decide +kernel
theorem d_law_32 : decode code 32 = .ok (.iand, 1) := by decide +kernel
theorem d_law_33 : decode code 33 = .ok (.tableswitch 1326 0 39 #[175, 198, 231, 254, 287, 320, 363, 386, 419, 442, 465, 508, 531, 554, 587, 600, 633, 666, 709, 742, 765, 798, 831, 854, 898, 921, 954, 967, 980, 1013, 1046, 1089, 1132, 1195, 1218, 1241, 1254, 1267, 1280, 1303], 175) := by decide +kernel
theorem d_law_208 : decode code 208 = .ok (.aload_n 1, 1) := by decide +kernel
theorem d_law_209 : decode code 209 = .ok (.aload_n 0, 1) := by decide +kernel
theorem d_law_210 : decode code 210 = .ok (.iload_n 3, 1) := by decide +kernel
theorem d_law_211 : decode code 211 = .ok (.iconst 1, 1) := by decide +kernel
theorem d_law_212 : decode code 212 = .ok (.iadd, 1) := by decide +kernel
theorem d_law_213 : decode code 213 = .ok (.iaload, 1) := by decide +kernel
theorem d_law_214 : decode code 214 = .ok (.invokevirtual 13, 3) := by decide +kernel
theorem d_law_217 : decode code 217 = .ok (.aload_n 2, 1) := by decide +kernel
theorem d_law_218 : decode code 218 = .ok (.aload_n 0, 1) := by decide +kernel
theorem d_law_219 : decode code 219 = .ok (.iload_n 3, 1) := by decide +kernel
theorem d_law_220 : decode code 220 = .ok (.iconst 1, 1) := by decide +kernel
theorem d_law_221 : decode code 221 = .ok (.iadd, 1) := by decide +kernel
theorem d_law_222 : decode code 222 = .ok (.iaload, 1) := by decide +kernel
theorem d_law_223 : decode code 223 = .ok (.invokevirtual 17, 3) := by decide +kernel
theorem d_law_226 : decode code 226 = .ok (.if_icmp .eq 1133, 3) := by decide +kernel
theorem d_law_229 : decode code 229 = .ok (.iconst 0, 1) := by decide +kernel
theorem d_law_230 : decode code 230 = .ok (.ireturn, 1) := by decide +kernel
theorem d_law_231 : decode code 231 = .ok (.aload_n 1, 1) := by decide +kernel
theorem d_law_232 : decode code 232 = .ok (.aload_n 0, 1) := by decide +kernel
theorem d_law_233 : decode code 233 = .ok (.iload_n 3, 1) := by decide +kernel
theorem d_law_234 : decode code 234 = .ok (.iconst 1, 1) := by decide +kernel
theorem d_law_235 : decode code 235 = .ok (.iadd, 1) := by decide +kernel
theorem d_law_236 : decode code 236 = .ok (.iaload, 1) := by decide +kernel
theorem d_law_237 : decode code 237 = .ok (.aload_n 0, 1) := by decide +kernel
theorem d_law_238 : decode code 238 = .ok (.iload_n 3, 1) := by decide +kernel
theorem d_law_239 : decode code 239 = .ok (.iconst 2, 1) := by decide +kernel
theorem d_law_240 : decode code 240 = .ok (.iadd, 1) := by decide +kernel
theorem d_law_241 : decode code 241 = .ok (.iaload, 1) := by decide +kernel
theorem d_law_242 : decode code 242 = .ok (.invokevirtual 18, 3) := by decide +kernel
theorem d_law_245 : decode code 245 = .ok (.aload_n 2, 1) := by decide +kernel
theorem d_law_246 : decode code 246 = .ok (.aload_n 0, 1) := by decide +kernel
theorem d_law_247 : decode code 247 = .ok (.iload_n 3, 1) := by decide +kernel
theorem d_law_248 : decode code 248 = .ok (.iconst 1, 1) := by decide +kernel
theorem d_law_249 : decode code 249 = .ok (.iadd, 1) := by decide +kernel
theorem d_law_250 : decode code 250 = .ok (.iaload, 1) := by decide +kernel
theorem d_law_251 : decode code 251 = .ok (.aload_n 0, 1) := by decide +kernel
theorem d_law_252 : decode code 252 = .ok (.iload_n 3, 1) := by decide +kernel
theorem d_law_253 : decode code 253 = .ok (.iconst 2, 1) := by decide +kernel
theorem d_law_254 : decode code 254 = .ok (.iadd, 1) := by decide +kernel
theorem d_law_255 : decode code 255 = .ok (.iaload, 1) := by decide +kernel
theorem d_law_256 : decode code 256 = .ok (.invokevirtual 22, 3) := by decide +kernel
theorem d_law_259 : decode code 259 = .ok (.if_icmp .eq 1100, 3) := by decide +kernel
theorem d_law_262 : decode code 262 = .ok (.iconst 0, 1) := by decide +kernel
theorem d_law_263 : decode code 263 = .ok (.ireturn, 1) := by decide +kernel
theorem d_law_264 : decode code 264 = .ok (.aload_n 1, 1) := by decide +kernel
theorem d_law_265 : decode code 265 = .ok (.aload_n 0, 1) := by decide +kernel
theorem d_law_266 : decode code 266 = .ok (.iload_n 3, 1) := by decide +kernel
theorem d_law_267 : decode code 267 = .ok (.iconst 1, 1) := by decide +kernel
theorem d_law_268 : decode code 268 = .ok (.iadd, 1) := by decide +kernel
theorem d_law_269 : decode code 269 = .ok (.iaload, 1) := by decide +kernel
theorem d_law_270 : decode code 270 = .ok (.invokevirtual 23, 3) := by decide +kernel
theorem d_law_273 : decode code 273 = .ok (.aload_n 2, 1) := by decide +kernel
theorem d_law_274 : decode code 274 = .ok (.aload_n 0, 1) := by decide +kernel
theorem d_law_275 : decode code 275 = .ok (.iload_n 3, 1) := by decide +kernel
theorem d_law_276 : decode code 276 = .ok (.iconst 1, 1) := by decide +kernel
theorem d_law_277 : decode code 277 = .ok (.iadd, 1) := by decide +kernel
theorem d_law_278 : decode code 278 = .ok (.iaload, 1) := by decide +kernel
theorem d_law_279 : decode code 279 = .ok (.invokevirtual 26, 3) := by decide +kernel
theorem d_law_282 : decode code 282 = .ok (.if_icmp .eq 1077, 3) := by decide +kernel
theorem d_law_285 : decode code 285 = .ok (.iconst 0, 1) := by decide +kernel
theorem d_law_286 : decode code 286 = .ok (.ireturn, 1) := by decide +kernel
theorem d_law_287 : decode code 287 = .ok (.aload_n 1, 1) := by decide +kernel
theorem d_law_288 : decode code 288 = .ok (.aload_n 0, 1) := by decide +kernel
theorem d_law_289 : decode code 289 = .ok (.iload_n 3, 1) := by decide +kernel
theorem d_law_290 : decode code 290 = .ok (.iconst 1, 1) := by decide +kernel
theorem d_law_291 : decode code 291 = .ok (.iadd, 1) := by decide +kernel
theorem d_law_292 : decode code 292 = .ok (.iaload, 1) := by decide +kernel
theorem d_law_293 : decode code 293 = .ok (.aload_n 0, 1) := by decide +kernel
theorem d_law_294 : decode code 294 = .ok (.iload_n 3, 1) := by decide +kernel
theorem d_law_295 : decode code 295 = .ok (.iconst 2, 1) := by decide +kernel
theorem d_law_296 : decode code 296 = .ok (.iadd, 1) := by decide +kernel
theorem d_law_297 : decode code 297 = .ok (.iaload, 1) := by decide +kernel
theorem d_law_298 : decode code 298 = .ok (.invokevirtual 27, 3) := by decide +kernel
theorem d_law_301 : decode code 301 = .ok (.aload_n 2, 1) := by decide +kernel
theorem d_law_302 : decode code 302 = .ok (.aload_n 0, 1) := by decide +kernel
theorem d_law_303 : decode code 303 = .ok (.iload_n 3, 1) := by decide +kernel
theorem d_law_304 : decode code 304 = .ok (.iconst 1, 1) := by decide +kernel
theorem d_law_305 : decode code 305 = .ok (.iadd, 1) := by decide +kernel
theorem d_law_306 : decode code 306 = .ok (.iaload, 1) := by decide +kernel
theorem d_law_307 : decode code 307 = .ok (.aload_n 0, 1) := by decide +kernel
theorem d_law_308 : decode code 308 = .ok (.iload_n 3, 1) := by decide +kernel
theorem d_law_309 : decode code 309 = .ok (.iconst 2, 1) := by decide +kernel
theorem d_law_310 : decode code 310 = .ok (.iadd, 1) := by decide +kernel
theorem d_law_311 : decode code 311 = .ok (.iaload, 1) := by decide +kernel
theorem d_law_312 : decode code 312 = .ok (.invokevirtual 30, 3) := by decide +kernel
theorem d_law_315 : decode code 315 = .ok (.if_icmp .eq 1044, 3) := by decide +kernel
theorem d_law_318 : decode code 318 = .ok (.iconst 0, 1) := by decide +kernel
theorem d_law_319 : decode code 319 = .ok (.ireturn, 1) := by decide +kernel
theorem d_law_320 : decode code 320 = .ok (.aload_n 1, 1) := by decide +kernel
theorem d_law_321 : decode code 321 = .ok (.aload_n 0, 1) := by decide +kernel
theorem d_law_322 : decode code 322 = .ok (.iload_n 3, 1) := by decide +kernel
theorem d_law_323 : decode code 323 = .ok (.iconst 1, 1) := by decide +kernel
theorem d_law_324 : decode code 324 = .ok (.iadd, 1) := by decide +kernel
theorem d_law_325 : decode code 325 = .ok (.iaload, 1) := by decide +kernel
theorem d_law_326 : decode code 326 = .ok (.aload_n 0, 1) := by decide +kernel
theorem d_law_327 : decode code 327 = .ok (.iload_n 3, 1) := by decide +kernel
theorem d_law_328 : decode code 328 = .ok (.iconst 2, 1) := by decide +kernel
theorem d_law_329 : decode code 329 = .ok (.iadd, 1) := by decide +kernel
theorem d_law_330 : decode code 330 = .ok (.iaload, 1) := by decide +kernel
theorem d_law_331 : decode code 331 = .ok (.invokevirtual 31, 3) := by decide +kernel
theorem d_law_334 : decode code 334 = .ok (.aload_n 2, 1) := by decide +kernel
theorem d_law_335 : decode code 335 = .ok (.aload_n 0, 1) := by decide +kernel
theorem d_law_336 : decode code 336 = .ok (.iload_n 3, 1) := by decide +kernel
theorem d_law_337 : decode code 337 = .ok (.iconst 1, 1) := by decide +kernel
theorem d_law_338 : decode code 338 = .ok (.iadd, 1) := by decide +kernel
theorem d_law_339 : decode code 339 = .ok (.iaload, 1) := by decide +kernel
theorem d_law_340 : decode code 340 = .ok (.aload_n 0, 1) := by decide +kernel
theorem d_law_341 : decode code 341 = .ok (.iload_n 3, 1) := by decide +kernel
theorem d_law_342 : decode code 342 = .ok (.iconst 2, 1) := by decide +kernel
theorem d_law_343 : decode code 343 = .ok (.iadd, 1) := by decide +kernel
theorem d_law_344 : decode code 344 = .ok (.iaload, 1) := by decide +kernel
theorem d_law_345 : decode code 345 = .ok (.invokevirtual 34, 3) := by decide +kernel
theorem d_law_348 : decode code 348 = .ok (.if_icmp .eq 1011, 3) := by decide +kernel
theorem d_law_351 : decode code 351 = .ok (.iconst 0, 1) := by decide +kernel
theorem d_law_352 : decode code 352 = .ok (.ireturn, 1) := by decide +kernel
theorem d_law_353 : decode code 353 = .ok (.aload_n 1, 1) := by decide +kernel
theorem d_law_354 : decode code 354 = .ok (.aload_n 0, 1) := by decide +kernel
theorem d_law_355 : decode code 355 = .ok (.iload_n 3, 1) := by decide +kernel
theorem d_law_356 : decode code 356 = .ok (.iconst 1, 1) := by decide +kernel
theorem d_law_357 : decode code 357 = .ok (.iadd, 1) := by decide +kernel
theorem d_law_358 : decode code 358 = .ok (.iaload, 1) := by decide +kernel
theorem d_law_359 : decode code 359 = .ok (.aload_n 0, 1) := by decide +kernel
theorem d_law_360 : decode code 360 = .ok (.iload_n 3, 1) := by decide +kernel
theorem d_law_361 : decode code 361 = .ok (.iconst 2, 1) := by decide +kernel
theorem d_law_362 : decode code 362 = .ok (.iadd, 1) := by decide +kernel
theorem d_law_363 : decode code 363 = .ok (.iaload, 1) := by decide +kernel
theorem d_law_364 : decode code 364 = .ok (.aload_n 0, 1) := by decide +kernel
theorem d_law_365 : decode code 365 = .ok (.iload_n 3, 1) := by decide +kernel
theorem d_law_366 : decode code 366 = .ok (.iconst 3, 1) := by decide +kernel
theorem d_law_367 : decode code 367 = .ok (.iadd, 1) := by decide +kernel
theorem d_law_368 : decode code 368 = .ok (.iaload, 1) := by decide +kernel
theorem d_law_369 : decode code 369 = .ok (.invokevirtual 35, 3) := by decide +kernel
theorem d_law_372 : decode code 372 = .ok (.aload_n 2, 1) := by decide +kernel
theorem d_law_373 : decode code 373 = .ok (.aload_n 0, 1) := by decide +kernel
theorem d_law_374 : decode code 374 = .ok (.iload_n 3, 1) := by decide +kernel
theorem d_law_375 : decode code 375 = .ok (.iconst 1, 1) := by decide +kernel
theorem d_law_376 : decode code 376 = .ok (.iadd, 1) := by decide +kernel
theorem d_law_377 : decode code 377 = .ok (.iaload, 1) := by decide +kernel
theorem d_law_378 : decode code 378 = .ok (.aload_n 0, 1) := by decide +kernel
theorem d_law_379 : decode code 379 = .ok (.iload_n 3, 1) := by decide +kernel
theorem d_law_380 : decode code 380 = .ok (.iconst 2, 1) := by decide +kernel
theorem d_law_381 : decode code 381 = .ok (.iadd, 1) := by decide +kernel
theorem d_law_382 : decode code 382 = .ok (.iaload, 1) := by decide +kernel
theorem d_law_383 : decode code 383 = .ok (.aload_n 0, 1) := by decide +kernel
theorem d_law_384 : decode code 384 = .ok (.iload_n 3, 1) := by decide +kernel
theorem d_law_385 : decode code 385 = .ok (.iconst 3, 1) := by decide +kernel
theorem d_law_386 : decode code 386 = .ok (.iadd, 1) := by decide +kernel
theorem d_law_387 : decode code 387 = .ok (.iaload, 1) := by decide +kernel
theorem d_law_388 : decode code 388 = .ok (.invokevirtual 39, 3) := by decide +kernel
theorem d_law_391 : decode code 391 = .ok (.if_icmp .eq 968, 3) := by decide +kernel
theorem d_law_394 : decode code 394 = .ok (.iconst 0, 1) := by decide +kernel
theorem d_law_395 : decode code 395 = .ok (.ireturn, 1) := by decide +kernel
theorem d_law_396 : decode code 396 = .ok (.aload_n 1, 1) := by decide +kernel
theorem d_law_397 : decode code 397 = .ok (.aload_n 0, 1) := by decide +kernel
theorem d_law_398 : decode code 398 = .ok (.iload_n 3, 1) := by decide +kernel
theorem d_law_399 : decode code 399 = .ok (.iconst 1, 1) := by decide +kernel
theorem d_law_400 : decode code 400 = .ok (.iadd, 1) := by decide +kernel
theorem d_law_401 : decode code 401 = .ok (.iaload, 1) := by decide +kernel
theorem d_law_402 : decode code 402 = .ok (.invokevirtual 40, 3) := by decide +kernel
theorem d_law_405 : decode code 405 = .ok (.aload_n 2, 1) := by decide +kernel
theorem d_law_406 : decode code 406 = .ok (.aload_n 0, 1) := by decide +kernel
theorem d_law_407 : decode code 407 = .ok (.iload_n 3, 1) := by decide +kernel
theorem d_law_408 : decode code 408 = .ok (.iconst 1, 1) := by decide +kernel
theorem d_law_409 : decode code 409 = .ok (.iadd, 1) := by decide +kernel
theorem d_law_410 : decode code 410 = .ok (.iaload, 1) := by decide +kernel
theorem d_law_411 : decode code 411 = .ok (.invokevirtual 43, 3) := by decide +kernel
theorem d_law_414 : decode code 414 = .ok (.if_icmp .eq 945, 3) := by decide +kernel
theorem d_law_417 : decode code 417 = .ok (.iconst 0, 1) := by decide +kernel
theorem d_law_418 : decode code 418 = .ok (.ireturn, 1) := by decide +kernel
theorem d_law_419 : decode code 419 = .ok (.aload_n 1, 1) := by decide +kernel
theorem d_law_420 : decode code 420 = .ok (.aload_n 0, 1) := by decide +kernel
theorem d_law_421 : decode code 421 = .ok (.iload_n 3, 1) := by decide +kernel
theorem d_law_422 : decode code 422 = .ok (.iconst 1, 1) := by decide +kernel
theorem d_law_423 : decode code 423 = .ok (.iadd, 1) := by decide +kernel
theorem d_law_424 : decode code 424 = .ok (.iaload, 1) := by decide +kernel
theorem d_law_425 : decode code 425 = .ok (.aload_n 0, 1) := by decide +kernel
theorem d_law_426 : decode code 426 = .ok (.iload_n 3, 1) := by decide +kernel
theorem d_law_427 : decode code 427 = .ok (.iconst 2, 1) := by decide +kernel
theorem d_law_428 : decode code 428 = .ok (.iadd, 1) := by decide +kernel
theorem d_law_429 : decode code 429 = .ok (.iaload, 1) := by decide +kernel
theorem d_law_430 : decode code 430 = .ok (.invokevirtual 44, 3) := by decide +kernel
theorem d_law_433 : decode code 433 = .ok (.aload_n 2, 1) := by decide +kernel
theorem d_law_434 : decode code 434 = .ok (.aload_n 0, 1) := by decide +kernel
theorem d_law_435 : decode code 435 = .ok (.iload_n 3, 1) := by decide +kernel
theorem d_law_436 : decode code 436 = .ok (.iconst 1, 1) := by decide +kernel
theorem d_law_437 : decode code 437 = .ok (.iadd, 1) := by decide +kernel
theorem d_law_438 : decode code 438 = .ok (.iaload, 1) := by decide +kernel
theorem d_law_439 : decode code 439 = .ok (.aload_n 0, 1) := by decide +kernel
theorem d_law_440 : decode code 440 = .ok (.iload_n 3, 1) := by decide +kernel
theorem d_law_441 : decode code 441 = .ok (.iconst 2, 1) := by decide +kernel
theorem d_law_442 : decode code 442 = .ok (.iadd, 1) := by decide +kernel
theorem d_law_443 : decode code 443 = .ok (.iaload, 1) := by decide +kernel
theorem d_law_444 : decode code 444 = .ok (.invokevirtual 47, 3) := by decide +kernel
theorem d_law_447 : decode code 447 = .ok (.if_icmp .eq 912, 3) := by decide +kernel
theorem d_law_450 : decode code 450 = .ok (.iconst 0, 1) := by decide +kernel
theorem d_law_451 : decode code 451 = .ok (.ireturn, 1) := by decide +kernel
theorem d_law_452 : decode code 452 = .ok (.aload_n 1, 1) := by decide +kernel
theorem d_law_453 : decode code 453 = .ok (.aload_n 0, 1) := by decide +kernel
theorem d_law_454 : decode code 454 = .ok (.iload_n 3, 1) := by decide +kernel
theorem d_law_455 : decode code 455 = .ok (.iconst 1, 1) := by decide +kernel
theorem d_law_456 : decode code 456 = .ok (.iadd, 1) := by decide +kernel
theorem d_law_457 : decode code 457 = .ok (.iaload, 1) := by decide +kernel
theorem d_law_458 : decode code 458 = .ok (.invokevirtual 48, 3) := by decide +kernel
theorem d_law_461 : decode code 461 = .ok (.aload_n 2, 1) := by decide +kernel
theorem d_law_462 : decode code 462 = .ok (.aload_n 0, 1) := by decide +kernel
theorem d_law_463 : decode code 463 = .ok (.iload_n 3, 1) := by decide +kernel
theorem d_law_464 : decode code 464 = .ok (.iconst 1, 1) := by decide +kernel
theorem d_law_465 : decode code 465 = .ok (.iadd, 1) := by decide +kernel
theorem d_law_466 : decode code 466 = .ok (.iaload, 1) := by decide +kernel
theorem d_law_467 : decode code 467 = .ok (.invokevirtual 51, 3) := by decide +kernel
theorem d_law_470 : decode code 470 = .ok (.if_icmp .eq 889, 3) := by decide +kernel
theorem d_law_473 : decode code 473 = .ok (.iconst 0, 1) := by decide +kernel
theorem d_law_474 : decode code 474 = .ok (.ireturn, 1) := by decide +kernel
theorem d_law_475 : decode code 475 = .ok (.aload_n 1, 1) := by decide +kernel
theorem d_law_476 : decode code 476 = .ok (.aload_n 0, 1) := by decide +kernel
theorem d_law_477 : decode code 477 = .ok (.iload_n 3, 1) := by decide +kernel
theorem d_law_478 : decode code 478 = .ok (.iconst 1, 1) := by decide +kernel
theorem d_law_479 : decode code 479 = .ok (.iadd, 1) := by decide +kernel
theorem d_law_480 : decode code 480 = .ok (.iaload, 1) := by decide +kernel
theorem d_law_481 : decode code 481 = .ok (.invokevirtual 52, 3) := by decide +kernel
theorem d_law_484 : decode code 484 = .ok (.aload_n 2, 1) := by decide +kernel
theorem d_law_485 : decode code 485 = .ok (.aload_n 0, 1) := by decide +kernel
theorem d_law_486 : decode code 486 = .ok (.iload_n 3, 1) := by decide +kernel
theorem d_law_487 : decode code 487 = .ok (.iconst 1, 1) := by decide +kernel
theorem d_law_488 : decode code 488 = .ok (.iadd, 1) := by decide +kernel
theorem d_law_489 : decode code 489 = .ok (.iaload, 1) := by decide +kernel
theorem d_law_490 : decode code 490 = .ok (.invokevirtual 55, 3) := by decide +kernel
theorem d_law_493 : decode code 493 = .ok (.if_icmp .eq 866, 3) := by decide +kernel
theorem d_law_496 : decode code 496 = .ok (.iconst 0, 1) := by decide +kernel
theorem d_law_497 : decode code 497 = .ok (.ireturn, 1) := by decide +kernel
theorem d_law_498 : decode code 498 = .ok (.aload_n 1, 1) := by decide +kernel
theorem d_law_499 : decode code 499 = .ok (.aload_n 0, 1) := by decide +kernel
theorem d_law_500 : decode code 500 = .ok (.iload_n 3, 1) := by decide +kernel
theorem d_law_501 : decode code 501 = .ok (.iconst 1, 1) := by decide +kernel
theorem d_law_502 : decode code 502 = .ok (.iadd, 1) := by decide +kernel
theorem d_law_503 : decode code 503 = .ok (.iaload, 1) := by decide +kernel
theorem d_law_504 : decode code 504 = .ok (.aload_n 0, 1) := by decide +kernel
theorem d_law_505 : decode code 505 = .ok (.iload_n 3, 1) := by decide +kernel
theorem d_law_506 : decode code 506 = .ok (.iconst 2, 1) := by decide +kernel
theorem d_law_507 : decode code 507 = .ok (.iadd, 1) := by decide +kernel
theorem d_law_508 : decode code 508 = .ok (.iaload, 1) := by decide +kernel
theorem d_law_509 : decode code 509 = .ok (.aload_n 0, 1) := by decide +kernel
theorem d_law_510 : decode code 510 = .ok (.iload_n 3, 1) := by decide +kernel
theorem d_law_511 : decode code 511 = .ok (.iconst 3, 1) := by decide +kernel
theorem d_law_512 : decode code 512 = .ok (.iadd, 1) := by decide +kernel
theorem d_law_513 : decode code 513 = .ok (.iaload, 1) := by decide +kernel
theorem d_law_514 : decode code 514 = .ok (.invokevirtual 56, 3) := by decide +kernel
theorem d_law_517 : decode code 517 = .ok (.aload_n 2, 1) := by decide +kernel
theorem d_law_518 : decode code 518 = .ok (.aload_n 0, 1) := by decide +kernel
theorem d_law_519 : decode code 519 = .ok (.iload_n 3, 1) := by decide +kernel
theorem d_law_520 : decode code 520 = .ok (.iconst 1, 1) := by decide +kernel
theorem d_law_521 : decode code 521 = .ok (.iadd, 1) := by decide +kernel
theorem d_law_522 : decode code 522 = .ok (.iaload, 1) := by decide +kernel
theorem d_law_523 : decode code 523 = .ok (.aload_n 0, 1) := by decide +kernel
theorem d_law_524 : decode code 524 = .ok (.iload_n 3, 1) := by decide +kernel
theorem d_law_525 : decode code 525 = .ok (.iconst 2, 1) := by decide +kernel
theorem d_law_526 : decode code 526 = .ok (.iadd, 1) := by decide +kernel
theorem d_law_527 : decode code 527 = .ok (.iaload, 1) := by decide +kernel
theorem d_law_528 : decode code 528 = .ok (.aload_n 0, 1) := by decide +kernel
theorem d_law_529 : decode code 529 = .ok (.iload_n 3, 1) := by decide +kernel
theorem d_law_530 : decode code 530 = .ok (.iconst 3, 1) := by decide +kernel
theorem d_law_531 : decode code 531 = .ok (.iadd, 1) := by decide +kernel
theorem d_law_532 : decode code 532 = .ok (.iaload, 1) := by decide +kernel
theorem d_law_533 : decode code 533 = .ok (.invokevirtual 59, 3) := by decide +kernel
theorem d_law_536 : decode code 536 = .ok (.if_icmp .eq 823, 3) := by decide +kernel
theorem d_law_539 : decode code 539 = .ok (.iconst 0, 1) := by decide +kernel
theorem d_law_540 : decode code 540 = .ok (.ireturn, 1) := by decide +kernel
theorem d_law_541 : decode code 541 = .ok (.aload_n 1, 1) := by decide +kernel
theorem d_law_542 : decode code 542 = .ok (.aload_n 0, 1) := by decide +kernel
theorem d_law_543 : decode code 543 = .ok (.iload_n 3, 1) := by decide +kernel
theorem d_law_544 : decode code 544 = .ok (.iconst 1, 1) := by decide +kernel
theorem d_law_545 : decode code 545 = .ok (.iadd, 1) := by decide +kernel
theorem d_law_546 : decode code 546 = .ok (.iaload, 1) := by decide +kernel
theorem d_law_547 : decode code 547 = .ok (.invokevirtual 60, 3) := by decide +kernel
theorem d_law_550 : decode code 550 = .ok (.aload_n 2, 1) := by decide +kernel
theorem d_law_551 : decode code 551 = .ok (.aload_n 0, 1) := by decide +kernel
theorem d_law_552 : decode code 552 = .ok (.iload_n 3, 1) := by decide +kernel
theorem d_law_553 : decode code 553 = .ok (.iconst 1, 1) := by decide +kernel
theorem d_law_554 : decode code 554 = .ok (.iadd, 1) := by decide +kernel
theorem d_law_555 : decode code 555 = .ok (.iaload, 1) := by decide +kernel
theorem d_law_556 : decode code 556 = .ok (.invokevirtual 63, 3) := by decide +kernel
theorem d_law_559 : decode code 559 = .ok (.if_icmp .eq 800, 3) := by decide +kernel
theorem d_law_562 : decode code 562 = .ok (.iconst 0, 1) := by decide +kernel
theorem d_law_563 : decode code 563 = .ok (.ireturn, 1) := by decide +kernel
theorem d_law_564 : decode code 564 = .ok (.aload_n 1, 1) := by decide +kernel
theorem d_law_565 : decode code 565 = .ok (.aload_n 0, 1) := by decide +kernel
theorem d_law_566 : decode code 566 = .ok (.iload_n 3, 1) := by decide +kernel
theorem d_law_567 : decode code 567 = .ok (.iconst 1, 1) := by decide +kernel
theorem d_law_568 : decode code 568 = .ok (.iadd, 1) := by decide +kernel
theorem d_law_569 : decode code 569 = .ok (.iaload, 1) := by decide +kernel
theorem d_law_570 : decode code 570 = .ok (.invokevirtual 64, 3) := by decide +kernel
theorem d_law_573 : decode code 573 = .ok (.aload_n 2, 1) := by decide +kernel
theorem d_law_574 : decode code 574 = .ok (.aload_n 0, 1) := by decide +kernel
theorem d_law_575 : decode code 575 = .ok (.iload_n 3, 1) := by decide +kernel
theorem d_law_576 : decode code 576 = .ok (.iconst 1, 1) := by decide +kernel
theorem d_law_577 : decode code 577 = .ok (.iadd, 1) := by decide +kernel
theorem d_law_578 : decode code 578 = .ok (.iaload, 1) := by decide +kernel
theorem d_law_579 : decode code 579 = .ok (.invokevirtual 67, 3) := by decide +kernel
theorem d_law_582 : decode code 582 = .ok (.if_icmp .eq 777, 3) := by decide +kernel
theorem d_law_585 : decode code 585 = .ok (.iconst 0, 1) := by decide +kernel
theorem d_law_586 : decode code 586 = .ok (.ireturn, 1) := by decide +kernel
theorem d_law_587 : decode code 587 = .ok (.aload_n 1, 1) := by decide +kernel
theorem d_law_588 : decode code 588 = .ok (.aload_n 0, 1) := by decide +kernel
theorem d_law_589 : decode code 589 = .ok (.iload_n 3, 1) := by decide +kernel
theorem d_law_590 : decode code 590 = .ok (.iconst 1, 1) := by decide +kernel
theorem d_law_591 : decode code 591 = .ok (.iadd, 1) := by decide +kernel
theorem d_law_592 : decode code 592 = .ok (.iaload, 1) := by decide +kernel
theorem d_law_593 : decode code 593 = .ok (.aload_n 0, 1) := by decide +kernel
theorem d_law_594 : decode code 594 = .ok (.iload_n 3, 1) := by decide +kernel
theorem d_law_595 : decode code 595 = .ok (.iconst 2, 1) := by decide +kernel
theorem d_law_596 : decode code 596 = .ok (.iadd, 1) := by decide +kernel
theorem d_law_597 : decode code 597 = .ok (.iaload, 1) := by decide +kernel
theorem d_law_598 : decode code 598 = .ok (.invokevirtual 68, 3) := by decide +kernel
theorem d_law_601 : decode code 601 = .ok (.aload_n 2, 1) := by decide +kernel
theorem d_law_602 : decode code 602 = .ok (.aload_n 0, 1) := by decide +kernel
theorem d_law_603 : decode code 603 = .ok (.iload_n 3, 1) := by decide +kernel
theorem d_law_604 : decode code 604 = .ok (.iconst 1, 1) := by decide +kernel
theorem d_law_605 : decode code 605 = .ok (.iadd, 1) := by decide +kernel
theorem d_law_606 : decode code 606 = .ok (.iaload, 1) := by decide +kernel
theorem d_law_607 : decode code 607 = .ok (.aload_n 0, 1) := by decide +kernel
theorem d_law_608 : decode code 608 = .ok (.iload_n 3, 1) := by decide +kernel
theorem d_law_609 : decode code 609 = .ok (.iconst 2, 1) := by decide +kernel
theorem d_law_610 : decode code 610 = .ok (.iadd, 1) := by decide +kernel
theorem d_law_611 : decode code 611 = .ok (.iaload, 1) := by decide +kernel
theorem d_law_612 : decode code 612 = .ok (.invokevirtual 71, 3) := by decide +kernel
theorem d_law_615 : decode code 615 = .ok (.if_icmp .eq 744, 3) := by decide +kernel
theorem d_law_618 : decode code 618 = .ok (.iconst 0, 1) := by decide +kernel
theorem d_law_619 : decode code 619 = .ok (.ireturn, 1) := by decide +kernel
theorem d_law_620 : decode code 620 = .ok (.aload_n 1, 1) := by decide +kernel
theorem d_law_621 : decode code 621 = .ok (.invokevirtual 72, 3) := by decide +kernel
theorem d_law_624 : decode code 624 = .ok (.aload_n 2, 1) := by decide +kernel
theorem d_law_625 : decode code 625 = .ok (.invokevirtual 76, 3) := by decide +kernel
theorem d_law_628 : decode code 628 = .ok (.if_icmp .eq 731, 3) := by decide +kernel
theorem d_law_631 : decode code 631 = .ok (.iconst 0, 1) := by decide +kernel
theorem d_law_632 : decode code 632 = .ok (.ireturn, 1) := by decide +kernel
theorem d_law_633 : decode code 633 = .ok (.aload_n 1, 1) := by decide +kernel
theorem d_law_634 : decode code 634 = .ok (.aload_n 0, 1) := by decide +kernel
theorem d_law_635 : decode code 635 = .ok (.iload_n 3, 1) := by decide +kernel
theorem d_law_636 : decode code 636 = .ok (.iconst 1, 1) := by decide +kernel
theorem d_law_637 : decode code 637 = .ok (.iadd, 1) := by decide +kernel
theorem d_law_638 : decode code 638 = .ok (.iaload, 1) := by decide +kernel
theorem d_law_639 : decode code 639 = .ok (.aload_n 0, 1) := by decide +kernel
theorem d_law_640 : decode code 640 = .ok (.iload_n 3, 1) := by decide +kernel
theorem d_law_641 : decode code 641 = .ok (.iconst 2, 1) := by decide +kernel
theorem d_law_642 : decode code 642 = .ok (.iadd, 1) := by decide +kernel
theorem d_law_643 : decode code 643 = .ok (.iaload, 1) := by decide +kernel
theorem d_law_644 : decode code 644 = .ok (.invokevirtual 77, 3) := by decide +kernel
theorem d_law_647 : decode code 647 = .ok (.aload_n 2, 1) := by decide +kernel
theorem d_law_648 : decode code 648 = .ok (.aload_n 0, 1) := by decide +kernel
theorem d_law_649 : decode code 649 = .ok (.iload_n 3, 1) := by decide +kernel
theorem d_law_650 : decode code 650 = .ok (.iconst 1, 1) := by decide +kernel
theorem d_law_651 : decode code 651 = .ok (.iadd, 1) := by decide +kernel
theorem d_law_652 : decode code 652 = .ok (.iaload, 1) := by decide +kernel
theorem d_law_653 : decode code 653 = .ok (.aload_n 0, 1) := by decide +kernel
theorem d_law_654 : decode code 654 = .ok (.iload_n 3, 1) := by decide +kernel
theorem d_law_655 : decode code 655 = .ok (.iconst 2, 1) := by decide +kernel
theorem d_law_656 : decode code 656 = .ok (.iadd, 1) := by decide +kernel
theorem d_law_657 : decode code 657 = .ok (.iaload, 1) := by decide +kernel
theorem d_law_658 : decode code 658 = .ok (.invokevirtual 80, 3) := by decide +kernel
theorem d_law_661 : decode code 661 = .ok (.if_icmp .eq 698, 3) := by decide +kernel
theorem d_law_664 : decode code 664 = .ok (.iconst 0, 1) := by decide +kernel
theorem d_law_665 : decode code 665 = .ok (.ireturn, 1) := by decide +kernel
theorem d_law_666 : decode code 666 = .ok (.aload_n 1, 1) := by decide +kernel
theorem d_law_667 : decode code 667 = .ok (.aload_n 0, 1) := by decide +kernel
theorem d_law_668 : decode code 668 = .ok (.iload_n 3, 1) := by decide +kernel
theorem d_law_669 : decode code 669 = .ok (.iconst 1, 1) := by decide +kernel
theorem d_law_670 : decode code 670 = .ok (.iadd, 1) := by decide +kernel
theorem d_law_671 : decode code 671 = .ok (.iaload, 1) := by decide +kernel
theorem d_law_672 : decode code 672 = .ok (.aload_n 0, 1) := by decide +kernel
theorem d_law_673 : decode code 673 = .ok (.iload_n 3, 1) := by decide +kernel
theorem d_law_674 : decode code 674 = .ok (.iconst 2, 1) := by decide +kernel
theorem d_law_675 : decode code 675 = .ok (.iadd, 1) := by decide +kernel
theorem d_law_676 : decode code 676 = .ok (.iaload, 1) := by decide +kernel
theorem d_law_677 : decode code 677 = .ok (.invokevirtual 81, 3) := by decide +kernel
theorem d_law_680 : decode code 680 = .ok (.aload_n 2, 1) := by decide +kernel
theorem d_law_681 : decode code 681 = .ok (.aload_n 0, 1) := by decide +kernel
theorem d_law_682 : decode code 682 = .ok (.iload_n 3, 1) := by decide +kernel
theorem d_law_683 : decode code 683 = .ok (.iconst 1, 1) := by decide +kernel
theorem d_law_684 : decode code 684 = .ok (.iadd, 1) := by decide +kernel
theorem d_law_685 : decode code 685 = .ok (.iaload, 1) := by decide +kernel
theorem d_law_686 : decode code 686 = .ok (.aload_n 0, 1) := by decide +kernel
theorem d_law_687 : decode code 687 = .ok (.iload_n 3, 1) := by decide +kernel
theorem d_law_688 : decode code 688 = .ok (.iconst 2, 1) := by decide +kernel
theorem d_law_689 : decode code 689 = .ok (.iadd, 1) := by decide +kernel
theorem d_law_690 : decode code 690 = .ok (.iaload, 1) := by decide +kernel
theorem d_law_691 : decode code 691 = .ok (.invokevirtual 84, 3) := by decide +kernel
theorem d_law_694 : decode code 694 = .ok (.if_icmp .eq 665, 3) := by decide +kernel
theorem d_law_697 : decode code 697 = .ok (.iconst 0, 1) := by decide +kernel
theorem d_law_698 : decode code 698 = .ok (.ireturn, 1) := by decide +kernel
theorem d_law_699 : decode code 699 = .ok (.aload_n 1, 1) := by decide +kernel
theorem d_law_700 : decode code 700 = .ok (.aload_n 0, 1) := by decide +kernel
theorem d_law_701 : decode code 701 = .ok (.iload_n 3, 1) := by decide +kernel
theorem d_law_702 : decode code 702 = .ok (.iconst 1, 1) := by decide +kernel
theorem d_law_703 : decode code 703 = .ok (.iadd, 1) := by decide +kernel
theorem d_law_704 : decode code 704 = .ok (.iaload, 1) := by decide +kernel
theorem d_law_705 : decode code 705 = .ok (.aload_n 0, 1) := by decide +kernel
theorem d_law_706 : decode code 706 = .ok (.iload_n 3, 1) := by decide +kernel
theorem d_law_707 : decode code 707 = .ok (.iconst 2, 1) := by decide +kernel
theorem d_law_708 : decode code 708 = .ok (.iadd, 1) := by decide +kernel
theorem d_law_709 : decode code 709 = .ok (.iaload, 1) := by decide +kernel
theorem d_law_710 : decode code 710 = .ok (.aload_n 0, 1) := by decide +kernel
theorem d_law_711 : decode code 711 = .ok (.iload_n 3, 1) := by decide +kernel
theorem d_law_712 : decode code 712 = .ok (.iconst 3, 1) := by decide +kernel
theorem d_law_713 : decode code 713 = .ok (.iadd, 1) := by decide +kernel
theorem d_law_714 : decode code 714 = .ok (.iaload, 1) := by decide +kernel
theorem d_law_715 : decode code 715 = .ok (.invokevirtual 85, 3) := by decide +kernel
theorem d_law_718 : decode code 718 = .ok (.aload_n 2, 1) := by decide +kernel
theorem d_law_719 : decode code 719 = .ok (.aload_n 0, 1) := by decide +kernel
theorem d_law_720 : decode code 720 = .ok (.iload_n 3, 1) := by decide +kernel
theorem d_law_721 : decode code 721 = .ok (.iconst 1, 1) := by decide +kernel
theorem d_law_722 : decode code 722 = .ok (.iadd, 1) := by decide +kernel
theorem d_law_723 : decode code 723 = .ok (.iaload, 1) := by decide +kernel
theorem d_law_724 : decode code 724 = .ok (.aload_n 0, 1) := by decide +kernel
theorem d_law_725 : decode code 725 = .ok (.iload_n 3, 1) := by decide +kernel
theorem d_law_726 : decode code 726 = .ok (.iconst 2, 1) := by decide +kernel
theorem d_law_727 : decode code 727 = .ok (.iadd, 1) := by decide +kernel
theorem d_law_728 : decode code 728 = .ok (.iaload, 1) := by decide +kernel
theorem d_law_729 : decode code 729 = .ok (.aload_n 0, 1) := by decide +kernel
theorem d_law_730 : decode code 730 = .ok (.iload_n 3, 1) := by decide +kernel
theorem d_law_731 : decode code 731 = .ok (.iconst 3, 1) := by decide +kernel
theorem d_law_732 : decode code 732 = .ok (.iadd, 1) := by decide +kernel
theorem d_law_733 : decode code 733 = .ok (.iaload, 1) := by decide +kernel
theorem d_law_734 : decode code 734 = .ok (.invokevirtual 88, 3) := by decide +kernel
theorem d_law_737 : decode code 737 = .ok (.if_icmp .eq 622, 3) := by decide +kernel
theorem d_law_740 : decode code 740 = .ok (.iconst 0, 1) := by decide +kernel
theorem d_law_741 : decode code 741 = .ok (.ireturn, 1) := by decide +kernel
theorem d_law_742 : decode code 742 = .ok (.aload_n 1, 1) := by decide +kernel
theorem d_law_743 : decode code 743 = .ok (.aload_n 0, 1) := by decide +kernel
theorem d_law_744 : decode code 744 = .ok (.iload_n 3, 1) := by decide +kernel
theorem d_law_745 : decode code 745 = .ok (.iconst 1, 1) := by decide +kernel
theorem d_law_746 : decode code 746 = .ok (.iadd, 1) := by decide +kernel
theorem d_law_747 : decode code 747 = .ok (.iaload, 1) := by decide +kernel
theorem d_law_748 : decode code 748 = .ok (.aload_n 0, 1) := by decide +kernel
theorem d_law_749 : decode code 749 = .ok (.iload_n 3, 1) := by decide +kernel
theorem d_law_750 : decode code 750 = .ok (.iconst 2, 1) := by decide +kernel
theorem d_law_751 : decode code 751 = .ok (.iadd, 1) := by decide +kernel
theorem d_law_752 : decode code 752 = .ok (.iaload, 1) := by decide +kernel
theorem d_law_753 : decode code 753 = .ok (.invokevirtual 89, 3) := by decide +kernel
theorem d_law_756 : decode code 756 = .ok (.aload_n 2, 1) := by decide +kernel
theorem d_law_757 : decode code 757 = .ok (.aload_n 0, 1) := by decide +kernel
theorem d_law_758 : decode code 758 = .ok (.iload_n 3, 1) := by decide +kernel
theorem d_law_759 : decode code 759 = .ok (.iconst 1, 1) := by decide +kernel
theorem d_law_760 : decode code 760 = .ok (.iadd, 1) := by decide +kernel
theorem d_law_761 : decode code 761 = .ok (.iaload, 1) := by decide +kernel
theorem d_law_762 : decode code 762 = .ok (.aload_n 0, 1) := by decide +kernel
theorem d_law_763 : decode code 763 = .ok (.iload_n 3, 1) := by decide +kernel
theorem d_law_764 : decode code 764 = .ok (.iconst 2, 1) := by decide +kernel
