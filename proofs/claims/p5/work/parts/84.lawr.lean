/-! the law: its rows, its contracts -/
theorem dl_0 : decode code 0 = .ok (.new 7, 3) := by decide +kernel
theorem dl_3 : decode code 3 = .ok (.dup, 1) := by decide +kernel
theorem dl_4 : decode code 4 = .ok (.invokespecial 9, 3) := by decide +kernel
theorem dl_7 : decode code 7 = .ok (.astore_n 1, 1) := by decide +kernel
theorem dl_8 : decode code 8 = .ok (.new 10, 3) := by decide +kernel
theorem dl_11 : decode code 11 = .ok (.dup, 1) := by decide +kernel
theorem dl_12 : decode code 12 = .ok (.invokespecial 12, 3) := by decide +kernel
theorem dl_15 : decode code 15 = .ok (.astore_n 2, 1) := by decide +kernel
theorem dl_16 : decode code 16 = .ok (.iconst 0, 1) := by decide +kernel
theorem dl_17 : decode code 17 = .ok (.istore_n 3, 1) := by decide +kernel
theorem dl_18 : decode code 18 = .ok (.iload_n 3, 1) := by decide +kernel
theorem dl_19 : decode code 19 = .ok (.aload_n 0, 1) := by decide +kernel
theorem dl_20 : decode code 20 = .ok (.arraylength, 1) := by decide +kernel
theorem dl_21 : decode code 21 = .ok (.bipush 7, 2) := by decide +kernel
theorem dl_23 : decode code 23 = .ok (.isub, 1) := by decide +kernel
theorem dl_24 : decode code 24 = .ok (.if_icmp .gt 1436, 3) := by decide +kernel
theorem dl_27 : decode code 27 = .ok (.aload_n 0, 1) := by decide +kernel
theorem dl_28 : decode code 28 = .ok (.iload_n 3, 1) := by decide +kernel
theorem dl_29 : decode code 29 = .ok (.iaload, 1) := by decide +kernel
theorem dl_30 : decode code 30 = .ok (.bipush 63, 2) := by decide +kernel
theorem dl_32 : decode code 32 = .ok (.iand, 1) := by decide +kernel
theorem dl_33 : decode code 33 = .ok (.tableswitch 1421 0 41 #[183, 226, 279, 312, 345, 388, 411, 474, 497, 510, 523, 546, 599, 674, 687, 720, 743, 786, 819, 852, 865, 898, 921, 934, 947, 970, 993, 1026, 1049, 1082, 1115, 1148, 1171, 1194, 1227, 1260, 1303, 1326, 1339, 1362, 1385, 1408], 183) := by decide +kernel
theorem dl_216 : decode code 216 = .ok (.aload_n 1, 1) := by decide +kernel
theorem dl_217 : decode code 217 = .ok (.aload_n 0, 1) := by decide +kernel
theorem dl_218 : decode code 218 = .ok (.iload_n 3, 1) := by decide +kernel
theorem dl_219 : decode code 219 = .ok (.iconst 1, 1) := by decide +kernel
theorem dl_220 : decode code 220 = .ok (.iadd, 1) := by decide +kernel
theorem dl_221 : decode code 221 = .ok (.iaload, 1) := by decide +kernel
theorem dl_222 : decode code 222 = .ok (.aload_n 0, 1) := by decide +kernel
theorem dl_223 : decode code 223 = .ok (.iload_n 3, 1) := by decide +kernel
theorem dl_224 : decode code 224 = .ok (.iconst 2, 1) := by decide +kernel
theorem dl_225 : decode code 225 = .ok (.iadd, 1) := by decide +kernel
theorem dl_226 : decode code 226 = .ok (.iaload, 1) := by decide +kernel
theorem dl_227 : decode code 227 = .ok (.aload_n 0, 1) := by decide +kernel
theorem dl_228 : decode code 228 = .ok (.iload_n 3, 1) := by decide +kernel
theorem dl_229 : decode code 229 = .ok (.iconst 3, 1) := by decide +kernel
theorem dl_230 : decode code 230 = .ok (.iadd, 1) := by decide +kernel
theorem dl_231 : decode code 231 = .ok (.iaload, 1) := by decide +kernel
theorem dl_232 : decode code 232 = .ok (.invokevirtual 13, 3) := by decide +kernel
theorem dl_235 : decode code 235 = .ok (.pop, 1) := by decide +kernel
theorem dl_236 : decode code 236 = .ok (.aload_n 2, 1) := by decide +kernel
theorem dl_237 : decode code 237 = .ok (.aload_n 0, 1) := by decide +kernel
theorem dl_238 : decode code 238 = .ok (.iload_n 3, 1) := by decide +kernel
theorem dl_239 : decode code 239 = .ok (.iconst 1, 1) := by decide +kernel
theorem dl_240 : decode code 240 = .ok (.iadd, 1) := by decide +kernel
theorem dl_241 : decode code 241 = .ok (.iaload, 1) := by decide +kernel
theorem dl_242 : decode code 242 = .ok (.aload_n 0, 1) := by decide +kernel
theorem dl_243 : decode code 243 = .ok (.iload_n 3, 1) := by decide +kernel
theorem dl_244 : decode code 244 = .ok (.iconst 2, 1) := by decide +kernel
theorem dl_245 : decode code 245 = .ok (.iadd, 1) := by decide +kernel
theorem dl_246 : decode code 246 = .ok (.iaload, 1) := by decide +kernel
theorem dl_247 : decode code 247 = .ok (.aload_n 0, 1) := by decide +kernel
theorem dl_248 : decode code 248 = .ok (.iload_n 3, 1) := by decide +kernel
theorem dl_249 : decode code 249 = .ok (.iconst 3, 1) := by decide +kernel
theorem dl_250 : decode code 250 = .ok (.iadd, 1) := by decide +kernel
theorem dl_251 : decode code 251 = .ok (.iaload, 1) := by decide +kernel
theorem dl_252 : decode code 252 = .ok (.invokevirtual 17, 3) := by decide +kernel
theorem dl_255 : decode code 255 = .ok (.pop, 1) := by decide +kernel
theorem dl_256 : decode code 256 = .ok (.goto 1198, 3) := by decide +kernel
theorem dl_259 : decode code 259 = .ok (.aload_n 1, 1) := by decide +kernel
theorem dl_260 : decode code 260 = .ok (.aload_n 0, 1) := by decide +kernel
theorem dl_261 : decode code 261 = .ok (.iload_n 3, 1) := by decide +kernel
theorem dl_262 : decode code 262 = .ok (.iconst 1, 1) := by decide +kernel
theorem dl_263 : decode code 263 = .ok (.iadd, 1) := by decide +kernel
theorem dl_264 : decode code 264 = .ok (.iaload, 1) := by decide +kernel
theorem dl_265 : decode code 265 = .ok (.aload_n 0, 1) := by decide +kernel
theorem dl_266 : decode code 266 = .ok (.iload_n 3, 1) := by decide +kernel
theorem dl_267 : decode code 267 = .ok (.iconst 2, 1) := by decide +kernel
theorem dl_268 : decode code 268 = .ok (.iadd, 1) := by decide +kernel
theorem dl_269 : decode code 269 = .ok (.iaload, 1) := by decide +kernel
theorem dl_270 : decode code 270 = .ok (.aload_n 0, 1) := by decide +kernel
theorem dl_271 : decode code 271 = .ok (.iload_n 3, 1) := by decide +kernel
theorem dl_272 : decode code 272 = .ok (.iconst 3, 1) := by decide +kernel
theorem dl_273 : decode code 273 = .ok (.iadd, 1) := by decide +kernel
theorem dl_274 : decode code 274 = .ok (.iaload, 1) := by decide +kernel
theorem dl_275 : decode code 275 = .ok (.aload_n 0, 1) := by decide +kernel
theorem dl_276 : decode code 276 = .ok (.iload_n 3, 1) := by decide +kernel
theorem dl_277 : decode code 277 = .ok (.iconst 4, 1) := by decide +kernel
theorem dl_278 : decode code 278 = .ok (.iadd, 1) := by decide +kernel
theorem dl_279 : decode code 279 = .ok (.iaload, 1) := by decide +kernel
theorem dl_280 : decode code 280 = .ok (.invokevirtual 18, 3) := by decide +kernel
theorem dl_283 : decode code 283 = .ok (.pop, 1) := by decide +kernel
theorem dl_284 : decode code 284 = .ok (.aload_n 2, 1) := by decide +kernel
theorem dl_285 : decode code 285 = .ok (.aload_n 0, 1) := by decide +kernel
theorem dl_286 : decode code 286 = .ok (.iload_n 3, 1) := by decide +kernel
theorem dl_287 : decode code 287 = .ok (.iconst 1, 1) := by decide +kernel
theorem dl_288 : decode code 288 = .ok (.iadd, 1) := by decide +kernel
theorem dl_289 : decode code 289 = .ok (.iaload, 1) := by decide +kernel
theorem dl_290 : decode code 290 = .ok (.aload_n 0, 1) := by decide +kernel
theorem dl_291 : decode code 291 = .ok (.iload_n 3, 1) := by decide +kernel
theorem dl_292 : decode code 292 = .ok (.iconst 2, 1) := by decide +kernel
theorem dl_293 : decode code 293 = .ok (.iadd, 1) := by decide +kernel
theorem dl_294 : decode code 294 = .ok (.iaload, 1) := by decide +kernel
theorem dl_295 : decode code 295 = .ok (.aload_n 0, 1) := by decide +kernel
theorem dl_296 : decode code 296 = .ok (.iload_n 3, 1) := by decide +kernel
theorem dl_297 : decode code 297 = .ok (.iconst 3, 1) := by decide +kernel
theorem dl_298 : decode code 298 = .ok (.iadd, 1) := by decide +kernel
theorem dl_299 : decode code 299 = .ok (.iaload, 1) := by decide +kernel
theorem dl_300 : decode code 300 = .ok (.aload_n 0, 1) := by decide +kernel
theorem dl_301 : decode code 301 = .ok (.iload_n 3, 1) := by decide +kernel
theorem dl_302 : decode code 302 = .ok (.iconst 4, 1) := by decide +kernel
theorem dl_303 : decode code 303 = .ok (.iadd, 1) := by decide +kernel
theorem dl_304 : decode code 304 = .ok (.iaload, 1) := by decide +kernel
theorem dl_305 : decode code 305 = .ok (.invokevirtual 22, 3) := by decide +kernel
theorem dl_308 : decode code 308 = .ok (.pop, 1) := by decide +kernel
theorem dl_309 : decode code 309 = .ok (.goto 1145, 3) := by decide +kernel
theorem dl_312 : decode code 312 = .ok (.aload_n 1, 1) := by decide +kernel
theorem dl_313 : decode code 313 = .ok (.aload_n 0, 1) := by decide +kernel
theorem dl_314 : decode code 314 = .ok (.iload_n 3, 1) := by decide +kernel
theorem dl_315 : decode code 315 = .ok (.iconst 1, 1) := by decide +kernel
theorem dl_316 : decode code 316 = .ok (.iadd, 1) := by decide +kernel
theorem dl_317 : decode code 317 = .ok (.iaload, 1) := by decide +kernel
theorem dl_318 : decode code 318 = .ok (.aload_n 0, 1) := by decide +kernel
theorem dl_319 : decode code 319 = .ok (.iload_n 3, 1) := by decide +kernel
theorem dl_320 : decode code 320 = .ok (.iconst 2, 1) := by decide +kernel
theorem dl_321 : decode code 321 = .ok (.iadd, 1) := by decide +kernel
theorem dl_322 : decode code 322 = .ok (.iaload, 1) := by decide +kernel
theorem dl_323 : decode code 323 = .ok (.invokevirtual 23, 3) := by decide +kernel
theorem dl_326 : decode code 326 = .ok (.pop, 1) := by decide +kernel
theorem dl_327 : decode code 327 = .ok (.aload_n 2, 1) := by decide +kernel
theorem dl_328 : decode code 328 = .ok (.aload_n 0, 1) := by decide +kernel
theorem dl_329 : decode code 329 = .ok (.iload_n 3, 1) := by decide +kernel
theorem dl_330 : decode code 330 = .ok (.iconst 1, 1) := by decide +kernel
theorem dl_331 : decode code 331 = .ok (.iadd, 1) := by decide +kernel
theorem dl_332 : decode code 332 = .ok (.iaload, 1) := by decide +kernel
theorem dl_333 : decode code 333 = .ok (.aload_n 0, 1) := by decide +kernel
theorem dl_334 : decode code 334 = .ok (.iload_n 3, 1) := by decide +kernel
theorem dl_335 : decode code 335 = .ok (.iconst 2, 1) := by decide +kernel
theorem dl_336 : decode code 336 = .ok (.iadd, 1) := by decide +kernel
theorem dl_337 : decode code 337 = .ok (.iaload, 1) := by decide +kernel
theorem dl_338 : decode code 338 = .ok (.invokevirtual 27, 3) := by decide +kernel
theorem dl_341 : decode code 341 = .ok (.pop, 1) := by decide +kernel
theorem dl_342 : decode code 342 = .ok (.goto 1112, 3) := by decide +kernel
theorem dl_345 : decode code 345 = .ok (.aload_n 1, 1) := by decide +kernel
theorem dl_346 : decode code 346 = .ok (.aload_n 0, 1) := by decide +kernel
theorem dl_347 : decode code 347 = .ok (.iload_n 3, 1) := by decide +kernel
theorem dl_348 : decode code 348 = .ok (.iconst 1, 1) := by decide +kernel
theorem dl_349 : decode code 349 = .ok (.iadd, 1) := by decide +kernel
theorem dl_350 : decode code 350 = .ok (.iaload, 1) := by decide +kernel
theorem dl_351 : decode code 351 = .ok (.aload_n 0, 1) := by decide +kernel
theorem dl_352 : decode code 352 = .ok (.iload_n 3, 1) := by decide +kernel
theorem dl_353 : decode code 353 = .ok (.iconst 2, 1) := by decide +kernel
theorem dl_354 : decode code 354 = .ok (.iadd, 1) := by decide +kernel
theorem dl_355 : decode code 355 = .ok (.iaload, 1) := by decide +kernel
theorem dl_356 : decode code 356 = .ok (.invokevirtual 28, 3) := by decide +kernel
theorem dl_359 : decode code 359 = .ok (.aload_n 2, 1) := by decide +kernel
theorem dl_360 : decode code 360 = .ok (.aload_n 0, 1) := by decide +kernel
theorem dl_361 : decode code 361 = .ok (.iload_n 3, 1) := by decide +kernel
theorem dl_362 : decode code 362 = .ok (.iconst 1, 1) := by decide +kernel
theorem dl_363 : decode code 363 = .ok (.iadd, 1) := by decide +kernel
theorem dl_364 : decode code 364 = .ok (.iaload, 1) := by decide +kernel
theorem dl_365 : decode code 365 = .ok (.aload_n 0, 1) := by decide +kernel
theorem dl_366 : decode code 366 = .ok (.iload_n 3, 1) := by decide +kernel
theorem dl_367 : decode code 367 = .ok (.iconst 2, 1) := by decide +kernel
theorem dl_368 : decode code 368 = .ok (.iadd, 1) := by decide +kernel
theorem dl_369 : decode code 369 = .ok (.iaload, 1) := by decide +kernel
theorem dl_370 : decode code 370 = .ok (.invokevirtual 31, 3) := by decide +kernel
theorem dl_373 : decode code 373 = .ok (.if_icmp .eq 1081, 3) := by decide +kernel
theorem dl_376 : decode code 376 = .ok (.iconst 0, 1) := by decide +kernel
theorem dl_377 : decode code 377 = .ok (.ireturn, 1) := by decide +kernel
theorem dl_378 : decode code 378 = .ok (.aload_n 1, 1) := by decide +kernel
theorem dl_379 : decode code 379 = .ok (.aload_n 0, 1) := by decide +kernel
theorem dl_380 : decode code 380 = .ok (.iload_n 3, 1) := by decide +kernel
theorem dl_381 : decode code 381 = .ok (.iconst 1, 1) := by decide +kernel
theorem dl_382 : decode code 382 = .ok (.iadd, 1) := by decide +kernel
theorem dl_383 : decode code 383 = .ok (.iaload, 1) := by decide +kernel
theorem dl_384 : decode code 384 = .ok (.aload_n 0, 1) := by decide +kernel
theorem dl_385 : decode code 385 = .ok (.iload_n 3, 1) := by decide +kernel
theorem dl_386 : decode code 386 = .ok (.iconst 2, 1) := by decide +kernel
theorem dl_387 : decode code 387 = .ok (.iadd, 1) := by decide +kernel
theorem dl_388 : decode code 388 = .ok (.iaload, 1) := by decide +kernel
theorem dl_389 : decode code 389 = .ok (.aload_n 0, 1) := by decide +kernel
theorem dl_390 : decode code 390 = .ok (.iload_n 3, 1) := by decide +kernel
theorem dl_391 : decode code 391 = .ok (.iconst 3, 1) := by decide +kernel
theorem dl_392 : decode code 392 = .ok (.iadd, 1) := by decide +kernel
theorem dl_393 : decode code 393 = .ok (.iaload, 1) := by decide +kernel
theorem dl_394 : decode code 394 = .ok (.invokevirtual 32, 3) := by decide +kernel
theorem dl_397 : decode code 397 = .ok (.pop, 1) := by decide +kernel
theorem dl_398 : decode code 398 = .ok (.aload_n 2, 1) := by decide +kernel
theorem dl_399 : decode code 399 = .ok (.aload_n 0, 1) := by decide +kernel
theorem dl_400 : decode code 400 = .ok (.iload_n 3, 1) := by decide +kernel
theorem dl_401 : decode code 401 = .ok (.iconst 1, 1) := by decide +kernel
theorem dl_402 : decode code 402 = .ok (.iadd, 1) := by decide +kernel
theorem dl_403 : decode code 403 = .ok (.iaload, 1) := by decide +kernel
theorem dl_404 : decode code 404 = .ok (.aload_n 0, 1) := by decide +kernel
theorem dl_405 : decode code 405 = .ok (.iload_n 3, 1) := by decide +kernel
theorem dl_406 : decode code 406 = .ok (.iconst 2, 1) := by decide +kernel
theorem dl_407 : decode code 407 = .ok (.iadd, 1) := by decide +kernel
theorem dl_408 : decode code 408 = .ok (.iaload, 1) := by decide +kernel
theorem dl_409 : decode code 409 = .ok (.aload_n 0, 1) := by decide +kernel
theorem dl_410 : decode code 410 = .ok (.iload_n 3, 1) := by decide +kernel
theorem dl_411 : decode code 411 = .ok (.iconst 3, 1) := by decide +kernel
theorem dl_412 : decode code 412 = .ok (.iadd, 1) := by decide +kernel
theorem dl_413 : decode code 413 = .ok (.iaload, 1) := by decide +kernel
theorem dl_414 : decode code 414 = .ok (.invokevirtual 35, 3) := by decide +kernel
theorem dl_417 : decode code 417 = .ok (.pop, 1) := by decide +kernel
theorem dl_418 : decode code 418 = .ok (.goto 1036, 3) := by decide +kernel
theorem dl_421 : decode code 421 = .ok (.aload_n 1, 1) := by decide +kernel
theorem dl_422 : decode code 422 = .ok (.aload_n 0, 1) := by decide +kernel
theorem dl_423 : decode code 423 = .ok (.iload_n 3, 1) := by decide +kernel
theorem dl_424 : decode code 424 = .ok (.iconst 1, 1) := by decide +kernel
theorem dl_425 : decode code 425 = .ok (.iadd, 1) := by decide +kernel
theorem dl_426 : decode code 426 = .ok (.iaload, 1) := by decide +kernel
theorem dl_427 : decode code 427 = .ok (.invokevirtual 36, 3) := by decide +kernel
theorem dl_430 : decode code 430 = .ok (.pop, 1) := by decide +kernel
theorem dl_431 : decode code 431 = .ok (.aload_n 2, 1) := by decide +kernel
theorem dl_432 : decode code 432 = .ok (.aload_n 0, 1) := by decide +kernel
theorem dl_433 : decode code 433 = .ok (.iload_n 3, 1) := by decide +kernel
theorem dl_434 : decode code 434 = .ok (.iconst 1, 1) := by decide +kernel
theorem dl_435 : decode code 435 = .ok (.iadd, 1) := by decide +kernel
theorem dl_436 : decode code 436 = .ok (.iaload, 1) := by decide +kernel
theorem dl_437 : decode code 437 = .ok (.invokevirtual 40, 3) := by decide +kernel
theorem dl_440 : decode code 440 = .ok (.pop, 1) := by decide +kernel
theorem dl_441 : decode code 441 = .ok (.goto 1013, 3) := by decide +kernel
theorem dl_444 : decode code 444 = .ok (.aload_n 1, 1) := by decide +kernel
theorem dl_445 : decode code 445 = .ok (.aload_n 0, 1) := by decide +kernel
theorem dl_446 : decode code 446 = .ok (.iload_n 3, 1) := by decide +kernel
theorem dl_447 : decode code 447 = .ok (.iconst 1, 1) := by decide +kernel
theorem dl_448 : decode code 448 = .ok (.iadd, 1) := by decide +kernel
theorem dl_449 : decode code 449 = .ok (.iaload, 1) := by decide +kernel
theorem dl_450 : decode code 450 = .ok (.aload_n 0, 1) := by decide +kernel
theorem dl_451 : decode code 451 = .ok (.iload_n 3, 1) := by decide +kernel
theorem dl_452 : decode code 452 = .ok (.iconst 2, 1) := by decide +kernel
theorem dl_453 : decode code 453 = .ok (.iadd, 1) := by decide +kernel
theorem dl_454 : decode code 454 = .ok (.iaload, 1) := by decide +kernel
theorem dl_455 : decode code 455 = .ok (.aload_n 0, 1) := by decide +kernel
theorem dl_456 : decode code 456 = .ok (.iload_n 3, 1) := by decide +kernel
theorem dl_457 : decode code 457 = .ok (.iconst 3, 1) := by decide +kernel
theorem dl_458 : decode code 458 = .ok (.iadd, 1) := by decide +kernel
theorem dl_459 : decode code 459 = .ok (.iaload, 1) := by decide +kernel
theorem dl_460 : decode code 460 = .ok (.aload_n 0, 1) := by decide +kernel
theorem dl_461 : decode code 461 = .ok (.iload_n 3, 1) := by decide +kernel
theorem dl_462 : decode code 462 = .ok (.iconst 4, 1) := by decide +kernel
theorem dl_463 : decode code 463 = .ok (.iadd, 1) := by decide +kernel
theorem dl_464 : decode code 464 = .ok (.iaload, 1) := by decide +kernel
theorem dl_465 : decode code 465 = .ok (.aload_n 0, 1) := by decide +kernel
theorem dl_466 : decode code 466 = .ok (.iload_n 3, 1) := by decide +kernel
theorem dl_467 : decode code 467 = .ok (.iconst 5, 1) := by decide +kernel
theorem dl_468 : decode code 468 = .ok (.iadd, 1) := by decide +kernel
theorem dl_469 : decode code 469 = .ok (.iaload, 1) := by decide +kernel
theorem dl_470 : decode code 470 = .ok (.invokevirtual 41, 3) := by decide +kernel
theorem dl_473 : decode code 473 = .ok (.pop, 1) := by decide +kernel
theorem dl_474 : decode code 474 = .ok (.aload_n 2, 1) := by decide +kernel
theorem dl_475 : decode code 475 = .ok (.aload_n 0, 1) := by decide +kernel
theorem dl_476 : decode code 476 = .ok (.iload_n 3, 1) := by decide +kernel
theorem dl_477 : decode code 477 = .ok (.iconst 1, 1) := by decide +kernel
theorem dl_478 : decode code 478 = .ok (.iadd, 1) := by decide +kernel
theorem dl_479 : decode code 479 = .ok (.iaload, 1) := by decide +kernel
theorem dl_480 : decode code 480 = .ok (.aload_n 0, 1) := by decide +kernel
theorem dl_481 : decode code 481 = .ok (.iload_n 3, 1) := by decide +kernel
theorem dl_482 : decode code 482 = .ok (.iconst 2, 1) := by decide +kernel
theorem dl_483 : decode code 483 = .ok (.iadd, 1) := by decide +kernel
theorem dl_484 : decode code 484 = .ok (.iaload, 1) := by decide +kernel
theorem dl_485 : decode code 485 = .ok (.aload_n 0, 1) := by decide +kernel
theorem dl_486 : decode code 486 = .ok (.iload_n 3, 1) := by decide +kernel
theorem dl_487 : decode code 487 = .ok (.iconst 3, 1) := by decide +kernel
theorem dl_488 : decode code 488 = .ok (.iadd, 1) := by decide +kernel
theorem dl_489 : decode code 489 = .ok (.iaload, 1) := by decide +kernel
theorem dl_490 : decode code 490 = .ok (.aload_n 0, 1) := by decide +kernel
theorem dl_491 : decode code 491 = .ok (.iload_n 3, 1) := by decide +kernel
theorem dl_492 : decode code 492 = .ok (.iconst 4, 1) := by decide +kernel
theorem dl_493 : decode code 493 = .ok (.iadd, 1) := by decide +kernel
theorem dl_494 : decode code 494 = .ok (.iaload, 1) := by decide +kernel
theorem dl_495 : decode code 495 = .ok (.aload_n 0, 1) := by decide +kernel
theorem dl_496 : decode code 496 = .ok (.iload_n 3, 1) := by decide +kernel
theorem dl_497 : decode code 497 = .ok (.iconst 5, 1) := by decide +kernel
theorem dl_498 : decode code 498 = .ok (.iadd, 1) := by decide +kernel
theorem dl_499 : decode code 499 = .ok (.iaload, 1) := by decide +kernel
theorem dl_500 : decode code 500 = .ok (.invokevirtual 45, 3) := by decide +kernel
theorem dl_503 : decode code 503 = .ok (.pop, 1) := by decide +kernel
theorem dl_504 : decode code 504 = .ok (.goto 950, 3) := by decide +kernel
theorem dl_507 : decode code 507 = .ok (.aload_n 1, 1) := by decide +kernel
theorem dl_508 : decode code 508 = .ok (.aload_n 0, 1) := by decide +kernel
theorem dl_509 : decode code 509 = .ok (.iload_n 3, 1) := by decide +kernel
theorem dl_510 : decode code 510 = .ok (.iconst 1, 1) := by decide +kernel
theorem dl_511 : decode code 511 = .ok (.iadd, 1) := by decide +kernel
theorem dl_512 : decode code 512 = .ok (.iaload, 1) := by decide +kernel
theorem dl_513 : decode code 513 = .ok (.invokevirtual 46, 3) := by decide +kernel
theorem dl_516 : decode code 516 = .ok (.pop, 1) := by decide +kernel
theorem dl_517 : decode code 517 = .ok (.aload_n 2, 1) := by decide +kernel
theorem dl_518 : decode code 518 = .ok (.aload_n 0, 1) := by decide +kernel
theorem dl_519 : decode code 519 = .ok (.iload_n 3, 1) := by decide +kernel
theorem dl_520 : decode code 520 = .ok (.iconst 1, 1) := by decide +kernel
theorem dl_521 : decode code 521 = .ok (.iadd, 1) := by decide +kernel
theorem dl_522 : decode code 522 = .ok (.iaload, 1) := by decide +kernel
theorem dl_523 : decode code 523 = .ok (.invokevirtual 49, 3) := by decide +kernel
theorem dl_526 : decode code 526 = .ok (.pop, 1) := by decide +kernel
theorem dl_527 : decode code 527 = .ok (.goto 927, 3) := by decide +kernel
theorem dl_530 : decode code 530 = .ok (.aload_n 1, 1) := by decide +kernel
theorem dl_531 : decode code 531 = .ok (.invokevirtual 50, 3) := by decide +kernel
theorem dl_534 : decode code 534 = .ok (.pop, 1) := by decide +kernel
theorem dl_535 : decode code 535 = .ok (.aload_n 2, 1) := by decide +kernel
theorem dl_536 : decode code 536 = .ok (.invokevirtual 54, 3) := by decide +kernel
theorem dl_539 : decode code 539 = .ok (.pop, 1) := by decide +kernel
theorem dl_540 : decode code 540 = .ok (.goto 914, 3) := by decide +kernel
theorem dl_543 : decode code 543 = .ok (.aload_n 1, 1) := by decide +kernel
theorem dl_544 : decode code 544 = .ok (.invokevirtual 55, 3) := by decide +kernel
theorem dl_547 : decode code 547 = .ok (.pop, 1) := by decide +kernel
theorem dl_548 : decode code 548 = .ok (.aload_n 2, 1) := by decide +kernel
theorem dl_549 : decode code 549 = .ok (.invokevirtual 58, 3) := by decide +kernel
theorem dl_552 : decode code 552 = .ok (.pop, 1) := by decide +kernel
theorem dl_553 : decode code 553 = .ok (.goto 901, 3) := by decide +kernel
theorem dl_556 : decode code 556 = .ok (.aload_n 1, 1) := by decide +kernel
theorem dl_557 : decode code 557 = .ok (.aload_n 0, 1) := by decide +kernel
theorem dl_558 : decode code 558 = .ok (.iload_n 3, 1) := by decide +kernel
theorem dl_559 : decode code 559 = .ok (.iconst 1, 1) := by decide +kernel
theorem dl_560 : decode code 560 = .ok (.iadd, 1) := by decide +kernel
theorem dl_561 : decode code 561 = .ok (.iaload, 1) := by decide +kernel
theorem dl_562 : decode code 562 = .ok (.invokevirtual 59, 3) := by decide +kernel
theorem dl_565 : decode code 565 = .ok (.pop, 1) := by decide +kernel
theorem dl_566 : decode code 566 = .ok (.aload_n 2, 1) := by decide +kernel
theorem dl_567 : decode code 567 = .ok (.aload_n 0, 1) := by decide +kernel
theorem dl_568 : decode code 568 = .ok (.iload_n 3, 1) := by decide +kernel
theorem dl_569 : decode code 569 = .ok (.iconst 1, 1) := by decide +kernel
theorem dl_570 : decode code 570 = .ok (.iadd, 1) := by decide +kernel
theorem dl_571 : decode code 571 = .ok (.iaload, 1) := by decide +kernel
theorem dl_572 : decode code 572 = .ok (.invokevirtual 62, 3) := by decide +kernel
theorem dl_575 : decode code 575 = .ok (.pop, 1) := by decide +kernel
theorem dl_576 : decode code 576 = .ok (.goto 878, 3) := by decide +kernel
theorem dl_579 : decode code 579 = .ok (.aload_n 1, 1) := by decide +kernel
theorem dl_580 : decode code 580 = .ok (.aload_n 0, 1) := by decide +kernel
theorem dl_581 : decode code 581 = .ok (.iload_n 3, 1) := by decide +kernel
theorem dl_582 : decode code 582 = .ok (.iconst 1, 1) := by decide +kernel
theorem dl_583 : decode code 583 = .ok (.iadd, 1) := by decide +kernel
theorem dl_584 : decode code 584 = .ok (.iaload, 1) := by decide +kernel
theorem dl_585 : decode code 585 = .ok (.aload_n 0, 1) := by decide +kernel
theorem dl_586 : decode code 586 = .ok (.iload_n 3, 1) := by decide +kernel
theorem dl_587 : decode code 587 = .ok (.iconst 2, 1) := by decide +kernel
theorem dl_588 : decode code 588 = .ok (.iadd, 1) := by decide +kernel
theorem dl_589 : decode code 589 = .ok (.iaload, 1) := by decide +kernel
theorem dl_590 : decode code 590 = .ok (.aload_n 0, 1) := by decide +kernel
theorem dl_591 : decode code 591 = .ok (.iload_n 3, 1) := by decide +kernel
theorem dl_592 : decode code 592 = .ok (.iconst 3, 1) := by decide +kernel
theorem dl_593 : decode code 593 = .ok (.iadd, 1) := by decide +kernel
theorem dl_594 : decode code 594 = .ok (.iaload, 1) := by decide +kernel
theorem dl_595 : decode code 595 = .ok (.aload_n 0, 1) := by decide +kernel
theorem dl_596 : decode code 596 = .ok (.iload_n 3, 1) := by decide +kernel
theorem dl_597 : decode code 597 = .ok (.iconst 4, 1) := by decide +kernel
theorem dl_598 : decode code 598 = .ok (.iadd, 1) := by decide +kernel
theorem dl_599 : decode code 599 = .ok (.iaload, 1) := by decide +kernel
theorem dl_600 : decode code 600 = .ok (.invokevirtual 63, 3) := by decide +kernel
theorem dl_603 : decode code 603 = .ok (.pop, 1) := by decide +kernel
theorem dl_604 : decode code 604 = .ok (.aload_n 2, 1) := by decide +kernel
theorem dl_605 : decode code 605 = .ok (.aload_n 0, 1) := by decide +kernel
theorem dl_606 : decode code 606 = .ok (.iload_n 3, 1) := by decide +kernel
theorem dl_607 : decode code 607 = .ok (.iconst 1, 1) := by decide +kernel
theorem dl_608 : decode code 608 = .ok (.iadd, 1) := by decide +kernel
theorem dl_609 : decode code 609 = .ok (.iaload, 1) := by decide +kernel
theorem dl_610 : decode code 610 = .ok (.aload_n 0, 1) := by decide +kernel
theorem dl_611 : decode code 611 = .ok (.iload_n 3, 1) := by decide +kernel
theorem dl_612 : decode code 612 = .ok (.iconst 2, 1) := by decide +kernel
theorem dl_613 : decode code 613 = .ok (.iadd, 1) := by decide +kernel
theorem dl_614 : decode code 614 = .ok (.iaload, 1) := by decide +kernel
theorem dl_615 : decode code 615 = .ok (.aload_n 0, 1) := by decide +kernel
theorem dl_616 : decode code 616 = .ok (.iload_n 3, 1) := by decide +kernel
theorem dl_617 : decode code 617 = .ok (.iconst 3, 1) := by decide +kernel
theorem dl_618 : decode code 618 = .ok (.iadd, 1) := by decide +kernel
theorem dl_619 : decode code 619 = .ok (.iaload, 1) := by decide +kernel
theorem dl_620 : decode code 620 = .ok (.aload_n 0, 1) := by decide +kernel
theorem dl_621 : decode code 621 = .ok (.iload_n 3, 1) := by decide +kernel
theorem dl_622 : decode code 622 = .ok (.iconst 4, 1) := by decide +kernel
theorem dl_623 : decode code 623 = .ok (.iadd, 1) := by decide +kernel
theorem dl_624 : decode code 624 = .ok (.iaload, 1) := by decide +kernel
theorem dl_625 : decode code 625 = .ok (.invokevirtual 66, 3) := by decide +kernel
theorem dl_628 : decode code 628 = .ok (.pop, 1) := by decide +kernel
theorem dl_629 : decode code 629 = .ok (.goto 825, 3) := by decide +kernel
theorem dl_632 : decode code 632 = .ok (.aload_n 1, 1) := by decide +kernel
theorem dl_633 : decode code 633 = .ok (.aload_n 0, 1) := by decide +kernel
theorem dl_634 : decode code 634 = .ok (.iload_n 3, 1) := by decide +kernel
theorem dl_635 : decode code 635 = .ok (.iconst 1, 1) := by decide +kernel
theorem dl_636 : decode code 636 = .ok (.iadd, 1) := by decide +kernel
theorem dl_637 : decode code 637 = .ok (.iaload, 1) := by decide +kernel
theorem dl_638 : decode code 638 = .ok (.aload_n 0, 1) := by decide +kernel
theorem dl_639 : decode code 639 = .ok (.iload_n 3, 1) := by decide +kernel
theorem dl_640 : decode code 640 = .ok (.iconst 2, 1) := by decide +kernel
theorem dl_641 : decode code 641 = .ok (.iadd, 1) := by decide +kernel
theorem dl_642 : decode code 642 = .ok (.iaload, 1) := by decide +kernel
theorem dl_643 : decode code 643 = .ok (.aload_n 0, 1) := by decide +kernel
theorem dl_644 : decode code 644 = .ok (.iload_n 3, 1) := by decide +kernel
theorem dl_645 : decode code 645 = .ok (.iconst 3, 1) := by decide +kernel
theorem dl_646 : decode code 646 = .ok (.iadd, 1) := by decide +kernel
theorem dl_647 : decode code 647 = .ok (.iaload, 1) := by decide +kernel
theorem dl_648 : decode code 648 = .ok (.aload_n 0, 1) := by decide +kernel
theorem dl_649 : decode code 649 = .ok (.iload_n 3, 1) := by decide +kernel
theorem dl_650 : decode code 650 = .ok (.iconst 4, 1) := by decide +kernel
theorem dl_651 : decode code 651 = .ok (.iadd, 1) := by decide +kernel
theorem dl_652 : decode code 652 = .ok (.iaload, 1) := by decide +kernel
theorem dl_653 : decode code 653 = .ok (.aload_n 0, 1) := by decide +kernel
theorem dl_654 : decode code 654 = .ok (.iload_n 3, 1) := by decide +kernel
theorem dl_655 : decode code 655 = .ok (.iconst 5, 1) := by decide +kernel
theorem dl_656 : decode code 656 = .ok (.iadd, 1) := by decide +kernel
theorem dl_657 : decode code 657 = .ok (.iaload, 1) := by decide +kernel
theorem dl_658 : decode code 658 = .ok (.aload_n 0, 1) := by decide +kernel
theorem dl_659 : decode code 659 = .ok (.iload_n 3, 1) := by decide +kernel
theorem dl_660 : decode code 660 = .ok (.bipush 6, 2) := by decide +kernel
theorem dl_662 : decode code 662 = .ok (.iadd, 1) := by decide +kernel
theorem dl_663 : decode code 663 = .ok (.iaload, 1) := by decide +kernel
theorem dl_664 : decode code 664 = .ok (.invokevirtual 67, 3) := by decide +kernel
theorem dl_667 : decode code 667 = .ok (.pop, 1) := by decide +kernel
theorem dl_668 : decode code 668 = .ok (.aload_n 2, 1) := by decide +kernel
theorem dl_669 : decode code 669 = .ok (.aload_n 0, 1) := by decide +kernel
theorem dl_670 : decode code 670 = .ok (.iload_n 3, 1) := by decide +kernel
theorem dl_671 : decode code 671 = .ok (.iconst 1, 1) := by decide +kernel
theorem dl_672 : decode code 672 = .ok (.iadd, 1) := by decide +kernel
theorem dl_673 : decode code 673 = .ok (.iaload, 1) := by decide +kernel
theorem dl_674 : decode code 674 = .ok (.aload_n 0, 1) := by decide +kernel
theorem dl_675 : decode code 675 = .ok (.iload_n 3, 1) := by decide +kernel
theorem dl_676 : decode code 676 = .ok (.iconst 2, 1) := by decide +kernel
theorem dl_677 : decode code 677 = .ok (.iadd, 1) := by decide +kernel
theorem dl_678 : decode code 678 = .ok (.iaload, 1) := by decide +kernel
theorem dl_679 : decode code 679 = .ok (.aload_n 0, 1) := by decide +kernel
theorem dl_680 : decode code 680 = .ok (.iload_n 3, 1) := by decide +kernel
theorem dl_681 : decode code 681 = .ok (.iconst 3, 1) := by decide +kernel
theorem dl_682 : decode code 682 = .ok (.iadd, 1) := by decide +kernel
theorem dl_683 : decode code 683 = .ok (.iaload, 1) := by decide +kernel
theorem dl_684 : decode code 684 = .ok (.aload_n 0, 1) := by decide +kernel
theorem dl_685 : decode code 685 = .ok (.iload_n 3, 1) := by decide +kernel
theorem dl_686 : decode code 686 = .ok (.iconst 4, 1) := by decide +kernel
theorem dl_687 : decode code 687 = .ok (.iadd, 1) := by decide +kernel
theorem dl_688 : decode code 688 = .ok (.iaload, 1) := by decide +kernel
theorem dl_689 : decode code 689 = .ok (.aload_n 0, 1) := by decide +kernel
theorem dl_690 : decode code 690 = .ok (.iload_n 3, 1) := by decide +kernel
theorem dl_691 : decode code 691 = .ok (.iconst 5, 1) := by decide +kernel
theorem dl_692 : decode code 692 = .ok (.iadd, 1) := by decide +kernel
theorem dl_693 : decode code 693 = .ok (.iaload, 1) := by decide +kernel
theorem dl_694 : decode code 694 = .ok (.aload_n 0, 1) := by decide +kernel
theorem dl_695 : decode code 695 = .ok (.iload_n 3, 1) := by decide +kernel
theorem dl_696 : decode code 696 = .ok (.bipush 6, 2) := by decide +kernel
theorem dl_698 : decode code 698 = .ok (.iadd, 1) := by decide +kernel
theorem dl_699 : decode code 699 = .ok (.iaload, 1) := by decide +kernel
theorem dl_700 : decode code 700 = .ok (.invokevirtual 71, 3) := by decide +kernel
theorem dl_703 : decode code 703 = .ok (.pop, 1) := by decide +kernel
theorem dl_704 : decode code 704 = .ok (.goto 750, 3) := by decide +kernel
theorem dl_707 : decode code 707 = .ok (.aload_n 1, 1) := by decide +kernel
theorem dl_708 : decode code 708 = .ok (.invokevirtual 72, 3) := by decide +kernel
theorem dl_711 : decode code 711 = .ok (.pop, 1) := by decide +kernel
theorem dl_712 : decode code 712 = .ok (.aload_n 2, 1) := by decide +kernel
theorem dl_713 : decode code 713 = .ok (.invokevirtual 75, 3) := by decide +kernel
theorem dl_716 : decode code 716 = .ok (.pop, 1) := by decide +kernel
theorem dl_717 : decode code 717 = .ok (.goto 737, 3) := by decide +kernel
theorem dl_720 : decode code 720 = .ok (.aload_n 1, 1) := by decide +kernel
theorem dl_721 : decode code 721 = .ok (.aload_n 0, 1) := by decide +kernel
theorem dl_722 : decode code 722 = .ok (.iload_n 3, 1) := by decide +kernel
theorem dl_723 : decode code 723 = .ok (.iconst 1, 1) := by decide +kernel
theorem dl_724 : decode code 724 = .ok (.iadd, 1) := by decide +kernel
theorem dl_725 : decode code 725 = .ok (.iaload, 1) := by decide +kernel
theorem dl_726 : decode code 726 = .ok (.aload_n 0, 1) := by decide +kernel
theorem dl_727 : decode code 727 = .ok (.iload_n 3, 1) := by decide +kernel
theorem dl_728 : decode code 728 = .ok (.iconst 2, 1) := by decide +kernel
theorem dl_729 : decode code 729 = .ok (.iadd, 1) := by decide +kernel
theorem dl_730 : decode code 730 = .ok (.iaload, 1) := by decide +kernel
theorem dl_731 : decode code 731 = .ok (.invokevirtual 76, 3) := by decide +kernel
theorem dl_734 : decode code 734 = .ok (.pop, 1) := by decide +kernel
theorem dl_735 : decode code 735 = .ok (.aload_n 2, 1) := by decide +kernel
theorem dl_736 : decode code 736 = .ok (.aload_n 0, 1) := by decide +kernel
theorem dl_737 : decode code 737 = .ok (.iload_n 3, 1) := by decide +kernel
theorem dl_738 : decode code 738 = .ok (.iconst 1, 1) := by decide +kernel
theorem dl_739 : decode code 739 = .ok (.iadd, 1) := by decide +kernel
theorem dl_740 : decode code 740 = .ok (.iaload, 1) := by decide +kernel
theorem dl_741 : decode code 741 = .ok (.aload_n 0, 1) := by decide +kernel
theorem dl_742 : decode code 742 = .ok (.iload_n 3, 1) := by decide +kernel
theorem dl_743 : decode code 743 = .ok (.iconst 2, 1) := by decide +kernel
theorem dl_744 : decode code 744 = .ok (.iadd, 1) := by decide +kernel
theorem dl_745 : decode code 745 = .ok (.iaload, 1) := by decide +kernel
theorem dl_746 : decode code 746 = .ok (.invokevirtual 79, 3) := by decide +kernel
theorem dl_749 : decode code 749 = .ok (.pop, 1) := by decide +kernel
theorem dl_750 : decode code 750 = .ok (.goto 704, 3) := by decide +kernel
theorem dl_753 : decode code 753 = .ok (.aload_n 1, 1) := by decide +kernel
theorem dl_754 : decode code 754 = .ok (.aload_n 0, 1) := by decide +kernel
theorem dl_755 : decode code 755 = .ok (.iload_n 3, 1) := by decide +kernel
theorem dl_756 : decode code 756 = .ok (.iconst 1, 1) := by decide +kernel
theorem dl_757 : decode code 757 = .ok (.iadd, 1) := by decide +kernel
theorem dl_758 : decode code 758 = .ok (.iaload, 1) := by decide +kernel
theorem dl_759 : decode code 759 = .ok (.invokevirtual 80, 3) := by decide +kernel
theorem dl_762 : decode code 762 = .ok (.pop, 1) := by decide +kernel
theorem dl_763 : decode code 763 = .ok (.aload_n 2, 1) := by decide +kernel
theorem dl_764 : decode code 764 = .ok (.aload_n 0, 1) := by decide +kernel
theorem dl_765 : decode code 765 = .ok (.iload_n 3, 1) := by decide +kernel
theorem dl_766 : decode code 766 = .ok (.iconst 1, 1) := by decide +kernel
theorem dl_767 : decode code 767 = .ok (.iadd, 1) := by decide +kernel
theorem dl_768 : decode code 768 = .ok (.iaload, 1) := by decide +kernel
theorem dl_769 : decode code 769 = .ok (.invokevirtual 83, 3) := by decide +kernel
theorem dl_772 : decode code 772 = .ok (.pop, 1) := by decide +kernel
theorem dl_773 : decode code 773 = .ok (.goto 681, 3) := by decide +kernel
theorem dl_776 : decode code 776 = .ok (.aload_n 1, 1) := by decide +kernel
theorem dl_777 : decode code 777 = .ok (.aload_n 0, 1) := by decide +kernel
theorem dl_778 : decode code 778 = .ok (.iload_n 3, 1) := by decide +kernel
theorem dl_779 : decode code 779 = .ok (.iconst 1, 1) := by decide +kernel
theorem dl_780 : decode code 780 = .ok (.iadd, 1) := by decide +kernel
theorem dl_781 : decode code 781 = .ok (.iaload, 1) := by decide +kernel
theorem dl_782 : decode code 782 = .ok (.aload_n 0, 1) := by decide +kernel
theorem dl_783 : decode code 783 = .ok (.iload_n 3, 1) := by decide +kernel
theorem dl_784 : decode code 784 = .ok (.iconst 2, 1) := by decide +kernel
theorem dl_785 : decode code 785 = .ok (.iadd, 1) := by decide +kernel
theorem dl_786 : decode code 786 = .ok (.iaload, 1) := by decide +kernel
theorem dl_787 : decode code 787 = .ok (.aload_n 0, 1) := by decide +kernel
theorem dl_788 : decode code 788 = .ok (.iload_n 3, 1) := by decide +kernel
theorem dl_789 : decode code 789 = .ok (.iconst 3, 1) := by decide +kernel
theorem dl_790 : decode code 790 = .ok (.iadd, 1) := by decide +kernel
theorem dl_791 : decode code 791 = .ok (.iaload, 1) := by decide +kernel
theorem dl_792 : decode code 792 = .ok (.invokevirtual 84, 3) := by decide +kernel
theorem dl_795 : decode code 795 = .ok (.pop, 1) := by decide +kernel
theorem dl_796 : decode code 796 = .ok (.aload_n 2, 1) := by decide +kernel
theorem dl_797 : decode code 797 = .ok (.aload_n 0, 1) := by decide +kernel
theorem dl_798 : decode code 798 = .ok (.iload_n 3, 1) := by decide +kernel
theorem dl_799 : decode code 799 = .ok (.iconst 1, 1) := by decide +kernel
theorem dl_800 : decode code 800 = .ok (.iadd, 1) := by decide +kernel
theorem dl_801 : decode code 801 = .ok (.iaload, 1) := by decide +kernel
theorem dl_802 : decode code 802 = .ok (.aload_n 0, 1) := by decide +kernel
theorem dl_803 : decode code 803 = .ok (.iload_n 3, 1) := by decide +kernel
theorem dl_804 : decode code 804 = .ok (.iconst 2, 1) := by decide +kernel
theorem dl_805 : decode code 805 = .ok (.iadd, 1) := by decide +kernel
theorem dl_806 : decode code 806 = .ok (.iaload, 1) := by decide +kernel
theorem dl_807 : decode code 807 = .ok (.aload_n 0, 1) := by decide +kernel
theorem dl_808 : decode code 808 = .ok (.iload_n 3, 1) := by decide +kernel
theorem dl_809 : decode code 809 = .ok (.iconst 3, 1) := by decide +kernel
theorem dl_810 : decode code 810 = .ok (.iadd, 1) := by decide +kernel
theorem dl_811 : decode code 811 = .ok (.iaload, 1) := by decide +kernel
theorem dl_812 : decode code 812 = .ok (.invokevirtual 87, 3) := by decide +kernel
theorem dl_815 : decode code 815 = .ok (.pop, 1) := by decide +kernel
theorem dl_816 : decode code 816 = .ok (.goto 638, 3) := by decide +kernel
theorem dl_819 : decode code 819 = .ok (.aload_n 1, 1) := by decide +kernel
theorem dl_820 : decode code 820 = .ok (.aload_n 0, 1) := by decide +kernel
theorem dl_821 : decode code 821 = .ok (.iload_n 3, 1) := by decide +kernel
theorem dl_822 : decode code 822 = .ok (.iconst 1, 1) := by decide +kernel
theorem dl_823 : decode code 823 = .ok (.iadd, 1) := by decide +kernel
theorem dl_824 : decode code 824 = .ok (.iaload, 1) := by decide +kernel
theorem dl_825 : decode code 825 = .ok (.aload_n 0, 1) := by decide +kernel
theorem dl_826 : decode code 826 = .ok (.iload_n 3, 1) := by decide +kernel
theorem dl_827 : decode code 827 = .ok (.iconst 2, 1) := by decide +kernel
theorem dl_828 : decode code 828 = .ok (.iadd, 1) := by decide +kernel
theorem dl_829 : decode code 829 = .ok (.iaload, 1) := by decide +kernel
theorem dl_830 : decode code 830 = .ok (.invokevirtual 88, 3) := by decide +kernel
theorem dl_833 : decode code 833 = .ok (.pop, 1) := by decide +kernel
theorem dl_834 : decode code 834 = .ok (.aload_n 2, 1) := by decide +kernel
theorem dl_835 : decode code 835 = .ok (.aload_n 0, 1) := by decide +kernel
theorem dl_836 : decode code 836 = .ok (.iload_n 3, 1) := by decide +kernel
theorem dl_837 : decode code 837 = .ok (.iconst 1, 1) := by decide +kernel
theorem dl_838 : decode code 838 = .ok (.iadd, 1) := by decide +kernel
theorem dl_839 : decode code 839 = .ok (.iaload, 1) := by decide +kernel
theorem dl_840 : decode code 840 = .ok (.aload_n 0, 1) := by decide +kernel
theorem dl_841 : decode code 841 = .ok (.iload_n 3, 1) := by decide +kernel
theorem dl_842 : decode code 842 = .ok (.iconst 2, 1) := by decide +kernel
theorem dl_843 : decode code 843 = .ok (.iadd, 1) := by decide +kernel
theorem dl_844 : decode code 844 = .ok (.iaload, 1) := by decide +kernel
theorem dl_845 : decode code 845 = .ok (.invokevirtual 91, 3) := by decide +kernel
theorem dl_848 : decode code 848 = .ok (.pop, 1) := by decide +kernel
theorem dl_849 : decode code 849 = .ok (.goto 605, 3) := by decide +kernel
theorem dl_852 : decode code 852 = .ok (.aload_n 1, 1) := by decide +kernel
theorem dl_853 : decode code 853 = .ok (.aload_n 0, 1) := by decide +kernel
theorem dl_854 : decode code 854 = .ok (.iload_n 3, 1) := by decide +kernel
theorem dl_855 : decode code 855 = .ok (.iconst 1, 1) := by decide +kernel
theorem dl_856 : decode code 856 = .ok (.iadd, 1) := by decide +kernel
theorem dl_857 : decode code 857 = .ok (.iaload, 1) := by decide +kernel
theorem dl_858 : decode code 858 = .ok (.aload_n 0, 1) := by decide +kernel
theorem dl_859 : decode code 859 = .ok (.iload_n 3, 1) := by decide +kernel
theorem dl_860 : decode code 860 = .ok (.iconst 2, 1) := by decide +kernel
theorem dl_861 : decode code 861 = .ok (.iadd, 1) := by decide +kernel
theorem dl_862 : decode code 862 = .ok (.iaload, 1) := by decide +kernel
theorem dl_863 : decode code 863 = .ok (.invokevirtual 92, 3) := by decide +kernel
theorem dl_866 : decode code 866 = .ok (.pop, 1) := by decide +kernel
theorem dl_867 : decode code 867 = .ok (.aload_n 2, 1) := by decide +kernel
theorem dl_868 : decode code 868 = .ok (.aload_n 0, 1) := by decide +kernel
theorem dl_869 : decode code 869 = .ok (.iload_n 3, 1) := by decide +kernel
theorem dl_870 : decode code 870 = .ok (.iconst 1, 1) := by decide +kernel
theorem dl_871 : decode code 871 = .ok (.iadd, 1) := by decide +kernel
theorem dl_872 : decode code 872 = .ok (.iaload, 1) := by decide +kernel
theorem dl_873 : decode code 873 = .ok (.aload_n 0, 1) := by decide +kernel
theorem dl_874 : decode code 874 = .ok (.iload_n 3, 1) := by decide +kernel
theorem dl_875 : decode code 875 = .ok (.iconst 2, 1) := by decide +kernel
theorem dl_876 : decode code 876 = .ok (.iadd, 1) := by decide +kernel
theorem dl_877 : decode code 877 = .ok (.iaload, 1) := by decide +kernel
theorem dl_878 : decode code 878 = .ok (.invokevirtual 95, 3) := by decide +kernel
theorem dl_881 : decode code 881 = .ok (.pop, 1) := by decide +kernel
theorem dl_882 : decode code 882 = .ok (.goto 572, 3) := by decide +kernel
theorem dl_885 : decode code 885 = .ok (.aload_n 1, 1) := by decide +kernel
theorem dl_886 : decode code 886 = .ok (.invokevirtual 96, 3) := by decide +kernel
theorem dl_889 : decode code 889 = .ok (.pop, 1) := by decide +kernel
theorem dl_890 : decode code 890 = .ok (.aload_n 2, 1) := by decide +kernel
theorem dl_891 : decode code 891 = .ok (.invokevirtual 99, 3) := by decide +kernel
theorem dl_894 : decode code 894 = .ok (.pop, 1) := by decide +kernel
theorem dl_895 : decode code 895 = .ok (.goto 559, 3) := by decide +kernel
theorem dl_898 : decode code 898 = .ok (.aload_n 1, 1) := by decide +kernel
theorem dl_899 : decode code 899 = .ok (.aload_n 0, 1) := by decide +kernel
theorem dl_900 : decode code 900 = .ok (.iload_n 3, 1) := by decide +kernel
theorem dl_901 : decode code 901 = .ok (.iconst 1, 1) := by decide +kernel
theorem dl_902 : decode code 902 = .ok (.iadd, 1) := by decide +kernel
theorem dl_903 : decode code 903 = .ok (.iaload, 1) := by decide +kernel
theorem dl_904 : decode code 904 = .ok (.aload_n 0, 1) := by decide +kernel
theorem dl_905 : decode code 905 = .ok (.iload_n 3, 1) := by decide +kernel
theorem dl_906 : decode code 906 = .ok (.iconst 2, 1) := by decide +kernel
theorem dl_907 : decode code 907 = .ok (.iadd, 1) := by decide +kernel
theorem dl_908 : decode code 908 = .ok (.iaload, 1) := by decide +kernel
theorem dl_909 : decode code 909 = .ok (.invokevirtual 100, 3) := by decide +kernel
theorem dl_912 : decode code 912 = .ok (.pop, 1) := by decide +kernel
theorem dl_913 : decode code 913 = .ok (.aload_n 2, 1) := by decide +kernel
theorem dl_914 : decode code 914 = .ok (.aload_n 0, 1) := by decide +kernel
theorem dl_915 : decode code 915 = .ok (.iload_n 3, 1) := by decide +kernel
theorem dl_916 : decode code 916 = .ok (.iconst 1, 1) := by decide +kernel
theorem dl_917 : decode code 917 = .ok (.iadd, 1) := by decide +kernel
theorem dl_918 : decode code 918 = .ok (.iaload, 1) := by decide +kernel
theorem dl_919 : decode code 919 = .ok (.aload_n 0, 1) := by decide +kernel
theorem dl_920 : decode code 920 = .ok (.iload_n 3, 1) := by decide +kernel
theorem dl_921 : decode code 921 = .ok (.iconst 2, 1) := by decide +kernel
theorem dl_922 : decode code 922 = .ok (.iadd, 1) := by decide +kernel
theorem dl_923 : decode code 923 = .ok (.iaload, 1) := by decide +kernel
theorem dl_924 : decode code 924 = .ok (.invokevirtual 103, 3) := by decide +kernel
theorem dl_927 : decode code 927 = .ok (.pop, 1) := by decide +kernel
theorem dl_928 : decode code 928 = .ok (.goto 526, 3) := by decide +kernel
theorem dl_931 : decode code 931 = .ok (.aload_n 1, 1) := by decide +kernel
theorem dl_932 : decode code 932 = .ok (.aload_n 0, 1) := by decide +kernel
theorem dl_933 : decode code 933 = .ok (.iload_n 3, 1) := by decide +kernel
theorem dl_934 : decode code 934 = .ok (.iconst 1, 1) := by decide +kernel
theorem dl_935 : decode code 935 = .ok (.iadd, 1) := by decide +kernel
theorem dl_936 : decode code 936 = .ok (.iaload, 1) := by decide +kernel
theorem dl_937 : decode code 937 = .ok (.invokevirtual 104, 3) := by decide +kernel
theorem dl_940 : decode code 940 = .ok (.pop, 1) := by decide +kernel
theorem dl_941 : decode code 941 = .ok (.aload_n 2, 1) := by decide +kernel
theorem dl_942 : decode code 942 = .ok (.aload_n 0, 1) := by decide +kernel
theorem dl_943 : decode code 943 = .ok (.iload_n 3, 1) := by decide +kernel
theorem dl_944 : decode code 944 = .ok (.iconst 1, 1) := by decide +kernel
theorem dl_945 : decode code 945 = .ok (.iadd, 1) := by decide +kernel
theorem dl_946 : decode code 946 = .ok (.iaload, 1) := by decide +kernel
theorem dl_947 : decode code 947 = .ok (.invokevirtual 107, 3) := by decide +kernel
theorem dl_950 : decode code 950 = .ok (.pop, 1) := by decide +kernel
theorem dl_951 : decode code 951 = .ok (.goto 503, 3) := by decide +kernel
theorem dl_954 : decode code 954 = .ok (.aload_n 1, 1) := by decide +kernel
theorem dl_955 : decode code 955 = .ok (.invokevirtual 108, 3) := by decide +kernel
theorem dl_958 : decode code 958 = .ok (.pop, 1) := by decide +kernel
theorem dl_959 : decode code 959 = .ok (.aload_n 2, 1) := by decide +kernel
theorem dl_960 : decode code 960 = .ok (.invokevirtual 111, 3) := by decide +kernel
theorem dl_963 : decode code 963 = .ok (.pop, 1) := by decide +kernel
theorem dl_964 : decode code 964 = .ok (.goto 490, 3) := by decide +kernel
theorem dl_967 : decode code 967 = .ok (.aload_n 1, 1) := by decide +kernel
theorem dl_968 : decode code 968 = .ok (.invokevirtual 112, 3) := by decide +kernel
theorem dl_971 : decode code 971 = .ok (.pop, 1) := by decide +kernel
theorem dl_972 : decode code 972 = .ok (.aload_n 2, 1) := by decide +kernel
theorem dl_973 : decode code 973 = .ok (.invokevirtual 115, 3) := by decide +kernel
theorem dl_976 : decode code 976 = .ok (.pop, 1) := by decide +kernel
theorem dl_977 : decode code 977 = .ok (.goto 477, 3) := by decide +kernel
theorem dl_980 : decode code 980 = .ok (.aload_n 1, 1) := by decide +kernel
theorem dl_981 : decode code 981 = .ok (.aload_n 0, 1) := by decide +kernel
theorem dl_982 : decode code 982 = .ok (.iload_n 3, 1) := by decide +kernel
theorem dl_983 : decode code 983 = .ok (.iconst 1, 1) := by decide +kernel
theorem dl_984 : decode code 984 = .ok (.iadd, 1) := by decide +kernel
theorem dl_985 : decode code 985 = .ok (.iaload, 1) := by decide +kernel
theorem dl_986 : decode code 986 = .ok (.invokevirtual 116, 3) := by decide +kernel
theorem dl_989 : decode code 989 = .ok (.pop, 1) := by decide +kernel
theorem dl_990 : decode code 990 = .ok (.aload_n 2, 1) := by decide +kernel
theorem dl_991 : decode code 991 = .ok (.aload_n 0, 1) := by decide +kernel
theorem dl_992 : decode code 992 = .ok (.iload_n 3, 1) := by decide +kernel
theorem dl_993 : decode code 993 = .ok (.iconst 1, 1) := by decide +kernel
theorem dl_994 : decode code 994 = .ok (.iadd, 1) := by decide +kernel
theorem dl_995 : decode code 995 = .ok (.iaload, 1) := by decide +kernel
theorem dl_996 : decode code 996 = .ok (.invokevirtual 119, 3) := by decide +kernel
theorem dl_999 : decode code 999 = .ok (.pop, 1) := by decide +kernel
theorem dl_1000 : decode code 1000 = .ok (.goto 454, 3) := by decide +kernel
theorem dl_1003 : decode code 1003 = .ok (.aload_n 1, 1) := by decide +kernel
theorem dl_1004 : decode code 1004 = .ok (.aload_n 0, 1) := by decide +kernel
theorem dl_1005 : decode code 1005 = .ok (.iload_n 3, 1) := by decide +kernel
theorem dl_1006 : decode code 1006 = .ok (.iconst 1, 1) := by decide +kernel
theorem dl_1007 : decode code 1007 = .ok (.iadd, 1) := by decide +kernel
theorem dl_1008 : decode code 1008 = .ok (.iaload, 1) := by decide +kernel
theorem dl_1009 : decode code 1009 = .ok (.invokevirtual 120, 3) := by decide +kernel
theorem dl_1012 : decode code 1012 = .ok (.pop, 1) := by decide +kernel
theorem dl_1013 : decode code 1013 = .ok (.aload_n 2, 1) := by decide +kernel
theorem dl_1014 : decode code 1014 = .ok (.aload_n 0, 1) := by decide +kernel
theorem dl_1015 : decode code 1015 = .ok (.iload_n 3, 1) := by decide +kernel
theorem dl_1016 : decode code 1016 = .ok (.iconst 1, 1) := by decide +kernel
theorem dl_1017 : decode code 1017 = .ok (.iadd, 1) := by decide +kernel
theorem dl_1018 : decode code 1018 = .ok (.iaload, 1) := by decide +kernel
theorem dl_1019 : decode code 1019 = .ok (.invokevirtual 123, 3) := by decide +kernel
theorem dl_1022 : decode code 1022 = .ok (.pop, 1) := by decide +kernel
theorem dl_1023 : decode code 1023 = .ok (.goto 431, 3) := by decide +kernel
theorem dl_1026 : decode code 1026 = .ok (.aload_n 1, 1) := by decide +kernel
theorem dl_1027 : decode code 1027 = .ok (.aload_n 0, 1) := by decide +kernel
theorem dl_1028 : decode code 1028 = .ok (.iload_n 3, 1) := by decide +kernel
theorem dl_1029 : decode code 1029 = .ok (.iconst 1, 1) := by decide +kernel
theorem dl_1030 : decode code 1030 = .ok (.iadd, 1) := by decide +kernel
theorem dl_1031 : decode code 1031 = .ok (.iaload, 1) := by decide +kernel
theorem dl_1032 : decode code 1032 = .ok (.aload_n 0, 1) := by decide +kernel
theorem dl_1033 : decode code 1033 = .ok (.iload_n 3, 1) := by decide +kernel
theorem dl_1034 : decode code 1034 = .ok (.iconst 2, 1) := by decide +kernel
theorem dl_1035 : decode code 1035 = .ok (.iadd, 1) := by decide +kernel
theorem dl_1036 : decode code 1036 = .ok (.iaload, 1) := by decide +kernel
theorem dl_1037 : decode code 1037 = .ok (.invokevirtual 124, 3) := by decide +kernel
theorem dl_1040 : decode code 1040 = .ok (.pop, 1) := by decide +kernel
theorem dl_1041 : decode code 1041 = .ok (.aload_n 2, 1) := by decide +kernel
theorem dl_1042 : decode code 1042 = .ok (.aload_n 0, 1) := by decide +kernel
theorem dl_1043 : decode code 1043 = .ok (.iload_n 3, 1) := by decide +kernel
theorem dl_1044 : decode code 1044 = .ok (.iconst 1, 1) := by decide +kernel
theorem dl_1045 : decode code 1045 = .ok (.iadd, 1) := by decide +kernel
theorem dl_1046 : decode code 1046 = .ok (.iaload, 1) := by decide +kernel
theorem dl_1047 : decode code 1047 = .ok (.aload_n 0, 1) := by decide +kernel
theorem dl_1048 : decode code 1048 = .ok (.iload_n 3, 1) := by decide +kernel
theorem dl_1049 : decode code 1049 = .ok (.iconst 2, 1) := by decide +kernel
theorem dl_1050 : decode code 1050 = .ok (.iadd, 1) := by decide +kernel
theorem dl_1051 : decode code 1051 = .ok (.iaload, 1) := by decide +kernel
theorem dl_1052 : decode code 1052 = .ok (.invokevirtual 127, 3) := by decide +kernel
theorem dl_1055 : decode code 1055 = .ok (.pop, 1) := by decide +kernel
theorem dl_1056 : decode code 1056 = .ok (.goto 398, 3) := by decide +kernel
theorem dl_1059 : decode code 1059 = .ok (.aload_n 1, 1) := by decide +kernel
theorem dl_1060 : decode code 1060 = .ok (.aload_n 0, 1) := by decide +kernel
theorem dl_1061 : decode code 1061 = .ok (.iload_n 3, 1) := by decide +kernel
theorem dl_1062 : decode code 1062 = .ok (.iconst 1, 1) := by decide +kernel
theorem dl_1063 : decode code 1063 = .ok (.iadd, 1) := by decide +kernel
theorem dl_1064 : decode code 1064 = .ok (.iaload, 1) := by decide +kernel
theorem dl_1065 : decode code 1065 = .ok (.invokevirtual 128, 3) := by decide +kernel
theorem dl_1068 : decode code 1068 = .ok (.pop, 1) := by decide +kernel
theorem dl_1069 : decode code 1069 = .ok (.aload_n 2, 1) := by decide +kernel
theorem dl_1070 : decode code 1070 = .ok (.aload_n 0, 1) := by decide +kernel
theorem dl_1071 : decode code 1071 = .ok (.iload_n 3, 1) := by decide +kernel
theorem dl_1072 : decode code 1072 = .ok (.iconst 1, 1) := by decide +kernel
theorem dl_1073 : decode code 1073 = .ok (.iadd, 1) := by decide +kernel
theorem dl_1074 : decode code 1074 = .ok (.iaload, 1) := by decide +kernel
theorem dl_1075 : decode code 1075 = .ok (.invokevirtual 131, 3) := by decide +kernel
theorem dl_1078 : decode code 1078 = .ok (.pop, 1) := by decide +kernel
theorem dl_1079 : decode code 1079 = .ok (.goto 375, 3) := by decide +kernel
theorem dl_1082 : decode code 1082 = .ok (.aload_n 1, 1) := by decide +kernel
theorem dl_1083 : decode code 1083 = .ok (.aload_n 0, 1) := by decide +kernel
theorem dl_1084 : decode code 1084 = .ok (.iload_n 3, 1) := by decide +kernel
theorem dl_1085 : decode code 1085 = .ok (.iconst 1, 1) := by decide +kernel
theorem dl_1086 : decode code 1086 = .ok (.iadd, 1) := by decide +kernel
theorem dl_1087 : decode code 1087 = .ok (.iaload, 1) := by decide +kernel
theorem dl_1088 : decode code 1088 = .ok (.aload_n 0, 1) := by decide +kernel
theorem dl_1089 : decode code 1089 = .ok (.iload_n 3, 1) := by decide +kernel
theorem dl_1090 : decode code 1090 = .ok (.iconst 2, 1) := by decide +kernel
theorem dl_1091 : decode code 1091 = .ok (.iadd, 1) := by decide +kernel
theorem dl_1092 : decode code 1092 = .ok (.iaload, 1) := by decide +kernel
theorem dl_1093 : decode code 1093 = .ok (.invokevirtual 132, 3) := by decide +kernel
theorem dl_1096 : decode code 1096 = .ok (.pop, 1) := by decide +kernel
theorem dl_1097 : decode code 1097 = .ok (.aload_n 2, 1) := by decide +kernel
theorem dl_1098 : decode code 1098 = .ok (.aload_n 0, 1) := by decide +kernel
theorem dl_1099 : decode code 1099 = .ok (.iload_n 3, 1) := by decide +kernel
theorem dl_1100 : decode code 1100 = .ok (.iconst 1, 1) := by decide +kernel
theorem dl_1101 : decode code 1101 = .ok (.iadd, 1) := by decide +kernel
theorem dl_1102 : decode code 1102 = .ok (.iaload, 1) := by decide +kernel
theorem dl_1103 : decode code 1103 = .ok (.aload_n 0, 1) := by decide +kernel
theorem dl_1104 : decode code 1104 = .ok (.iload_n 3, 1) := by decide +kernel
theorem dl_1105 : decode code 1105 = .ok (.iconst 2, 1) := by decide +kernel
theorem dl_1106 : decode code 1106 = .ok (.iadd, 1) := by decide +kernel
theorem dl_1107 : decode code 1107 = .ok (.iaload, 1) := by decide +kernel
theorem dl_1108 : decode code 1108 = .ok (.invokevirtual 135, 3) := by decide +kernel
theorem dl_1111 : decode code 1111 = .ok (.pop, 1) := by decide +kernel
theorem dl_1112 : decode code 1112 = .ok (.goto 342, 3) := by decide +kernel
theorem dl_1115 : decode code 1115 = .ok (.aload_n 1, 1) := by decide +kernel
theorem dl_1116 : decode code 1116 = .ok (.aload_n 0, 1) := by decide +kernel
theorem dl_1117 : decode code 1117 = .ok (.iload_n 3, 1) := by decide +kernel
theorem dl_1118 : decode code 1118 = .ok (.iconst 1, 1) := by decide +kernel
theorem dl_1119 : decode code 1119 = .ok (.iadd, 1) := by decide +kernel
theorem dl_1120 : decode code 1120 = .ok (.iaload, 1) := by decide +kernel
theorem dl_1121 : decode code 1121 = .ok (.aload_n 0, 1) := by decide +kernel
theorem dl_1122 : decode code 1122 = .ok (.iload_n 3, 1) := by decide +kernel
theorem dl_1123 : decode code 1123 = .ok (.iconst 2, 1) := by decide +kernel
theorem dl_1124 : decode code 1124 = .ok (.iadd, 1) := by decide +kernel
theorem dl_1125 : decode code 1125 = .ok (.iaload, 1) := by decide +kernel
theorem dl_1126 : decode code 1126 = .ok (.invokevirtual 136, 3) := by decide +kernel
theorem dl_1129 : decode code 1129 = .ok (.pop, 1) := by decide +kernel
theorem dl_1130 : decode code 1130 = .ok (.aload_n 2, 1) := by decide +kernel
theorem dl_1131 : decode code 1131 = .ok (.aload_n 0, 1) := by decide +kernel
theorem dl_1132 : decode code 1132 = .ok (.iload_n 3, 1) := by decide +kernel
theorem dl_1133 : decode code 1133 = .ok (.iconst 1, 1) := by decide +kernel
theorem dl_1134 : decode code 1134 = .ok (.iadd, 1) := by decide +kernel
theorem dl_1135 : decode code 1135 = .ok (.iaload, 1) := by decide +kernel
theorem dl_1136 : decode code 1136 = .ok (.aload_n 0, 1) := by decide +kernel
theorem dl_1137 : decode code 1137 = .ok (.iload_n 3, 1) := by decide +kernel
theorem dl_1138 : decode code 1138 = .ok (.iconst 2, 1) := by decide +kernel
theorem dl_1139 : decode code 1139 = .ok (.iadd, 1) := by decide +kernel
theorem dl_1140 : decode code 1140 = .ok (.iaload, 1) := by decide +kernel
theorem dl_1141 : decode code 1141 = .ok (.invokevirtual 139, 3) := by decide +kernel
theorem dl_1144 : decode code 1144 = .ok (.pop, 1) := by decide +kernel
theorem dl_1145 : decode code 1145 = .ok (.goto 309, 3) := by decide +kernel
theorem dl_1148 : decode code 1148 = .ok (.aload_n 1, 1) := by decide +kernel
theorem dl_1149 : decode code 1149 = .ok (.aload_n 0, 1) := by decide +kernel
theorem dl_1150 : decode code 1150 = .ok (.iload_n 3, 1) := by decide +kernel
theorem dl_1151 : decode code 1151 = .ok (.iconst 1, 1) := by decide +kernel
theorem dl_1152 : decode code 1152 = .ok (.iadd, 1) := by decide +kernel
theorem dl_1153 : decode code 1153 = .ok (.iaload, 1) := by decide +kernel
theorem dl_1154 : decode code 1154 = .ok (.aload_n 0, 1) := by decide +kernel
theorem dl_1155 : decode code 1155 = .ok (.iload_n 3, 1) := by decide +kernel
theorem dl_1156 : decode code 1156 = .ok (.iconst 2, 1) := by decide +kernel
theorem dl_1157 : decode code 1157 = .ok (.iadd, 1) := by decide +kernel
theorem dl_1158 : decode code 1158 = .ok (.iaload, 1) := by decide +kernel
theorem dl_1159 : decode code 1159 = .ok (.invokevirtual 140, 3) := by decide +kernel
theorem dl_1162 : decode code 1162 = .ok (.pop, 1) := by decide +kernel
theorem dl_1163 : decode code 1163 = .ok (.aload_n 2, 1) := by decide +kernel
theorem dl_1164 : decode code 1164 = .ok (.aload_n 0, 1) := by decide +kernel
theorem dl_1165 : decode code 1165 = .ok (.iload_n 3, 1) := by decide +kernel
theorem dl_1166 : decode code 1166 = .ok (.iconst 1, 1) := by decide +kernel
theorem dl_1167 : decode code 1167 = .ok (.iadd, 1) := by decide +kernel
theorem dl_1168 : decode code 1168 = .ok (.iaload, 1) := by decide +kernel
theorem dl_1169 : decode code 1169 = .ok (.aload_n 0, 1) := by decide +kernel
theorem dl_1170 : decode code 1170 = .ok (.iload_n 3, 1) := by decide +kernel
theorem dl_1171 : decode code 1171 = .ok (.iconst 2, 1) := by decide +kernel
theorem dl_1172 : decode code 1172 = .ok (.iadd, 1) := by decide +kernel
theorem dl_1173 : decode code 1173 = .ok (.iaload, 1) := by decide +kernel
theorem dl_1174 : decode code 1174 = .ok (.invokevirtual 143, 3) := by decide +kernel
theorem dl_1177 : decode code 1177 = .ok (.pop, 1) := by decide +kernel
theorem dl_1178 : decode code 1178 = .ok (.goto 276, 3) := by decide +kernel
theorem dl_1181 : decode code 1181 = .ok (.aload_n 1, 1) := by decide +kernel
theorem dl_1182 : decode code 1182 = .ok (.aload_n 0, 1) := by decide +kernel
theorem dl_1183 : decode code 1183 = .ok (.iload_n 3, 1) := by decide +kernel
theorem dl_1184 : decode code 1184 = .ok (.iconst 1, 1) := by decide +kernel
theorem dl_1185 : decode code 1185 = .ok (.iadd, 1) := by decide +kernel
theorem dl_1186 : decode code 1186 = .ok (.iaload, 1) := by decide +kernel
theorem dl_1187 : decode code 1187 = .ok (.invokevirtual 144, 3) := by decide +kernel
theorem dl_1190 : decode code 1190 = .ok (.pop, 1) := by decide +kernel
theorem dl_1191 : decode code 1191 = .ok (.aload_n 2, 1) := by decide +kernel
theorem dl_1192 : decode code 1192 = .ok (.aload_n 0, 1) := by decide +kernel
theorem dl_1193 : decode code 1193 = .ok (.iload_n 3, 1) := by decide +kernel
theorem dl_1194 : decode code 1194 = .ok (.iconst 1, 1) := by decide +kernel
theorem dl_1195 : decode code 1195 = .ok (.iadd, 1) := by decide +kernel
theorem dl_1196 : decode code 1196 = .ok (.iaload, 1) := by decide +kernel
theorem dl_1197 : decode code 1197 = .ok (.invokevirtual 147, 3) := by decide +kernel
theorem dl_1200 : decode code 1200 = .ok (.pop, 1) := by decide +kernel
theorem dl_1201 : decode code 1201 = .ok (.goto 253, 3) := by decide +kernel
theorem dl_1204 : decode code 1204 = .ok (.aload_n 1, 1) := by decide +kernel
theorem dl_1205 : decode code 1205 = .ok (.aload_n 0, 1) := by decide +kernel
theorem dl_1206 : decode code 1206 = .ok (.iload_n 3, 1) := by decide +kernel
theorem dl_1207 : decode code 1207 = .ok (.iconst 1, 1) := by decide +kernel
theorem dl_1208 : decode code 1208 = .ok (.iadd, 1) := by decide +kernel
theorem dl_1209 : decode code 1209 = .ok (.iaload, 1) := by decide +kernel
theorem dl_1210 : decode code 1210 = .ok (.invokevirtual 148, 3) := by decide +kernel
theorem dl_1213 : decode code 1213 = .ok (.pop, 1) := by decide +kernel
theorem dl_1214 : decode code 1214 = .ok (.aload_n 2, 1) := by decide +kernel
theorem dl_1215 : decode code 1215 = .ok (.aload_n 0, 1) := by decide +kernel
theorem dl_1216 : decode code 1216 = .ok (.iload_n 3, 1) := by decide +kernel
theorem dl_1217 : decode code 1217 = .ok (.iconst 1, 1) := by decide +kernel
theorem dl_1218 : decode code 1218 = .ok (.iadd, 1) := by decide +kernel
theorem dl_1219 : decode code 1219 = .ok (.iaload, 1) := by decide +kernel
theorem dl_1220 : decode code 1220 = .ok (.invokevirtual 151, 3) := by decide +kernel
theorem dl_1223 : decode code 1223 = .ok (.pop, 1) := by decide +kernel
theorem dl_1224 : decode code 1224 = .ok (.goto 230, 3) := by decide +kernel
theorem dl_1227 : decode code 1227 = .ok (.aload_n 1, 1) := by decide +kernel
theorem dl_1228 : decode code 1228 = .ok (.aload_n 0, 1) := by decide +kernel
theorem dl_1229 : decode code 1229 = .ok (.iload_n 3, 1) := by decide +kernel
theorem dl_1230 : decode code 1230 = .ok (.iconst 1, 1) := by decide +kernel
theorem dl_1231 : decode code 1231 = .ok (.iadd, 1) := by decide +kernel
theorem dl_1232 : decode code 1232 = .ok (.iaload, 1) := by decide +kernel
theorem dl_1233 : decode code 1233 = .ok (.aload_n 0, 1) := by decide +kernel
theorem dl_1234 : decode code 1234 = .ok (.iload_n 3, 1) := by decide +kernel
theorem dl_1235 : decode code 1235 = .ok (.iconst 2, 1) := by decide +kernel
theorem dl_1236 : decode code 1236 = .ok (.iadd, 1) := by decide +kernel
theorem dl_1237 : decode code 1237 = .ok (.iaload, 1) := by decide +kernel
theorem dl_1238 : decode code 1238 = .ok (.invokevirtual 152, 3) := by decide +kernel
theorem dl_1241 : decode code 1241 = .ok (.pop, 1) := by decide +kernel
theorem dl_1242 : decode code 1242 = .ok (.aload_n 2, 1) := by decide +kernel
theorem dl_1243 : decode code 1243 = .ok (.aload_n 0, 1) := by decide +kernel
theorem dl_1244 : decode code 1244 = .ok (.iload_n 3, 1) := by decide +kernel
theorem dl_1245 : decode code 1245 = .ok (.iconst 1, 1) := by decide +kernel
theorem dl_1246 : decode code 1246 = .ok (.iadd, 1) := by decide +kernel
theorem dl_1247 : decode code 1247 = .ok (.iaload, 1) := by decide +kernel
theorem dl_1248 : decode code 1248 = .ok (.aload_n 0, 1) := by decide +kernel
theorem dl_1249 : decode code 1249 = .ok (.iload_n 3, 1) := by decide +kernel
theorem dl_1250 : decode code 1250 = .ok (.iconst 2, 1) := by decide +kernel
theorem dl_1251 : decode code 1251 = .ok (.iadd, 1) := by decide +kernel
theorem dl_1252 : decode code 1252 = .ok (.iaload, 1) := by decide +kernel
theorem dl_1253 : decode code 1253 = .ok (.invokevirtual 155, 3) := by decide +kernel
theorem dl_1256 : decode code 1256 = .ok (.pop, 1) := by decide +kernel
theorem dl_1257 : decode code 1257 = .ok (.goto 197, 3) := by decide +kernel
theorem dl_1260 : decode code 1260 = .ok (.aload_n 1, 1) := by decide +kernel
theorem dl_1261 : decode code 1261 = .ok (.aload_n 0, 1) := by decide +kernel
theorem dl_1262 : decode code 1262 = .ok (.iload_n 3, 1) := by decide +kernel
theorem dl_1263 : decode code 1263 = .ok (.iconst 1, 1) := by decide +kernel
theorem dl_1264 : decode code 1264 = .ok (.iadd, 1) := by decide +kernel
theorem dl_1265 : decode code 1265 = .ok (.iaload, 1) := by decide +kernel
theorem dl_1266 : decode code 1266 = .ok (.aload_n 0, 1) := by decide +kernel
theorem dl_1267 : decode code 1267 = .ok (.iload_n 3, 1) := by decide +kernel
theorem dl_1268 : decode code 1268 = .ok (.iconst 2, 1) := by decide +kernel
theorem dl_1269 : decode code 1269 = .ok (.iadd, 1) := by decide +kernel
theorem dl_1270 : decode code 1270 = .ok (.iaload, 1) := by decide +kernel
theorem dl_1271 : decode code 1271 = .ok (.invokevirtual 156, 3) := by decide +kernel
theorem dl_1274 : decode code 1274 = .ok (.pop, 1) := by decide +kernel
theorem dl_1275 : decode code 1275 = .ok (.aload_n 2, 1) := by decide +kernel
theorem dl_1276 : decode code 1276 = .ok (.aload_n 0, 1) := by decide +kernel
theorem dl_1277 : decode code 1277 = .ok (.iload_n 3, 1) := by decide +kernel
theorem dl_1278 : decode code 1278 = .ok (.iconst 1, 1) := by decide +kernel
theorem dl_1279 : decode code 1279 = .ok (.iadd, 1) := by decide +kernel
theorem dl_1280 : decode code 1280 = .ok (.iaload, 1) := by decide +kernel
theorem dl_1281 : decode code 1281 = .ok (.aload_n 0, 1) := by decide +kernel
theorem dl_1282 : decode code 1282 = .ok (.iload_n 3, 1) := by decide +kernel
theorem dl_1283 : decode code 1283 = .ok (.iconst 2, 1) := by decide +kernel
theorem dl_1284 : decode code 1284 = .ok (.iadd, 1) := by decide +kernel
theorem dl_1285 : decode code 1285 = .ok (.iaload, 1) := by decide +kernel
theorem dl_1286 : decode code 1286 = .ok (.invokevirtual 159, 3) := by decide +kernel
theorem dl_1289 : decode code 1289 = .ok (.pop, 1) := by decide +kernel
theorem dl_1290 : decode code 1290 = .ok (.goto 164, 3) := by decide +kernel
theorem dl_1293 : decode code 1293 = .ok (.aload_n 1, 1) := by decide +kernel
theorem dl_1294 : decode code 1294 = .ok (.aload_n 0, 1) := by decide +kernel
theorem dl_1295 : decode code 1295 = .ok (.iload_n 3, 1) := by decide +kernel
theorem dl_1296 : decode code 1296 = .ok (.iconst 1, 1) := by decide +kernel
theorem dl_1297 : decode code 1297 = .ok (.iadd, 1) := by decide +kernel
theorem dl_1298 : decode code 1298 = .ok (.iaload, 1) := by decide +kernel
theorem dl_1299 : decode code 1299 = .ok (.aload_n 0, 1) := by decide +kernel
theorem dl_1300 : decode code 1300 = .ok (.iload_n 3, 1) := by decide +kernel
theorem dl_1301 : decode code 1301 = .ok (.iconst 2, 1) := by decide +kernel
theorem dl_1302 : decode code 1302 = .ok (.iadd, 1) := by decide +kernel
theorem dl_1303 : decode code 1303 = .ok (.iaload, 1) := by decide +kernel
theorem dl_1304 : decode code 1304 = .ok (.aload_n 0, 1) := by decide +kernel
theorem dl_1305 : decode code 1305 = .ok (.iload_n 3, 1) := by decide +kernel
theorem dl_1306 : decode code 1306 = .ok (.iconst 3, 1) := by decide +kernel
theorem dl_1307 : decode code 1307 = .ok (.iadd, 1) := by decide +kernel
theorem dl_1308 : decode code 1308 = .ok (.iaload, 1) := by decide +kernel
theorem dl_1309 : decode code 1309 = .ok (.invokevirtual 160, 3) := by decide +kernel
theorem dl_1312 : decode code 1312 = .ok (.pop, 1) := by decide +kernel
theorem dl_1313 : decode code 1313 = .ok (.aload_n 2, 1) := by decide +kernel
theorem dl_1314 : decode code 1314 = .ok (.aload_n 0, 1) := by decide +kernel
theorem dl_1315 : decode code 1315 = .ok (.iload_n 3, 1) := by decide +kernel
theorem dl_1316 : decode code 1316 = .ok (.iconst 1, 1) := by decide +kernel
theorem dl_1317 : decode code 1317 = .ok (.iadd, 1) := by decide +kernel
theorem dl_1318 : decode code 1318 = .ok (.iaload, 1) := by decide +kernel
theorem dl_1319 : decode code 1319 = .ok (.aload_n 0, 1) := by decide +kernel
theorem dl_1320 : decode code 1320 = .ok (.iload_n 3, 1) := by decide +kernel
theorem dl_1321 : decode code 1321 = .ok (.iconst 2, 1) := by decide +kernel
theorem dl_1322 : decode code 1322 = .ok (.iadd, 1) := by decide +kernel
theorem dl_1323 : decode code 1323 = .ok (.iaload, 1) := by decide +kernel
theorem dl_1324 : decode code 1324 = .ok (.aload_n 0, 1) := by decide +kernel
theorem dl_1325 : decode code 1325 = .ok (.iload_n 3, 1) := by decide +kernel
theorem dl_1326 : decode code 1326 = .ok (.iconst 3, 1) := by decide +kernel
theorem dl_1327 : decode code 1327 = .ok (.iadd, 1) := by decide +kernel
theorem dl_1328 : decode code 1328 = .ok (.iaload, 1) := by decide +kernel
theorem dl_1329 : decode code 1329 = .ok (.invokevirtual 163, 3) := by decide +kernel
theorem dl_1332 : decode code 1332 = .ok (.pop, 1) := by decide +kernel
theorem dl_1333 : decode code 1333 = .ok (.goto 121, 3) := by decide +kernel
theorem dl_1336 : decode code 1336 = .ok (.aload_n 1, 1) := by decide +kernel
theorem dl_1337 : decode code 1337 = .ok (.aload_n 0, 1) := by decide +kernel
theorem dl_1338 : decode code 1338 = .ok (.iload_n 3, 1) := by decide +kernel
theorem dl_1339 : decode code 1339 = .ok (.iconst 1, 1) := by decide +kernel
theorem dl_1340 : decode code 1340 = .ok (.iadd, 1) := by decide +kernel
theorem dl_1341 : decode code 1341 = .ok (.iaload, 1) := by decide +kernel
theorem dl_1342 : decode code 1342 = .ok (.invokevirtual 164, 3) := by decide +kernel
theorem dl_1345 : decode code 1345 = .ok (.pop, 1) := by decide +kernel
theorem dl_1346 : decode code 1346 = .ok (.aload_n 2, 1) := by decide +kernel
theorem dl_1347 : decode code 1347 = .ok (.aload_n 0, 1) := by decide +kernel
theorem dl_1348 : decode code 1348 = .ok (.iload_n 3, 1) := by decide +kernel
theorem dl_1349 : decode code 1349 = .ok (.iconst 1, 1) := by decide +kernel
theorem dl_1350 : decode code 1350 = .ok (.iadd, 1) := by decide +kernel
theorem dl_1351 : decode code 1351 = .ok (.iaload, 1) := by decide +kernel
theorem dl_1352 : decode code 1352 = .ok (.invokevirtual 167, 3) := by decide +kernel
theorem dl_1355 : decode code 1355 = .ok (.pop, 1) := by decide +kernel
theorem dl_1356 : decode code 1356 = .ok (.goto 98, 3) := by decide +kernel
theorem dl_1359 : decode code 1359 = .ok (.aload_n 1, 1) := by decide +kernel
theorem dl_1360 : decode code 1360 = .ok (.invokevirtual 168, 3) := by decide +kernel
theorem dl_1363 : decode code 1363 = .ok (.pop, 1) := by decide +kernel
theorem dl_1364 : decode code 1364 = .ok (.aload_n 2, 1) := by decide +kernel
theorem dl_1365 : decode code 1365 = .ok (.invokevirtual 171, 3) := by decide +kernel
theorem dl_1368 : decode code 1368 = .ok (.pop, 1) := by decide +kernel
theorem dl_1369 : decode code 1369 = .ok (.goto 85, 3) := by decide +kernel
theorem dl_1372 : decode code 1372 = .ok (.aload_n 1, 1) := by decide +kernel
theorem dl_1373 : decode code 1373 = .ok (.aload_n 0, 1) := by decide +kernel
theorem dl_1374 : decode code 1374 = .ok (.iload_n 3, 1) := by decide +kernel
theorem dl_1375 : decode code 1375 = .ok (.iconst 1, 1) := by decide +kernel
theorem dl_1376 : decode code 1376 = .ok (.iadd, 1) := by decide +kernel
theorem dl_1377 : decode code 1377 = .ok (.iaload, 1) := by decide +kernel
theorem dl_1378 : decode code 1378 = .ok (.invokevirtual 172, 3) := by decide +kernel
theorem dl_1381 : decode code 1381 = .ok (.pop, 1) := by decide +kernel
theorem dl_1382 : decode code 1382 = .ok (.aload_n 2, 1) := by decide +kernel
theorem dl_1383 : decode code 1383 = .ok (.aload_n 0, 1) := by decide +kernel
theorem dl_1384 : decode code 1384 = .ok (.iload_n 3, 1) := by decide +kernel
theorem dl_1385 : decode code 1385 = .ok (.iconst 1, 1) := by decide +kernel
theorem dl_1386 : decode code 1386 = .ok (.iadd, 1) := by decide +kernel
theorem dl_1387 : decode code 1387 = .ok (.iaload, 1) := by decide +kernel
theorem dl_1388 : decode code 1388 = .ok (.invokevirtual 175, 3) := by decide +kernel
theorem dl_1391 : decode code 1391 = .ok (.pop, 1) := by decide +kernel
theorem dl_1392 : decode code 1392 = .ok (.goto 62, 3) := by decide +kernel
theorem dl_1395 : decode code 1395 = .ok (.aload_n 1, 1) := by decide +kernel
theorem dl_1396 : decode code 1396 = .ok (.aload_n 0, 1) := by decide +kernel
theorem dl_1397 : decode code 1397 = .ok (.iload_n 3, 1) := by decide +kernel
theorem dl_1398 : decode code 1398 = .ok (.iconst 1, 1) := by decide +kernel
theorem dl_1399 : decode code 1399 = .ok (.iadd, 1) := by decide +kernel
theorem dl_1400 : decode code 1400 = .ok (.iaload, 1) := by decide +kernel
theorem dl_1401 : decode code 1401 = .ok (.invokevirtual 176, 3) := by decide +kernel
theorem dl_1404 : decode code 1404 = .ok (.pop, 1) := by decide +kernel
theorem dl_1405 : decode code 1405 = .ok (.aload_n 2, 1) := by decide +kernel
theorem dl_1406 : decode code 1406 = .ok (.aload_n 0, 1) := by decide +kernel
theorem dl_1407 : decode code 1407 = .ok (.iload_n 3, 1) := by decide +kernel
theorem dl_1408 : decode code 1408 = .ok (.iconst 1, 1) := by decide +kernel
theorem dl_1409 : decode code 1409 = .ok (.iadd, 1) := by decide +kernel
theorem dl_1410 : decode code 1410 = .ok (.iaload, 1) := by decide +kernel
theorem dl_1411 : decode code 1411 = .ok (.invokevirtual 179, 3) := by decide +kernel
theorem dl_1414 : decode code 1414 = .ok (.pop, 1) := by decide +kernel
theorem dl_1415 : decode code 1415 = .ok (.goto 39, 3) := by decide +kernel
theorem dl_1418 : decode code 1418 = .ok (.aload_n 1, 1) := by decide +kernel
theorem dl_1419 : decode code 1419 = .ok (.aload_n 0, 1) := by decide +kernel
theorem dl_1420 : decode code 1420 = .ok (.iload_n 3, 1) := by decide +kernel
theorem dl_1421 : decode code 1421 = .ok (.iconst 1, 1) := by decide +kernel
theorem dl_1422 : decode code 1422 = .ok (.iadd, 1) := by decide +kernel
theorem dl_1423 : decode code 1423 = .ok (.iaload, 1) := by decide +kernel
theorem dl_1424 : decode code 1424 = .ok (.invokevirtual 180, 3) := by decide +kernel
theorem dl_1427 : decode code 1427 = .ok (.pop, 1) := by decide +kernel
theorem dl_1428 : decode code 1428 = .ok (.aload_n 2, 1) := by decide +kernel
theorem dl_1429 : decode code 1429 = .ok (.aload_n 0, 1) := by decide +kernel
theorem dl_1430 : decode code 1430 = .ok (.iload_n 3, 1) := by decide +kernel
theorem dl_1431 : decode code 1431 = .ok (.iconst 1, 1) := by decide +kernel
theorem dl_1432 : decode code 1432 = .ok (.iadd, 1) := by decide +kernel
theorem dl_1433 : decode code 1433 = .ok (.iaload, 1) := by decide +kernel
theorem dl_1434 : decode code 1434 = .ok (.invokevirtual 183, 3) := by decide +kernel
theorem dl_1437 : decode code 1437 = .ok (.pop, 1) := by decide +kernel
theorem dl_1438 : decode code 1438 = .ok (.goto 16, 3) := by decide +kernel
theorem dl_1441 : decode code 1441 = .ok (.aload_n 1, 1) := by decide +kernel
theorem dl_1442 : decode code 1442 = .ok (.invokevirtual 184, 3) := by decide +kernel
theorem dl_1445 : decode code 1445 = .ok (.pop, 1) := by decide +kernel
theorem dl_1446 : decode code 1446 = .ok (.aload_n 2, 1) := by decide +kernel
theorem dl_1447 : decode code 1447 = .ok (.invokevirtual 187, 3) := by decide +kernel
theorem dl_1450 : decode code 1450 = .ok (.pop, 1) := by decide +kernel
theorem dl_1451 : decode code 1451 = .ok (.goto 3, 3) := by decide +kernel
theorem dl_1454 : decode code 1454 = .ok (.iinc 3 7, 3) := by decide +kernel
theorem dl_1457 : decode code 1457 = .ok (.goto (-1439), 3) := by decide +kernel
theorem dl_1460 : decode code 1460 = .ok (.iconst 1, 1) := by decide +kernel
theorem dl_1461 : decode code 1461 = .ok (.ireturn, 1) := by decide +kernel
def lw_cs : List mm_C := [(ab_m gk_G ck_sh ct_pre0), (ab_m gk_G ck_sh ct_pre1), hc_xstone, hc_mstone, hc_xplane, hc_mplane, hc_xpoint, hc_mpoint, hc_xknown, hc_mknown, (ab_m gk_G ck_sh ct_X_hand), (ab_m gk_G ck_sh ct_M_hand), (ab_m gk_G ck_sh ct_X_seed), (ab_m gk_G ck_sh ct_M_seed), (ab_m gk_G ck_sh ct_X_feed), (ab_m gk_G ck_sh ct_M_feed), (ab_m gk_G ck_sh ct_X_end), (ab_m gk_G ck_sh ct_M_end), hc_ctext, hc_mtext, (ab_m gk_G ck_sh ct_X_fault), (ab_m gk_G ck_sh ct_M_fault), (ab_m gk_G ck_sh ct_X_law), (ab_m gk_G ck_sh ct_M_law), (ab_m gk_G ck_sh ct_X_cuts), (ab_m gk_G ck_sh ct_M_cuts), (ab_m gk_G ck_sh ct_X_trial), (ab_m gk_G ck_sh ct_M_trial), (ab_m gk_G ck_sh ct_X_row), (ab_m gk_G ck_sh ct_M_row), (ab_m gk_G ck_sh ct_X_of), (ab_m gk_G ck_sh ct_M_of), (ab_m gk_G ck_sh ct_X_found), (ab_m gk_G ck_sh ct_M_found), (ab_m gk_G ck_sh ct_X_view), (ab_m gk_G ck_sh ct_M_view), (ab_m gk_G ck_sh ct_X_says), (ab_m gk_G ck_sh ct_M_says), (ab_m gk_G ck_sh ct_X_over), (ab_m gk_G ck_sh ct_M_over), (ab_m gk_G ck_sh ct_X_orders), (ab_m gk_G ck_sh ct_M_orders), (ab_m gk_G ck_sh ct_X_ahead), (ab_m gk_G ck_sh ct_M_ahead), (ab_m gk_G ck_sh ct_X_ring), (ab_m gk_G ck_sh ct_M_ring), (ab_m gk_G ck_sh ct_X_untried), (ab_m gk_G ck_sh ct_M_untried), (ab_m gk_G ck_sh ct_X_best), (ab_m gk_G ck_sh ct_M_best), (ab_m gk_G ck_sh ct_X_place), (ab_m gk_G ck_sh ct_M_place), (ab_m gk_G ck_sh ct_X_drop), (ab_m gk_G ck_sh ct_M_drop), (ab_m gk_G ck_sh ct_X_span), (ab_m gk_G ck_sh ct_M_span), (ab_m gk_G ck_sh ct_X_settle), (ab_m gk_G ck_sh ct_M_settle), (ab_m gk_G ck_sh ct_X_fewest), (ab_m gk_G ck_sh ct_M_fewest), (ab_m gk_G ck_sh ct_X_choice), (ab_m gk_G ck_sh ct_M_choice), (ab_m gk_G ck_sh ct_X_dents), (ab_m gk_G ck_sh ct_M_dents), (ab_m gk_G ck_sh ct_X_grooves), (ab_m gk_G ck_sh ct_M_grooves), (ab_m gk_G ck_sh ct_X_otherwise), (ab_m gk_G ck_sh ct_M_otherwise), (ab_m gk_G ck_sh ct_X_shapes), (ab_m gk_G ck_sh ct_M_shapes), (ab_m gk_G ck_sh ct_X_slips), (ab_m gk_G ck_sh ct_M_slips), (ab_m gk_G ck_sh ct_X_glass), (ab_m gk_G ck_sh ct_M_glass), (ab_m gk_G ck_sh ct_X_called), (ab_m gk_G ck_sh ct_M_called), (ab_m gk_G ck_sh ct_X_lose), (ab_m gk_G ck_sh ct_M_lose), hc_ximage, hc_mimage, hc_xback, hc_mback, (ab_m gk_G ck_sh ct_X_count), (ab_m gk_G ck_sh ct_M_count), (ab_m gk_G ck_sh ct_X_status), (ab_m gk_G ck_sh ct_M_status)]
theorem lw_csk (l : Launch) (D : va_G) (st : Nat → Nat) : ∀ co ∈ lw_cs, hh_Met l D st co := (ck_cons (cz_pre0 l D st) (ck_cons (cz_pre1 l D st) (ck_cons (hk_xstone l D st) (ck_cons (hk_mstone l D st) (ck_cons (hk_xplane l D st) (ck_cons (hk_mplane l D st) (ck_cons (hk_xpoint l D st) (ck_cons (hk_mpoint l D st) (ck_cons (hk_xknown l D st) (ck_cons (hk_mknown l D st) (ck_cons (cz_X_hand l D st) (ck_cons (cz_M_hand l D st) (ck_cons (cz_X_seed l D st) (ck_cons (cz_M_seed l D st) (ck_cons (cz_X_feed l D st) (ck_cons (cz_M_feed l D st) (ck_cons (cz_X_end l D st) (ck_cons (cz_M_end l D st) (ck_cons (hk_ctext l D st) (ck_cons (hk_mtext l D st) (ck_cons (cz_X_fault l D st) (ck_cons (cz_M_fault l D st) (ck_cons (cz_X_law l D st) (ck_cons (cz_M_law l D st) (ck_cons (cz_X_cuts l D st) (ck_cons (cz_M_cuts l D st) (ck_cons (cz_X_trial l D st) (ck_cons (cz_M_trial l D st) (ck_cons (cz_X_row l D st) (ck_cons (cz_M_row l D st) (ck_cons (cz_X_of l D st) (ck_cons (cz_M_of l D st) (ck_cons (cz_X_found l D st) (ck_cons (cz_M_found l D st) (ck_cons (cz_X_view l D st) (ck_cons (cz_M_view l D st) (ck_cons (cz_X_says l D st) (ck_cons (cz_M_says l D st) (ck_cons (cz_X_over l D st) (ck_cons (cz_M_over l D st) (ck_cons (cz_X_orders l D st) (ck_cons (cz_M_orders l D st) (ck_cons (cz_X_ahead l D st) (ck_cons (cz_M_ahead l D st) (ck_cons (cz_X_ring l D st) (ck_cons (cz_M_ring l D st) (ck_cons (cz_X_untried l D st) (ck_cons (cz_M_untried l D st) (ck_cons (cz_X_best l D st) (ck_cons (cz_M_best l D st) (ck_cons (cz_X_place l D st) (ck_cons (cz_M_place l D st) (ck_cons (cz_X_drop l D st) (ck_cons (cz_M_drop l D st) (ck_cons (cz_X_span l D st) (ck_cons (cz_M_span l D st) (ck_cons (cz_X_settle l D st) (ck_cons (cz_M_settle l D st) (ck_cons (cz_X_fewest l D st) (ck_cons (cz_M_fewest l D st) (ck_cons (cz_X_choice l D st) (ck_cons (cz_M_choice l D st) (ck_cons (cz_X_dents l D st) (ck_cons (cz_M_dents l D st) (ck_cons (cz_X_grooves l D st) (ck_cons (cz_M_grooves l D st) (ck_cons (cz_X_otherwise l D st) (ck_cons (cz_M_otherwise l D st) (ck_cons (cz_X_shapes l D st) (ck_cons (cz_M_shapes l D st) (ck_cons (cz_X_slips l D st) (ck_cons (cz_M_slips l D st) (ck_cons (cz_X_glass l D st) (ck_cons (cz_M_glass l D st) (ck_cons (cz_X_called l D st) (ck_cons (cz_M_called l D st) (ck_cons (cz_X_lose l D st) (ck_cons (cz_M_lose l D st) (ck_cons (hk_ximage l D st) (ck_cons (hk_mimage l D st) (ck_cons (hk_xback l D st) (ck_cons (hk_mback l D st) (ck_cons (cz_X_count l D st) (ck_cons (cz_M_count l D st) (ck_cons (cz_X_status l D st) (ck_cons (cz_M_status l D st) ck_nil))))))))))))))))))))))))))))))))))))))))))))))))))))))))))))))))))))))))))))))))))))))
theorem ml12_9 : ck_T12.2.2.2.2.2.2.2.find? (fun q => q.1 == 9) = some (9, 2, 0) := by decide +kernel
theorem ml12_12 : ck_T12.2.2.2.2.2.2.2.find? (fun q => q.1 == 12) = some (12, 2, 172) := by decide +kernel
theorem ml12_13 : ck_T12.2.2.2.2.2.2.2.find? (fun q => q.1 == 13) = some (13, 0, 13) := by decide +kernel
theorem ml12_17 : ck_T12.2.2.2.2.2.2.2.find? (fun q => q.1 == 17) = some (17, 0, 178) := by decide +kernel
theorem ml12_18 : ck_T12.2.2.2.2.2.2.2.find? (fun q => q.1 == 18) = some (18, 0, 18) := by decide +kernel
theorem ml12_22 : ck_T12.2.2.2.2.2.2.2.find? (fun q => q.1 == 22) = some (22, 0, 180) := by decide +kernel
theorem ml12_23 : ck_T12.2.2.2.2.2.2.2.find? (fun q => q.1 == 23) = some (23, 0, 23) := by decide +kernel
theorem ml12_27 : ck_T12.2.2.2.2.2.2.2.find? (fun q => q.1 == 27) = some (27, 0, 183) := by decide +kernel
theorem ml12_28 : ck_T12.2.2.2.2.2.2.2.find? (fun q => q.1 == 28) = some (28, 0, 24) := by decide +kernel
theorem ml12_31 : ck_T12.2.2.2.2.2.2.2.find? (fun q => q.1 == 31) = some (31, 0, 184) := by decide +kernel
theorem ml12_32 : ck_T12.2.2.2.2.2.2.2.find? (fun q => q.1 == 32) = some (32, 0, 25) := by decide +kernel
theorem ml12_35 : ck_T12.2.2.2.2.2.2.2.find? (fun q => q.1 == 35) = some (35, 0, 185) := by decide +kernel
theorem ml12_36 : ck_T12.2.2.2.2.2.2.2.find? (fun q => q.1 == 36) = some (36, 0, 27) := by decide +kernel
theorem ml12_40 : ck_T12.2.2.2.2.2.2.2.find? (fun q => q.1 == 40) = some (40, 0, 186) := by decide +kernel
theorem ml12_41 : ck_T12.2.2.2.2.2.2.2.find? (fun q => q.1 == 41) = some (41, 0, 28) := by decide +kernel
theorem ml12_45 : ck_T12.2.2.2.2.2.2.2.find? (fun q => q.1 == 45) = some (45, 0, 187) := by decide +kernel
theorem ml12_46 : ck_T12.2.2.2.2.2.2.2.find? (fun q => q.1 == 46) = some (46, 0, 30) := by decide +kernel
theorem ml12_49 : ck_T12.2.2.2.2.2.2.2.find? (fun q => q.1 == 49) = some (49, 0, 188) := by decide +kernel
theorem ml12_50 : ck_T12.2.2.2.2.2.2.2.find? (fun q => q.1 == 50) = some (50, 0, 31) := by decide +kernel
theorem ml12_54 : ck_T12.2.2.2.2.2.2.2.find? (fun q => q.1 == 54) = some (54, 0, 189) := by decide +kernel
theorem ml12_55 : ck_T12.2.2.2.2.2.2.2.find? (fun q => q.1 == 55) = some (55, 0, 59) := by decide +kernel
theorem ml12_58 : ck_T12.2.2.2.2.2.2.2.find? (fun q => q.1 == 58) = some (58, 0, 209) := by decide +kernel
theorem ml12_59 : ck_T12.2.2.2.2.2.2.2.find? (fun q => q.1 == 59) = some (59, 0, 60) := by decide +kernel
theorem ml12_62 : ck_T12.2.2.2.2.2.2.2.find? (fun q => q.1 == 62) = some (62, 0, 210) := by decide +kernel
theorem ml12_63 : ck_T12.2.2.2.2.2.2.2.find? (fun q => q.1 == 63) = some (63, 0, 61) := by decide +kernel
theorem ml12_66 : ck_T12.2.2.2.2.2.2.2.find? (fun q => q.1 == 66) = some (66, 0, 212) := by decide +kernel
theorem ml12_67 : ck_T12.2.2.2.2.2.2.2.find? (fun q => q.1 == 67) = some (67, 0, 71) := by decide +kernel
theorem ml12_71 : ck_T12.2.2.2.2.2.2.2.find? (fun q => q.1 == 71) = some (71, 0, 228) := by decide +kernel
theorem ml12_72 : ck_T12.2.2.2.2.2.2.2.find? (fun q => q.1 == 72) = some (72, 0, 76) := by decide +kernel
theorem ml12_75 : ck_T12.2.2.2.2.2.2.2.find? (fun q => q.1 == 75) = some (75, 0, 231) := by decide +kernel
theorem ml12_76 : ck_T12.2.2.2.2.2.2.2.find? (fun q => q.1 == 76) = some (76, 0, 78) := by decide +kernel
theorem ml12_79 : ck_T12.2.2.2.2.2.2.2.find? (fun q => q.1 == 79) = some (79, 0, 232) := by decide +kernel
theorem ml12_80 : ck_T12.2.2.2.2.2.2.2.find? (fun q => q.1 == 80) = some (80, 0, 81) := by decide +kernel
theorem ml12_83 : ck_T12.2.2.2.2.2.2.2.find? (fun q => q.1 == 83) = some (83, 0, 235) := by decide +kernel
theorem ml12_84 : ck_T12.2.2.2.2.2.2.2.find? (fun q => q.1 == 84) = some (84, 0, 83) := by decide +kernel
theorem ml12_87 : ck_T12.2.2.2.2.2.2.2.find? (fun q => q.1 == 87) = some (87, 0, 236) := by decide +kernel
theorem ml12_88 : ck_T12.2.2.2.2.2.2.2.find? (fun q => q.1 == 88) = some (88, 0, 85) := by decide +kernel
theorem ml12_91 : ck_T12.2.2.2.2.2.2.2.find? (fun q => q.1 == 91) = some (91, 0, 238) := by decide +kernel
theorem ml12_92 : ck_T12.2.2.2.2.2.2.2.find? (fun q => q.1 == 92) = some (92, 0, 91) := by decide +kernel
theorem ml12_95 : ck_T12.2.2.2.2.2.2.2.find? (fun q => q.1 == 95) = some (95, 0, 241) := by decide +kernel
theorem ml12_96 : ck_T12.2.2.2.2.2.2.2.find? (fun q => q.1 == 96) = some (96, 0, 93) := by decide +kernel
theorem ml12_99 : ck_T12.2.2.2.2.2.2.2.find? (fun q => q.1 == 99) = some (99, 0, 243) := by decide +kernel
theorem ml12_100 : ck_T12.2.2.2.2.2.2.2.find? (fun q => q.1 == 100) = some (100, 0, 98) := by decide +kernel
theorem ml12_103 : ck_T12.2.2.2.2.2.2.2.find? (fun q => q.1 == 103) = some (103, 0, 245) := by decide +kernel
theorem ml12_104 : ck_T12.2.2.2.2.2.2.2.find? (fun q => q.1 == 104) = some (104, 0, 99) := by decide +kernel
theorem ml12_107 : ck_T12.2.2.2.2.2.2.2.find? (fun q => q.1 == 107) = some (107, 0, 246) := by decide +kernel
theorem ml12_108 : ck_T12.2.2.2.2.2.2.2.find? (fun q => q.1 == 108) = some (108, 0, 102) := by decide +kernel
theorem ml12_111 : ck_T12.2.2.2.2.2.2.2.find? (fun q => q.1 == 111) = some (111, 0, 247) := by decide +kernel
theorem ml12_112 : ck_T12.2.2.2.2.2.2.2.find? (fun q => q.1 == 112) = some (112, 0, 104) := by decide +kernel
theorem ml12_115 : ck_T12.2.2.2.2.2.2.2.find? (fun q => q.1 == 115) = some (115, 0, 248) := by decide +kernel
theorem ml12_116 : ck_T12.2.2.2.2.2.2.2.find? (fun q => q.1 == 116) = some (116, 0, 111) := by decide +kernel
theorem ml12_119 : ck_T12.2.2.2.2.2.2.2.find? (fun q => q.1 == 119) = some (119, 0, 250) := by decide +kernel
theorem ml12_120 : ck_T12.2.2.2.2.2.2.2.find? (fun q => q.1 == 120) = some (120, 0, 112) := by decide +kernel
theorem ml12_123 : ck_T12.2.2.2.2.2.2.2.find? (fun q => q.1 == 123) = some (123, 0, 251) := by decide +kernel
theorem ml12_124 : ck_T12.2.2.2.2.2.2.2.find? (fun q => q.1 == 124) = some (124, 0, 115) := by decide +kernel
theorem ml12_127 : ck_T12.2.2.2.2.2.2.2.find? (fun q => q.1 == 127) = some (127, 0, 254) := by decide +kernel
theorem ml12_128 : ck_T12.2.2.2.2.2.2.2.find? (fun q => q.1 == 128) = some (128, 0, 121) := by decide +kernel
theorem ml12_131 : ck_T12.2.2.2.2.2.2.2.find? (fun q => q.1 == 131) = some (131, 0, 257) := by decide +kernel
theorem ml12_132 : ck_T12.2.2.2.2.2.2.2.find? (fun q => q.1 == 132) = some (132, 0, 125) := by decide +kernel
theorem ml12_135 : ck_T12.2.2.2.2.2.2.2.find? (fun q => q.1 == 135) = some (135, 0, 259) := by decide +kernel
theorem ml12_136 : ck_T12.2.2.2.2.2.2.2.find? (fun q => q.1 == 136) = some (136, 0, 135) := by decide +kernel
theorem ml12_139 : ck_T12.2.2.2.2.2.2.2.find? (fun q => q.1 == 139) = some (139, 0, 269) := by decide +kernel
theorem ml12_140 : ck_T12.2.2.2.2.2.2.2.find? (fun q => q.1 == 140) = some (140, 0, 140) := by decide +kernel
theorem ml12_143 : ck_T12.2.2.2.2.2.2.2.find? (fun q => q.1 == 143) = some (143, 0, 273) := by decide +kernel
theorem ml12_144 : ck_T12.2.2.2.2.2.2.2.find? (fun q => q.1 == 144) = some (144, 0, 143) := by decide +kernel
theorem ml12_147 : ck_T12.2.2.2.2.2.2.2.find? (fun q => q.1 == 147) = some (147, 0, 277) := by decide +kernel
theorem ml12_148 : ck_T12.2.2.2.2.2.2.2.find? (fun q => q.1 == 148) = some (148, 0, 145) := by decide +kernel
theorem ml12_151 : ck_T12.2.2.2.2.2.2.2.find? (fun q => q.1 == 151) = some (151, 0, 279) := by decide +kernel
theorem ml12_152 : ck_T12.2.2.2.2.2.2.2.find? (fun q => q.1 == 152) = some (152, 0, 147) := by decide +kernel
theorem ml12_155 : ck_T12.2.2.2.2.2.2.2.find? (fun q => q.1 == 155) = some (155, 0, 280) := by decide +kernel
theorem ml12_156 : ck_T12.2.2.2.2.2.2.2.find? (fun q => q.1 == 156) = some (156, 0, 150) := by decide +kernel
theorem ml12_159 : ck_T12.2.2.2.2.2.2.2.find? (fun q => q.1 == 159) = some (159, 0, 281) := by decide +kernel
theorem ml12_160 : ck_T12.2.2.2.2.2.2.2.find? (fun q => q.1 == 160) = some (160, 0, 151) := by decide +kernel
theorem ml12_163 : ck_T12.2.2.2.2.2.2.2.find? (fun q => q.1 == 163) = some (163, 0, 282) := by decide +kernel
theorem ml12_164 : ck_T12.2.2.2.2.2.2.2.find? (fun q => q.1 == 164) = some (164, 0, 153) := by decide +kernel
theorem ml12_167 : ck_T12.2.2.2.2.2.2.2.find? (fun q => q.1 == 167) = some (167, 0, 284) := by decide +kernel
theorem ml12_168 : ck_T12.2.2.2.2.2.2.2.find? (fun q => q.1 == 168) = some (168, 0, 164) := by decide +kernel
theorem ml12_171 : ck_T12.2.2.2.2.2.2.2.find? (fun q => q.1 == 171) = some (171, 0, 288) := by decide +kernel
theorem ml12_172 : ck_T12.2.2.2.2.2.2.2.find? (fun q => q.1 == 172) = some (172, 0, 165) := by decide +kernel
theorem ml12_175 : ck_T12.2.2.2.2.2.2.2.find? (fun q => q.1 == 175) = some (175, 0, 173) := by decide +kernel
theorem ml12_176 : ck_T12.2.2.2.2.2.2.2.find? (fun q => q.1 == 176) = some (176, 0, 168) := by decide +kernel
theorem ml12_179 : ck_T12.2.2.2.2.2.2.2.find? (fun q => q.1 == 179) = some (179, 0, 177) := by decide +kernel
theorem ml12_180 : ck_T12.2.2.2.2.2.2.2.find? (fun q => q.1 == 180) = some (180, 0, 169) := by decide +kernel
theorem ml12_183 : ck_T12.2.2.2.2.2.2.2.find? (fun q => q.1 == 183) = some (183, 0, 289) := by decide +kernel
theorem ml12_184 : ck_T12.2.2.2.2.2.2.2.find? (fun q => q.1 == 184) = some (184, 0, 171) := by decide +kernel
theorem ml12_187 : ck_T12.2.2.2.2.2.2.2.find? (fun q => q.1 == 187) = some (187, 0, 290) := by decide +kernel
