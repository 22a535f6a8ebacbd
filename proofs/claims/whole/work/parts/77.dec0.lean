/-! WHAT STANDS WHERE IN THE LAW (printed by wip/gen8.py) -/
theorem dl_0 : decode code 0 = .ok ((.new 7), 3) := by decide +kernel
theorem dl_3 : decode code 3 = .ok (.dup, 1) := by decide +kernel
theorem dl_4 : decode code 4 = .ok ((.invokespecial 9), 3) := by decide +kernel
theorem dl_7 : decode code 7 = .ok ((.astore_n 1), 1) := by decide +kernel
theorem dl_8 : decode code 8 = .ok ((.new 10), 3) := by decide +kernel
theorem dl_11 : decode code 11 = .ok (.dup, 1) := by decide +kernel
theorem dl_12 : decode code 12 = .ok ((.invokespecial 12), 3) := by decide +kernel
theorem dl_15 : decode code 15 = .ok ((.astore_n 2), 1) := by decide +kernel
theorem dl_16 : decode code 16 = .ok ((.iconst 0), 1) := by decide +kernel
theorem dl_17 : decode code 17 = .ok ((.istore_n 3), 1) := by decide +kernel
theorem dl_18 : decode code 18 = .ok ((.iload_n 3), 1) := by decide +kernel
theorem dl_19 : decode code 19 = .ok ((.aload_n 0), 1) := by decide +kernel
theorem dl_20 : decode code 20 = .ok (.arraylength, 1) := by decide +kernel
theorem dl_21 : decode code 21 = .ok ((.bipush 7), 2) := by decide +kernel
theorem dl_23 : decode code 23 = .ok (.isub, 1) := by decide +kernel
theorem dl_24 : decode code 24 = .ok ((.if_icmp .gt 1753), 3) := by decide +kernel
theorem dl_27 : decode code 27 = .ok ((.aload_n 0), 1) := by decide +kernel
theorem dl_28 : decode code 28 = .ok ((.iload_n 3), 1) := by decide +kernel
theorem dl_29 : decode code 29 = .ok (.iaload, 1) := by decide +kernel
theorem dl_30 : decode code 30 = .ok ((.bipush 63), 2) := by decide +kernel
theorem dl_32 : decode code 32 = .ok (.iand, 1) := by decide +kernel
theorem dl_33 : decode code 33 = .ok ((.tableswitch 1738 0 42 #[187, 250, 263, 286, 329, 382, 415, 448, 481, 524, 557, 580, 613, 682, 767, 790, 849, 872, 895, 918, 941, 990, 1033, 1066, 1099, 1122, 1155, 1208, 1251, 1274, 1307, 1382, 1415, 1458, 1491, 1524, 1547, 1570, 1603, 1646, 1659, 1702, 1715]), 187) := by decide +kernel
theorem dl_220 : decode code 220 = .ok ((.aload_n 1), 1) := by decide +kernel
theorem dl_221 : decode code 221 = .ok ((.aload_n 0), 1) := by decide +kernel
theorem dl_222 : decode code 222 = .ok ((.iload_n 3), 1) := by decide +kernel
theorem dl_223 : decode code 223 = .ok ((.iconst 1), 1) := by decide +kernel
theorem dl_224 : decode code 224 = .ok (.iadd, 1) := by decide +kernel
theorem dl_225 : decode code 225 = .ok (.iaload, 1) := by decide +kernel
theorem dl_226 : decode code 226 = .ok ((.aload_n 0), 1) := by decide +kernel
theorem dl_227 : decode code 227 = .ok ((.iload_n 3), 1) := by decide +kernel
theorem dl_228 : decode code 228 = .ok ((.iconst 2), 1) := by decide +kernel
theorem dl_229 : decode code 229 = .ok (.iadd, 1) := by decide +kernel
theorem dl_230 : decode code 230 = .ok (.iaload, 1) := by decide +kernel
theorem dl_231 : decode code 231 = .ok (.i2l, 1) := by decide +kernel
theorem dl_232 : decode code 232 = .ok ((.bipush 32), 2) := by decide +kernel
theorem dl_234 : decode code 234 = .ok (.lshl, 1) := by decide +kernel
theorem dl_235 : decode code 235 = .ok ((.aload_n 0), 1) := by decide +kernel
theorem dl_236 : decode code 236 = .ok ((.iload_n 3), 1) := by decide +kernel
theorem dl_237 : decode code 237 = .ok ((.iconst 3), 1) := by decide +kernel
theorem dl_238 : decode code 238 = .ok (.iadd, 1) := by decide +kernel
theorem dl_239 : decode code 239 = .ok (.iaload, 1) := by decide +kernel
theorem dl_240 : decode code 240 = .ok (.i2l, 1) := by decide +kernel
theorem dl_241 : decode code 241 = .ok ((.ldc2_w 13), 3) := by decide +kernel
theorem dl_244 : decode code 244 = .ok (.land, 1) := by decide +kernel
theorem dl_245 : decode code 245 = .ok (.lor, 1) := by decide +kernel
theorem dl_246 : decode code 246 = .ok ((.invokevirtual 15), 3) := by decide +kernel
theorem dl_249 : decode code 249 = .ok ((.aload_n 2), 1) := by decide +kernel
theorem dl_250 : decode code 250 = .ok ((.aload_n 0), 1) := by decide +kernel
theorem dl_251 : decode code 251 = .ok ((.iload_n 3), 1) := by decide +kernel
theorem dl_252 : decode code 252 = .ok ((.iconst 1), 1) := by decide +kernel
theorem dl_253 : decode code 253 = .ok (.iadd, 1) := by decide +kernel
theorem dl_254 : decode code 254 = .ok (.iaload, 1) := by decide +kernel
theorem dl_255 : decode code 255 = .ok ((.aload_n 0), 1) := by decide +kernel
theorem dl_256 : decode code 256 = .ok ((.iload_n 3), 1) := by decide +kernel
theorem dl_257 : decode code 257 = .ok ((.iconst 2), 1) := by decide +kernel
theorem dl_258 : decode code 258 = .ok (.iadd, 1) := by decide +kernel
theorem dl_259 : decode code 259 = .ok (.iaload, 1) := by decide +kernel
theorem dl_260 : decode code 260 = .ok (.i2l, 1) := by decide +kernel
theorem dl_261 : decode code 261 = .ok ((.bipush 32), 2) := by decide +kernel
theorem dl_263 : decode code 263 = .ok (.lshl, 1) := by decide +kernel
theorem dl_264 : decode code 264 = .ok ((.aload_n 0), 1) := by decide +kernel
theorem dl_265 : decode code 265 = .ok ((.iload_n 3), 1) := by decide +kernel
theorem dl_266 : decode code 266 = .ok ((.iconst 3), 1) := by decide +kernel
theorem dl_267 : decode code 267 = .ok (.iadd, 1) := by decide +kernel
theorem dl_268 : decode code 268 = .ok (.iaload, 1) := by decide +kernel
theorem dl_269 : decode code 269 = .ok (.i2l, 1) := by decide +kernel
theorem dl_270 : decode code 270 = .ok ((.ldc2_w 13), 3) := by decide +kernel
theorem dl_273 : decode code 273 = .ok (.land, 1) := by decide +kernel
theorem dl_274 : decode code 274 = .ok (.lor, 1) := by decide +kernel
theorem dl_275 : decode code 275 = .ok ((.invokevirtual 19), 3) := by decide +kernel
theorem dl_278 : decode code 278 = .ok ((.if_icmp .eq 1493), 3) := by decide +kernel
theorem dl_281 : decode code 281 = .ok ((.iconst 0), 1) := by decide +kernel
theorem dl_282 : decode code 282 = .ok (.ireturn, 1) := by decide +kernel
theorem dl_283 : decode code 283 = .ok ((.aload_n 1), 1) := by decide +kernel
theorem dl_284 : decode code 284 = .ok ((.invokevirtual 20), 3) := by decide +kernel
theorem dl_287 : decode code 287 = .ok ((.aload_n 2), 1) := by decide +kernel
theorem dl_288 : decode code 288 = .ok ((.invokevirtual 24), 3) := by decide +kernel
theorem dl_291 : decode code 291 = .ok ((.if_icmp .eq 1480), 3) := by decide +kernel
theorem dl_294 : decode code 294 = .ok ((.iconst 0), 1) := by decide +kernel
theorem dl_295 : decode code 295 = .ok (.ireturn, 1) := by decide +kernel
theorem dl_296 : decode code 296 = .ok ((.aload_n 1), 1) := by decide +kernel
theorem dl_297 : decode code 297 = .ok ((.aload_n 0), 1) := by decide +kernel
theorem dl_298 : decode code 298 = .ok ((.iload_n 3), 1) := by decide +kernel
theorem dl_299 : decode code 299 = .ok ((.iconst 1), 1) := by decide +kernel
theorem dl_300 : decode code 300 = .ok (.iadd, 1) := by decide +kernel
theorem dl_301 : decode code 301 = .ok (.iaload, 1) := by decide +kernel
theorem dl_302 : decode code 302 = .ok ((.invokevirtual 25), 3) := by decide +kernel
theorem dl_305 : decode code 305 = .ok ((.aload_n 2), 1) := by decide +kernel
theorem dl_306 : decode code 306 = .ok ((.aload_n 0), 1) := by decide +kernel
theorem dl_307 : decode code 307 = .ok ((.iload_n 3), 1) := by decide +kernel
theorem dl_308 : decode code 308 = .ok ((.iconst 1), 1) := by decide +kernel
theorem dl_309 : decode code 309 = .ok (.iadd, 1) := by decide +kernel
theorem dl_310 : decode code 310 = .ok (.iaload, 1) := by decide +kernel
theorem dl_311 : decode code 311 = .ok ((.invokevirtual 29), 3) := by decide +kernel
theorem dl_314 : decode code 314 = .ok ((.if_icmp .eq 1457), 3) := by decide +kernel
theorem dl_317 : decode code 317 = .ok ((.iconst 0), 1) := by decide +kernel
theorem dl_318 : decode code 318 = .ok (.ireturn, 1) := by decide +kernel
theorem dl_319 : decode code 319 = .ok ((.aload_n 1), 1) := by decide +kernel
theorem dl_320 : decode code 320 = .ok ((.aload_n 0), 1) := by decide +kernel
theorem dl_321 : decode code 321 = .ok ((.iload_n 3), 1) := by decide +kernel
theorem dl_322 : decode code 322 = .ok ((.iconst 1), 1) := by decide +kernel
theorem dl_323 : decode code 323 = .ok (.iadd, 1) := by decide +kernel
theorem dl_324 : decode code 324 = .ok (.iaload, 1) := by decide +kernel
theorem dl_325 : decode code 325 = .ok ((.aload_n 0), 1) := by decide +kernel
theorem dl_326 : decode code 326 = .ok ((.iload_n 3), 1) := by decide +kernel
theorem dl_327 : decode code 327 = .ok ((.iconst 2), 1) := by decide +kernel
theorem dl_328 : decode code 328 = .ok (.iadd, 1) := by decide +kernel
theorem dl_329 : decode code 329 = .ok (.iaload, 1) := by decide +kernel
theorem dl_330 : decode code 330 = .ok ((.aload_n 0), 1) := by decide +kernel
theorem dl_331 : decode code 331 = .ok ((.iload_n 3), 1) := by decide +kernel
theorem dl_332 : decode code 332 = .ok ((.iconst 3), 1) := by decide +kernel
theorem dl_333 : decode code 333 = .ok (.iadd, 1) := by decide +kernel
theorem dl_334 : decode code 334 = .ok (.iaload, 1) := by decide +kernel
theorem dl_335 : decode code 335 = .ok ((.invokevirtual 30), 3) := by decide +kernel
theorem dl_338 : decode code 338 = .ok ((.aload_n 2), 1) := by decide +kernel
theorem dl_339 : decode code 339 = .ok ((.aload_n 0), 1) := by decide +kernel
theorem dl_340 : decode code 340 = .ok ((.iload_n 3), 1) := by decide +kernel
theorem dl_341 : decode code 341 = .ok ((.iconst 1), 1) := by decide +kernel
theorem dl_342 : decode code 342 = .ok (.iadd, 1) := by decide +kernel
theorem dl_343 : decode code 343 = .ok (.iaload, 1) := by decide +kernel
theorem dl_344 : decode code 344 = .ok ((.aload_n 0), 1) := by decide +kernel
theorem dl_345 : decode code 345 = .ok ((.iload_n 3), 1) := by decide +kernel
theorem dl_346 : decode code 346 = .ok ((.iconst 2), 1) := by decide +kernel
theorem dl_347 : decode code 347 = .ok (.iadd, 1) := by decide +kernel
theorem dl_348 : decode code 348 = .ok (.iaload, 1) := by decide +kernel
theorem dl_349 : decode code 349 = .ok ((.aload_n 0), 1) := by decide +kernel
theorem dl_350 : decode code 350 = .ok ((.iload_n 3), 1) := by decide +kernel
theorem dl_351 : decode code 351 = .ok ((.iconst 3), 1) := by decide +kernel
theorem dl_352 : decode code 352 = .ok (.iadd, 1) := by decide +kernel
theorem dl_353 : decode code 353 = .ok (.iaload, 1) := by decide +kernel
theorem dl_354 : decode code 354 = .ok ((.invokevirtual 34), 3) := by decide +kernel
theorem dl_357 : decode code 357 = .ok ((.if_icmp .eq 1414), 3) := by decide +kernel
theorem dl_360 : decode code 360 = .ok ((.iconst 0), 1) := by decide +kernel
theorem dl_361 : decode code 361 = .ok (.ireturn, 1) := by decide +kernel
theorem dl_362 : decode code 362 = .ok ((.aload_n 1), 1) := by decide +kernel
theorem dl_363 : decode code 363 = .ok ((.aload_n 0), 1) := by decide +kernel
theorem dl_364 : decode code 364 = .ok ((.iload_n 3), 1) := by decide +kernel
theorem dl_365 : decode code 365 = .ok ((.iconst 1), 1) := by decide +kernel
theorem dl_366 : decode code 366 = .ok (.iadd, 1) := by decide +kernel
theorem dl_367 : decode code 367 = .ok (.iaload, 1) := by decide +kernel
theorem dl_368 : decode code 368 = .ok ((.aload_n 0), 1) := by decide +kernel
theorem dl_369 : decode code 369 = .ok ((.iload_n 3), 1) := by decide +kernel
theorem dl_370 : decode code 370 = .ok ((.iconst 2), 1) := by decide +kernel
theorem dl_371 : decode code 371 = .ok (.iadd, 1) := by decide +kernel
theorem dl_372 : decode code 372 = .ok (.iaload, 1) := by decide +kernel
theorem dl_373 : decode code 373 = .ok ((.aload_n 0), 1) := by decide +kernel
theorem dl_374 : decode code 374 = .ok ((.iload_n 3), 1) := by decide +kernel
theorem dl_375 : decode code 375 = .ok ((.iconst 3), 1) := by decide +kernel
theorem dl_376 : decode code 376 = .ok (.iadd, 1) := by decide +kernel
theorem dl_377 : decode code 377 = .ok (.iaload, 1) := by decide +kernel
theorem dl_378 : decode code 378 = .ok ((.aload_n 0), 1) := by decide +kernel
theorem dl_379 : decode code 379 = .ok ((.iload_n 3), 1) := by decide +kernel
theorem dl_380 : decode code 380 = .ok ((.iconst 4), 1) := by decide +kernel
theorem dl_381 : decode code 381 = .ok (.iadd, 1) := by decide +kernel
theorem dl_382 : decode code 382 = .ok (.iaload, 1) := by decide +kernel
theorem dl_383 : decode code 383 = .ok ((.invokevirtual 35), 3) := by decide +kernel
theorem dl_386 : decode code 386 = .ok ((.aload_n 2), 1) := by decide +kernel
theorem dl_387 : decode code 387 = .ok ((.aload_n 0), 1) := by decide +kernel
theorem dl_388 : decode code 388 = .ok ((.iload_n 3), 1) := by decide +kernel
theorem dl_389 : decode code 389 = .ok ((.iconst 1), 1) := by decide +kernel
theorem dl_390 : decode code 390 = .ok (.iadd, 1) := by decide +kernel
theorem dl_391 : decode code 391 = .ok (.iaload, 1) := by decide +kernel
theorem dl_392 : decode code 392 = .ok ((.aload_n 0), 1) := by decide +kernel
theorem dl_393 : decode code 393 = .ok ((.iload_n 3), 1) := by decide +kernel
theorem dl_394 : decode code 394 = .ok ((.iconst 2), 1) := by decide +kernel
theorem dl_395 : decode code 395 = .ok (.iadd, 1) := by decide +kernel
theorem dl_396 : decode code 396 = .ok (.iaload, 1) := by decide +kernel
theorem dl_397 : decode code 397 = .ok ((.aload_n 0), 1) := by decide +kernel
theorem dl_398 : decode code 398 = .ok ((.iload_n 3), 1) := by decide +kernel
theorem dl_399 : decode code 399 = .ok ((.iconst 3), 1) := by decide +kernel
theorem dl_400 : decode code 400 = .ok (.iadd, 1) := by decide +kernel
theorem dl_401 : decode code 401 = .ok (.iaload, 1) := by decide +kernel
theorem dl_402 : decode code 402 = .ok ((.aload_n 0), 1) := by decide +kernel
theorem dl_403 : decode code 403 = .ok ((.iload_n 3), 1) := by decide +kernel
theorem dl_404 : decode code 404 = .ok ((.iconst 4), 1) := by decide +kernel
theorem dl_405 : decode code 405 = .ok (.iadd, 1) := by decide +kernel
theorem dl_406 : decode code 406 = .ok (.iaload, 1) := by decide +kernel
theorem dl_407 : decode code 407 = .ok ((.invokevirtual 39), 3) := by decide +kernel
theorem dl_410 : decode code 410 = .ok ((.if_icmp .eq 1361), 3) := by decide +kernel
theorem dl_413 : decode code 413 = .ok ((.iconst 0), 1) := by decide +kernel
theorem dl_414 : decode code 414 = .ok (.ireturn, 1) := by decide +kernel
theorem dl_415 : decode code 415 = .ok ((.aload_n 1), 1) := by decide +kernel
theorem dl_416 : decode code 416 = .ok ((.aload_n 0), 1) := by decide +kernel
theorem dl_417 : decode code 417 = .ok ((.iload_n 3), 1) := by decide +kernel
theorem dl_418 : decode code 418 = .ok ((.iconst 1), 1) := by decide +kernel
theorem dl_419 : decode code 419 = .ok (.iadd, 1) := by decide +kernel
theorem dl_420 : decode code 420 = .ok (.iaload, 1) := by decide +kernel
theorem dl_421 : decode code 421 = .ok ((.aload_n 0), 1) := by decide +kernel
theorem dl_422 : decode code 422 = .ok ((.iload_n 3), 1) := by decide +kernel
theorem dl_423 : decode code 423 = .ok ((.iconst 2), 1) := by decide +kernel
theorem dl_424 : decode code 424 = .ok (.iadd, 1) := by decide +kernel
theorem dl_425 : decode code 425 = .ok (.iaload, 1) := by decide +kernel
theorem dl_426 : decode code 426 = .ok ((.invokevirtual 40), 3) := by decide +kernel
theorem dl_429 : decode code 429 = .ok ((.aload_n 2), 1) := by decide +kernel
theorem dl_430 : decode code 430 = .ok ((.aload_n 0), 1) := by decide +kernel
theorem dl_431 : decode code 431 = .ok ((.iload_n 3), 1) := by decide +kernel
theorem dl_432 : decode code 432 = .ok ((.iconst 1), 1) := by decide +kernel
theorem dl_433 : decode code 433 = .ok (.iadd, 1) := by decide +kernel
theorem dl_434 : decode code 434 = .ok (.iaload, 1) := by decide +kernel
theorem dl_435 : decode code 435 = .ok ((.aload_n 0), 1) := by decide +kernel
theorem dl_436 : decode code 436 = .ok ((.iload_n 3), 1) := by decide +kernel
theorem dl_437 : decode code 437 = .ok ((.iconst 2), 1) := by decide +kernel
theorem dl_438 : decode code 438 = .ok (.iadd, 1) := by decide +kernel
theorem dl_439 : decode code 439 = .ok (.iaload, 1) := by decide +kernel
theorem dl_440 : decode code 440 = .ok ((.invokevirtual 44), 3) := by decide +kernel
theorem dl_443 : decode code 443 = .ok ((.if_icmp .eq 1328), 3) := by decide +kernel
theorem dl_446 : decode code 446 = .ok ((.iconst 0), 1) := by decide +kernel
theorem dl_447 : decode code 447 = .ok (.ireturn, 1) := by decide +kernel
theorem dl_448 : decode code 448 = .ok ((.aload_n 1), 1) := by decide +kernel
theorem dl_449 : decode code 449 = .ok ((.aload_n 0), 1) := by decide +kernel
theorem dl_450 : decode code 450 = .ok ((.iload_n 3), 1) := by decide +kernel
theorem dl_451 : decode code 451 = .ok ((.iconst 1), 1) := by decide +kernel
theorem dl_452 : decode code 452 = .ok (.iadd, 1) := by decide +kernel
theorem dl_453 : decode code 453 = .ok (.iaload, 1) := by decide +kernel
theorem dl_454 : decode code 454 = .ok ((.aload_n 0), 1) := by decide +kernel
theorem dl_455 : decode code 455 = .ok ((.iload_n 3), 1) := by decide +kernel
theorem dl_456 : decode code 456 = .ok ((.iconst 2), 1) := by decide +kernel
theorem dl_457 : decode code 457 = .ok (.iadd, 1) := by decide +kernel
theorem dl_458 : decode code 458 = .ok (.iaload, 1) := by decide +kernel
theorem dl_459 : decode code 459 = .ok ((.invokevirtual 45), 3) := by decide +kernel
theorem dl_462 : decode code 462 = .ok ((.aload_n 2), 1) := by decide +kernel
theorem dl_463 : decode code 463 = .ok ((.aload_n 0), 1) := by decide +kernel
theorem dl_464 : decode code 464 = .ok ((.iload_n 3), 1) := by decide +kernel
theorem dl_465 : decode code 465 = .ok ((.iconst 1), 1) := by decide +kernel
theorem dl_466 : decode code 466 = .ok (.iadd, 1) := by decide +kernel
theorem dl_467 : decode code 467 = .ok (.iaload, 1) := by decide +kernel
theorem dl_468 : decode code 468 = .ok ((.aload_n 0), 1) := by decide +kernel
theorem dl_469 : decode code 469 = .ok ((.iload_n 3), 1) := by decide +kernel
theorem dl_470 : decode code 470 = .ok ((.iconst 2), 1) := by decide +kernel
theorem dl_471 : decode code 471 = .ok (.iadd, 1) := by decide +kernel
theorem dl_472 : decode code 472 = .ok (.iaload, 1) := by decide +kernel
theorem dl_473 : decode code 473 = .ok ((.invokevirtual 48), 3) := by decide +kernel
theorem dl_476 : decode code 476 = .ok ((.if_icmp .eq 1295), 3) := by decide +kernel
theorem dl_479 : decode code 479 = .ok ((.iconst 0), 1) := by decide +kernel
theorem dl_480 : decode code 480 = .ok (.ireturn, 1) := by decide +kernel
theorem dl_481 : decode code 481 = .ok ((.aload_n 1), 1) := by decide +kernel
theorem dl_482 : decode code 482 = .ok ((.aload_n 0), 1) := by decide +kernel
theorem dl_483 : decode code 483 = .ok ((.iload_n 3), 1) := by decide +kernel
theorem dl_484 : decode code 484 = .ok ((.iconst 1), 1) := by decide +kernel
theorem dl_485 : decode code 485 = .ok (.iadd, 1) := by decide +kernel
theorem dl_486 : decode code 486 = .ok (.iaload, 1) := by decide +kernel
theorem dl_487 : decode code 487 = .ok ((.aload_n 0), 1) := by decide +kernel
theorem dl_488 : decode code 488 = .ok ((.iload_n 3), 1) := by decide +kernel
theorem dl_489 : decode code 489 = .ok ((.iconst 2), 1) := by decide +kernel
theorem dl_490 : decode code 490 = .ok (.iadd, 1) := by decide +kernel
theorem dl_491 : decode code 491 = .ok (.iaload, 1) := by decide +kernel
theorem dl_492 : decode code 492 = .ok ((.invokevirtual 49), 3) := by decide +kernel
theorem dl_495 : decode code 495 = .ok ((.aload_n 2), 1) := by decide +kernel
theorem dl_496 : decode code 496 = .ok ((.aload_n 0), 1) := by decide +kernel
theorem dl_497 : decode code 497 = .ok ((.iload_n 3), 1) := by decide +kernel
theorem dl_498 : decode code 498 = .ok ((.iconst 1), 1) := by decide +kernel
theorem dl_499 : decode code 499 = .ok (.iadd, 1) := by decide +kernel
theorem dl_500 : decode code 500 = .ok (.iaload, 1) := by decide +kernel
theorem dl_501 : decode code 501 = .ok ((.aload_n 0), 1) := by decide +kernel
theorem dl_502 : decode code 502 = .ok ((.iload_n 3), 1) := by decide +kernel
theorem dl_503 : decode code 503 = .ok ((.iconst 2), 1) := by decide +kernel
theorem dl_504 : decode code 504 = .ok (.iadd, 1) := by decide +kernel
theorem dl_505 : decode code 505 = .ok (.iaload, 1) := by decide +kernel
theorem dl_506 : decode code 506 = .ok ((.invokevirtual 52), 3) := by decide +kernel
theorem dl_509 : decode code 509 = .ok ((.if_icmp .eq 1262), 3) := by decide +kernel
theorem dl_512 : decode code 512 = .ok ((.iconst 0), 1) := by decide +kernel
theorem dl_513 : decode code 513 = .ok (.ireturn, 1) := by decide +kernel
theorem dl_514 : decode code 514 = .ok ((.aload_n 1), 1) := by decide +kernel
theorem dl_515 : decode code 515 = .ok ((.aload_n 0), 1) := by decide +kernel
theorem dl_516 : decode code 516 = .ok ((.iload_n 3), 1) := by decide +kernel
theorem dl_517 : decode code 517 = .ok ((.iconst 1), 1) := by decide +kernel
theorem dl_518 : decode code 518 = .ok (.iadd, 1) := by decide +kernel
theorem dl_519 : decode code 519 = .ok (.iaload, 1) := by decide +kernel
theorem dl_520 : decode code 520 = .ok ((.aload_n 0), 1) := by decide +kernel
theorem dl_521 : decode code 521 = .ok ((.iload_n 3), 1) := by decide +kernel
theorem dl_522 : decode code 522 = .ok ((.iconst 2), 1) := by decide +kernel
theorem dl_523 : decode code 523 = .ok (.iadd, 1) := by decide +kernel
theorem dl_524 : decode code 524 = .ok (.iaload, 1) := by decide +kernel
theorem dl_525 : decode code 525 = .ok ((.aload_n 0), 1) := by decide +kernel
theorem dl_526 : decode code 526 = .ok ((.iload_n 3), 1) := by decide +kernel
theorem dl_527 : decode code 527 = .ok ((.iconst 3), 1) := by decide +kernel
theorem dl_528 : decode code 528 = .ok (.iadd, 1) := by decide +kernel
theorem dl_529 : decode code 529 = .ok (.iaload, 1) := by decide +kernel
theorem dl_530 : decode code 530 = .ok ((.invokevirtual 53), 3) := by decide +kernel
theorem dl_533 : decode code 533 = .ok ((.aload_n 2), 1) := by decide +kernel
theorem dl_534 : decode code 534 = .ok ((.aload_n 0), 1) := by decide +kernel
theorem dl_535 : decode code 535 = .ok ((.iload_n 3), 1) := by decide +kernel
theorem dl_536 : decode code 536 = .ok ((.iconst 1), 1) := by decide +kernel
theorem dl_537 : decode code 537 = .ok (.iadd, 1) := by decide +kernel
theorem dl_538 : decode code 538 = .ok (.iaload, 1) := by decide +kernel
theorem dl_539 : decode code 539 = .ok ((.aload_n 0), 1) := by decide +kernel
theorem dl_540 : decode code 540 = .ok ((.iload_n 3), 1) := by decide +kernel
theorem dl_541 : decode code 541 = .ok ((.iconst 2), 1) := by decide +kernel
theorem dl_542 : decode code 542 = .ok (.iadd, 1) := by decide +kernel
theorem dl_543 : decode code 543 = .ok (.iaload, 1) := by decide +kernel
theorem dl_544 : decode code 544 = .ok ((.aload_n 0), 1) := by decide +kernel
theorem dl_545 : decode code 545 = .ok ((.iload_n 3), 1) := by decide +kernel
theorem dl_546 : decode code 546 = .ok ((.iconst 3), 1) := by decide +kernel
theorem dl_547 : decode code 547 = .ok (.iadd, 1) := by decide +kernel
theorem dl_548 : decode code 548 = .ok (.iaload, 1) := by decide +kernel
theorem dl_549 : decode code 549 = .ok ((.invokevirtual 56), 3) := by decide +kernel
theorem dl_552 : decode code 552 = .ok ((.if_icmp .eq 1219), 3) := by decide +kernel
theorem dl_555 : decode code 555 = .ok ((.iconst 0), 1) := by decide +kernel
theorem dl_556 : decode code 556 = .ok (.ireturn, 1) := by decide +kernel
theorem dl_557 : decode code 557 = .ok ((.aload_n 1), 1) := by decide +kernel
theorem dl_558 : decode code 558 = .ok ((.aload_n 0), 1) := by decide +kernel
theorem dl_559 : decode code 559 = .ok ((.iload_n 3), 1) := by decide +kernel
theorem dl_560 : decode code 560 = .ok ((.iconst 1), 1) := by decide +kernel
theorem dl_561 : decode code 561 = .ok (.iadd, 1) := by decide +kernel
theorem dl_562 : decode code 562 = .ok (.iaload, 1) := by decide +kernel
theorem dl_563 : decode code 563 = .ok ((.aload_n 0), 1) := by decide +kernel
theorem dl_564 : decode code 564 = .ok ((.iload_n 3), 1) := by decide +kernel
theorem dl_565 : decode code 565 = .ok ((.iconst 2), 1) := by decide +kernel
theorem dl_566 : decode code 566 = .ok (.iadd, 1) := by decide +kernel
theorem dl_567 : decode code 567 = .ok (.iaload, 1) := by decide +kernel
theorem dl_568 : decode code 568 = .ok ((.invokevirtual 57), 3) := by decide +kernel
theorem dl_571 : decode code 571 = .ok ((.aload_n 2), 1) := by decide +kernel
theorem dl_572 : decode code 572 = .ok ((.aload_n 0), 1) := by decide +kernel
theorem dl_573 : decode code 573 = .ok ((.iload_n 3), 1) := by decide +kernel
theorem dl_574 : decode code 574 = .ok ((.iconst 1), 1) := by decide +kernel
theorem dl_575 : decode code 575 = .ok (.iadd, 1) := by decide +kernel
theorem dl_576 : decode code 576 = .ok (.iaload, 1) := by decide +kernel
theorem dl_577 : decode code 577 = .ok ((.aload_n 0), 1) := by decide +kernel
theorem dl_578 : decode code 578 = .ok ((.iload_n 3), 1) := by decide +kernel
theorem dl_579 : decode code 579 = .ok ((.iconst 2), 1) := by decide +kernel
theorem dl_580 : decode code 580 = .ok (.iadd, 1) := by decide +kernel
theorem dl_581 : decode code 581 = .ok (.iaload, 1) := by decide +kernel
theorem dl_582 : decode code 582 = .ok ((.invokevirtual 60), 3) := by decide +kernel
theorem dl_585 : decode code 585 = .ok ((.if_icmp .eq 1186), 3) := by decide +kernel
theorem dl_588 : decode code 588 = .ok ((.iconst 0), 1) := by decide +kernel
theorem dl_589 : decode code 589 = .ok (.ireturn, 1) := by decide +kernel
theorem dl_590 : decode code 590 = .ok ((.aload_n 1), 1) := by decide +kernel
theorem dl_591 : decode code 591 = .ok ((.aload_n 0), 1) := by decide +kernel
theorem dl_592 : decode code 592 = .ok ((.iload_n 3), 1) := by decide +kernel
theorem dl_593 : decode code 593 = .ok ((.iconst 1), 1) := by decide +kernel
