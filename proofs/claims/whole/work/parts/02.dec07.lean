theorem d_Law_law_203 : decode b_Law_law 203 = .ok (.iload 5, 2) := by decide +kernel
theorem d_Law_law_205 : decode b_Law_law 205 = .ok (.ifCond .ne 15, 3) := by decide +kernel
theorem d_Law_law_208 : decode b_Law_law 208 = .ok (.aload_n 3, 1) := by decide +kernel
theorem d_Law_law_209 : decode b_Law_law 209 = .ok (.iconst 0, 1) := by decide +kernel
theorem d_Law_law_210 : decode b_Law_law 210 = .ok (.laload, 1) := by decide +kernel
theorem d_Law_law_211 : decode b_Law_law 211 = .ok (.iload 6, 2) := by decide +kernel
theorem d_Law_law_213 : decode b_Law_law 213 = .ok (.i2l, 1) := by decide +kernel
theorem d_Law_law_214 : decode b_Law_law 214 = .ok (.lcmp, 1) := by decide +kernel
theorem d_Law_law_215 : decode b_Law_law 215 = .ok (.ifCond .eq 5, 3) := by decide +kernel
theorem d_Law_law_218 : decode b_Law_law 218 = .ok (.iconst 0, 1) := by decide +kernel
theorem d_Law_law_219 : decode b_Law_law 219 = .ok (.ireturn, 1) := by decide +kernel
theorem d_Law_law_220 : decode b_Law_law 220 = .ok (.goto 607, 3) := by decide +kernel
theorem d_Law_law_223 : decode b_Law_law 223 = .ok (.aload_n 1, 1) := by decide +kernel
theorem d_Law_law_224 : decode b_Law_law 224 = .ok (.aload_n 0, 1) := by decide +kernel
theorem d_Law_law_225 : decode b_Law_law 225 = .ok (.iload 4, 2) := by decide +kernel
theorem d_Law_law_227 : decode b_Law_law 227 = .ok (.iconst 1, 1) := by decide +kernel
theorem d_Law_law_228 : decode b_Law_law 228 = .ok (.iadd, 1) := by decide +kernel
theorem d_Law_law_229 : decode b_Law_law 229 = .ok (.iaload, 1) := by decide +kernel
theorem d_Law_law_230 : decode b_Law_law 230 = .ok (.ifCond .eq 7, 3) := by decide +kernel
theorem d_Law_law_233 : decode b_Law_law 233 = .ok (.iconst 1, 1) := by decide +kernel
theorem d_Law_law_234 : decode b_Law_law 234 = .ok (.goto 4, 3) := by decide +kernel
theorem d_Law_law_237 : decode b_Law_law 237 = .ok (.iconst 0, 1) := by decide +kernel
theorem d_Law_law_238 : decode b_Law_law 238 = .ok (.aload_n 0, 1) := by decide +kernel
theorem d_Law_law_239 : decode b_Law_law 239 = .ok (.iload 4, 2) := by decide +kernel
theorem d_Law_law_241 : decode b_Law_law 241 = .ok (.iconst 2, 1) := by decide +kernel
theorem d_Law_law_242 : decode b_Law_law 242 = .ok (.iadd, 1) := by decide +kernel
theorem d_Law_law_243 : decode b_Law_law 243 = .ok (.iaload, 1) := by decide +kernel
theorem d_Law_law_244 : decode b_Law_law 244 = .ok (.aload_n 0, 1) := by decide +kernel
theorem d_Law_law_245 : decode b_Law_law 245 = .ok (.iload 4, 2) := by decide +kernel
theorem d_Law_law_247 : decode b_Law_law 247 = .ok (.iconst 3, 1) := by decide +kernel
theorem d_Law_law_248 : decode b_Law_law 248 = .ok (.iadd, 1) := by decide +kernel
theorem d_Law_law_249 : decode b_Law_law 249 = .ok (.iaload, 1) := by decide +kernel
theorem d_Law_law_250 : decode b_Law_law 250 = .ok (.aload_n 0, 1) := by decide +kernel
theorem d_Law_law_251 : decode b_Law_law 251 = .ok (.iload 4, 2) := by decide +kernel
theorem d_Law_law_253 : decode b_Law_law 253 = .ok (.iconst 4, 1) := by decide +kernel
theorem d_Law_law_254 : decode b_Law_law 254 = .ok (.iadd, 1) := by decide +kernel
theorem d_Law_law_255 : decode b_Law_law 255 = .ok (.iaload, 1) := by decide +kernel
theorem d_Law_law_256 : decode b_Law_law 256 = .ok (.invokestatic 75, 3) := by decide +kernel
theorem d_Law_law_259 : decode b_Law_law 259 = .ok (.istore 5, 2) := by decide +kernel
theorem d_Law_law_261 : decode b_Law_law 261 = .ok (.aload_n 2, 1) := by decide +kernel
theorem d_Law_law_262 : decode b_Law_law 262 = .ok (.aload_n 0, 1) := by decide +kernel
theorem d_Law_law_263 : decode b_Law_law 263 = .ok (.iload 4, 2) := by decide +kernel
theorem d_Law_law_265 : decode b_Law_law 265 = .ok (.iconst 1, 1) := by decide +kernel
theorem d_Law_law_266 : decode b_Law_law 266 = .ok (.iadd, 1) := by decide +kernel
theorem d_Law_law_267 : decode b_Law_law 267 = .ok (.iaload, 1) := by decide +kernel
theorem d_Law_law_268 : decode b_Law_law 268 = .ok (.ifCond .eq 7, 3) := by decide +kernel
theorem d_Law_law_271 : decode b_Law_law 271 = .ok (.iconst 1, 1) := by decide +kernel
theorem d_Law_law_272 : decode b_Law_law 272 = .ok (.goto 4, 3) := by decide +kernel
theorem d_Law_law_275 : decode b_Law_law 275 = .ok (.iconst 0, 1) := by decide +kernel
theorem d_Law_law_276 : decode b_Law_law 276 = .ok (.aload_n 0, 1) := by decide +kernel
theorem d_Law_law_277 : decode b_Law_law 277 = .ok (.iload 4, 2) := by decide +kernel
theorem d_Law_law_279 : decode b_Law_law 279 = .ok (.iconst 2, 1) := by decide +kernel
theorem d_Law_law_280 : decode b_Law_law 280 = .ok (.iadd, 1) := by decide +kernel
theorem d_Law_law_281 : decode b_Law_law 281 = .ok (.iaload, 1) := by decide +kernel
theorem d_Law_law_282 : decode b_Law_law 282 = .ok (.aload_n 0, 1) := by decide +kernel
theorem d_Law_law_283 : decode b_Law_law 283 = .ok (.iload 4, 2) := by decide +kernel
theorem d_Law_law_285 : decode b_Law_law 285 = .ok (.iconst 3, 1) := by decide +kernel
theorem d_Law_law_286 : decode b_Law_law 286 = .ok (.iadd, 1) := by decide +kernel
theorem d_Law_law_287 : decode b_Law_law 287 = .ok (.iaload, 1) := by decide +kernel
theorem d_Law_law_288 : decode b_Law_law 288 = .ok (.aload_n 0, 1) := by decide +kernel
theorem d_Law_law_289 : decode b_Law_law 289 = .ok (.iload 4, 2) := by decide +kernel
theorem d_Law_law_291 : decode b_Law_law 291 = .ok (.iconst 4, 1) := by decide +kernel
theorem d_Law_law_292 : decode b_Law_law 292 = .ok (.iadd, 1) := by decide +kernel
theorem d_Law_law_293 : decode b_Law_law 293 = .ok (.iaload, 1) := by decide +kernel
theorem d_Law_law_294 : decode b_Law_law 294 = .ok (.invokevirtual 78, 3) := by decide +kernel
theorem d_Law_law_297 : decode b_Law_law 297 = .ok (.aload_n 2, 1) := by decide +kernel
theorem d_Law_law_298 : decode b_Law_law 298 = .ok (.invokevirtual 69, 3) := by decide +kernel
theorem d_Law_law_301 : decode b_Law_law 301 = .ok (.iload 5, 2) := by decide +kernel
theorem d_Law_law_303 : decode b_Law_law 303 = .ok (.if_icmp .eq 5, 3) := by decide +kernel
theorem d_Law_law_306 : decode b_Law_law 306 = .ok (.iconst 0, 1) := by decide +kernel
theorem d_Law_law_307 : decode b_Law_law 307 = .ok (.ireturn, 1) := by decide +kernel
theorem d_Law_law_308 : decode b_Law_law 308 = .ok (.goto 519, 3) := by decide +kernel
theorem d_Law_law_311 : decode b_Law_law 311 = .ok (.aload_n 1, 1) := by decide +kernel
theorem d_Law_law_312 : decode b_Law_law 312 = .ok (.aload_n 0, 1) := by decide +kernel
theorem d_Law_law_313 : decode b_Law_law 313 = .ok (.iload 4, 2) := by decide +kernel
theorem d_Law_law_315 : decode b_Law_law 315 = .ok (.iconst 1, 1) := by decide +kernel
theorem d_Law_law_316 : decode b_Law_law 316 = .ok (.iadd, 1) := by decide +kernel
theorem d_Law_law_317 : decode b_Law_law 317 = .ok (.iaload, 1) := by decide +kernel
theorem d_Law_law_318 : decode b_Law_law 318 = .ok (.ifCond .eq 7, 3) := by decide +kernel
theorem d_Law_law_321 : decode b_Law_law 321 = .ok (.iconst 1, 1) := by decide +kernel
theorem d_Law_law_322 : decode b_Law_law 322 = .ok (.goto 4, 3) := by decide +kernel
theorem d_Law_law_325 : decode b_Law_law 325 = .ok (.iconst 0, 1) := by decide +kernel
theorem d_Law_law_326 : decode b_Law_law 326 = .ok (.aload_n 0, 1) := by decide +kernel
theorem d_Law_law_327 : decode b_Law_law 327 = .ok (.iload 4, 2) := by decide +kernel
theorem d_Law_law_329 : decode b_Law_law 329 = .ok (.iconst 2, 1) := by decide +kernel
theorem d_Law_law_330 : decode b_Law_law 330 = .ok (.iadd, 1) := by decide +kernel
theorem d_Law_law_331 : decode b_Law_law 331 = .ok (.iaload, 1) := by decide +kernel
theorem d_Law_law_332 : decode b_Law_law 332 = .ok (.aload_n 3, 1) := by decide +kernel
theorem d_Law_law_333 : decode b_Law_law 333 = .ok (.invokestatic 79, 3) := by decide +kernel
theorem d_Law_law_336 : decode b_Law_law 336 = .ok (.istore 5, 2) := by decide +kernel
theorem d_Law_law_338 : decode b_Law_law 338 = .ok (.aload_n 2, 1) := by decide +kernel
theorem d_Law_law_339 : decode b_Law_law 339 = .ok (.aload_n 0, 1) := by decide +kernel
theorem d_Law_law_340 : decode b_Law_law 340 = .ok (.iload 4, 2) := by decide +kernel
theorem d_Law_law_342 : decode b_Law_law 342 = .ok (.iconst 1, 1) := by decide +kernel
theorem d_Law_law_343 : decode b_Law_law 343 = .ok (.iadd, 1) := by decide +kernel
theorem d_Law_law_344 : decode b_Law_law 344 = .ok (.iaload, 1) := by decide +kernel
theorem d_Law_law_345 : decode b_Law_law 345 = .ok (.ifCond .eq 7, 3) := by decide +kernel
theorem d_Law_law_348 : decode b_Law_law 348 = .ok (.iconst 1, 1) := by decide +kernel
theorem d_Law_law_349 : decode b_Law_law 349 = .ok (.goto 4, 3) := by decide +kernel
theorem d_Law_law_352 : decode b_Law_law 352 = .ok (.iconst 0, 1) := by decide +kernel
theorem d_Law_law_353 : decode b_Law_law 353 = .ok (.aload_n 0, 1) := by decide +kernel
theorem d_Law_law_354 : decode b_Law_law 354 = .ok (.iload 4, 2) := by decide +kernel
theorem d_Law_law_356 : decode b_Law_law 356 = .ok (.iconst 2, 1) := by decide +kernel
theorem d_Law_law_357 : decode b_Law_law 357 = .ok (.iadd, 1) := by decide +kernel
theorem d_Law_law_358 : decode b_Law_law 358 = .ok (.iaload, 1) := by decide +kernel
theorem d_Law_law_359 : decode b_Law_law 359 = .ok (.invokevirtual 82, 3) := by decide +kernel
theorem d_Law_law_362 : decode b_Law_law 362 = .ok (.istore 6, 2) := by decide +kernel
theorem d_Law_law_364 : decode b_Law_law 364 = .ok (.aload_n 2, 1) := by decide +kernel
theorem d_Law_law_365 : decode b_Law_law 365 = .ok (.invokevirtual 69, 3) := by decide +kernel
theorem d_Law_law_368 : decode b_Law_law 368 = .ok (.iload 5, 2) := by decide +kernel
theorem d_Law_law_370 : decode b_Law_law 370 = .ok (.if_icmp .eq 5, 3) := by decide +kernel
theorem d_Law_law_373 : decode b_Law_law 373 = .ok (.iconst 0, 1) := by decide +kernel
theorem d_Law_law_374 : decode b_Law_law 374 = .ok (.ireturn, 1) := by decide +kernel
theorem d_Law_law_375 : decode b_Law_law 375 = .ok (.iload 5, 2) := by decide +kernel
theorem d_Law_law_377 : decode b_Law_law 377 = .ok (.ifCond .ne 15, 3) := by decide +kernel
theorem d_Law_law_380 : decode b_Law_law 380 = .ok (.aload_n 3, 1) := by decide +kernel
theorem d_Law_law_381 : decode b_Law_law 381 = .ok (.iconst 0, 1) := by decide +kernel
theorem d_Law_law_382 : decode b_Law_law 382 = .ok (.laload, 1) := by decide +kernel
theorem d_Law_law_383 : decode b_Law_law 383 = .ok (.iload 6, 2) := by decide +kernel
theorem d_Law_law_385 : decode b_Law_law 385 = .ok (.i2l, 1) := by decide +kernel
theorem d_Law_law_386 : decode b_Law_law 386 = .ok (.lcmp, 1) := by decide +kernel
theorem d_Law_law_387 : decode b_Law_law 387 = .ok (.ifCond .eq 5, 3) := by decide +kernel
theorem d_Law_law_390 : decode b_Law_law 390 = .ok (.iconst 0, 1) := by decide +kernel
theorem d_Law_law_391 : decode b_Law_law 391 = .ok (.ireturn, 1) := by decide +kernel
theorem d_Law_law_392 : decode b_Law_law 392 = .ok (.goto 435, 3) := by decide +kernel
theorem d_Law_law_395 : decode b_Law_law 395 = .ok (.aload_n 1, 1) := by decide +kernel
theorem d_Law_law_396 : decode b_Law_law 396 = .ok (.aload_n 0, 1) := by decide +kernel
theorem d_Law_law_397 : decode b_Law_law 397 = .ok (.iload 4, 2) := by decide +kernel
theorem d_Law_law_399 : decode b_Law_law 399 = .ok (.iconst 1, 1) := by decide +kernel
theorem d_Law_law_400 : decode b_Law_law 400 = .ok (.iadd, 1) := by decide +kernel
theorem d_Law_law_401 : decode b_Law_law 401 = .ok (.iaload, 1) := by decide +kernel
theorem d_Law_law_402 : decode b_Law_law 402 = .ok (.ifCond .eq 7, 3) := by decide +kernel
theorem d_Law_law_405 : decode b_Law_law 405 = .ok (.iconst 1, 1) := by decide +kernel
theorem d_Law_law_406 : decode b_Law_law 406 = .ok (.goto 4, 3) := by decide +kernel
theorem d_Law_law_409 : decode b_Law_law 409 = .ok (.iconst 0, 1) := by decide +kernel
theorem d_Law_law_410 : decode b_Law_law 410 = .ok (.invokestatic 83, 3) := by decide +kernel
theorem d_Law_law_413 : decode b_Law_law 413 = .ok (.istore 5, 2) := by decide +kernel
theorem d_Law_law_415 : decode b_Law_law 415 = .ok (.aload_n 2, 1) := by decide +kernel
theorem d_Law_law_416 : decode b_Law_law 416 = .ok (.aload_n 0, 1) := by decide +kernel
theorem d_Law_law_417 : decode b_Law_law 417 = .ok (.iload 4, 2) := by decide +kernel
theorem d_Law_law_419 : decode b_Law_law 419 = .ok (.iconst 1, 1) := by decide +kernel
theorem d_Law_law_420 : decode b_Law_law 420 = .ok (.iadd, 1) := by decide +kernel
theorem d_Law_law_421 : decode b_Law_law 421 = .ok (.iaload, 1) := by decide +kernel
theorem d_Law_law_422 : decode b_Law_law 422 = .ok (.ifCond .eq 7, 3) := by decide +kernel
theorem d_Law_law_425 : decode b_Law_law 425 = .ok (.iconst 1, 1) := by decide +kernel
theorem d_Law_law_426 : decode b_Law_law 426 = .ok (.goto 4, 3) := by decide +kernel
theorem d_Law_law_429 : decode b_Law_law 429 = .ok (.iconst 0, 1) := by decide +kernel
theorem d_Law_law_430 : decode b_Law_law 430 = .ok (.invokevirtual 86, 3) := by decide +kernel
theorem d_Law_law_433 : decode b_Law_law 433 = .ok (.aload_n 2, 1) := by decide +kernel
theorem d_Law_law_434 : decode b_Law_law 434 = .ok (.invokevirtual 69, 3) := by decide +kernel
theorem d_Law_law_437 : decode b_Law_law 437 = .ok (.iload 5, 2) := by decide +kernel
theorem d_Law_law_439 : decode b_Law_law 439 = .ok (.if_icmp .eq 5, 3) := by decide +kernel
theorem d_Law_law_442 : decode b_Law_law 442 = .ok (.iconst 0, 1) := by decide +kernel
theorem d_Law_law_443 : decode b_Law_law 443 = .ok (.ireturn, 1) := by decide +kernel
theorem d_Law_law_444 : decode b_Law_law 444 = .ok (.goto 383, 3) := by decide +kernel
theorem d_Law_law_447 : decode b_Law_law 447 = .ok (.aload_n 1, 1) := by decide +kernel
theorem d_Law_law_448 : decode b_Law_law 448 = .ok (.aload_n 0, 1) := by decide +kernel
theorem d_Law_law_449 : decode b_Law_law 449 = .ok (.iload 4, 2) := by decide +kernel
theorem d_Law_law_451 : decode b_Law_law 451 = .ok (.iconst 1, 1) := by decide +kernel
theorem d_Law_law_452 : decode b_Law_law 452 = .ok (.iadd, 1) := by decide +kernel
theorem d_Law_law_453 : decode b_Law_law 453 = .ok (.iaload, 1) := by decide +kernel
theorem d_Law_law_454 : decode b_Law_law 454 = .ok (.aload_n 0, 1) := by decide +kernel
theorem d_Law_law_455 : decode b_Law_law 455 = .ok (.iload 4, 2) := by decide +kernel
theorem d_Law_law_457 : decode b_Law_law 457 = .ok (.iconst 2, 1) := by decide +kernel
theorem d_Law_law_458 : decode b_Law_law 458 = .ok (.iadd, 1) := by decide +kernel
theorem d_Law_law_459 : decode b_Law_law 459 = .ok (.iaload, 1) := by decide +kernel
theorem d_Law_law_460 : decode b_Law_law 460 = .ok (.i2l, 1) := by decide +kernel
theorem d_Law_law_461 : decode b_Law_law 461 = .ok (.bipush 32, 2) := by decide +kernel
theorem d_Law_law_463 : decode b_Law_law 463 = .ok (.lshl, 1) := by decide +kernel
theorem d_Law_law_464 : decode b_Law_law 464 = .ok (.aload_n 0, 1) := by decide +kernel
theorem d_Law_law_465 : decode b_Law_law 465 = .ok (.iload 4, 2) := by decide +kernel
theorem d_Law_law_467 : decode b_Law_law 467 = .ok (.iconst 3, 1) := by decide +kernel
theorem d_Law_law_468 : decode b_Law_law 468 = .ok (.iadd, 1) := by decide +kernel
theorem d_Law_law_469 : decode b_Law_law 469 = .ok (.iaload, 1) := by decide +kernel
theorem d_Law_law_470 : decode b_Law_law 470 = .ok (.i2l, 1) := by decide +kernel
theorem d_Law_law_471 : decode b_Law_law 471 = .ok (.ldc2_w 87, 3) := by decide +kernel
theorem d_Law_law_474 : decode b_Law_law 474 = .ok (.land, 1) := by decide +kernel
theorem d_Law_law_475 : decode b_Law_law 475 = .ok (.lor, 1) := by decide +kernel
theorem d_Law_law_476 : decode b_Law_law 476 = .ok (.aload_n 0, 1) := by decide +kernel
theorem d_Law_law_477 : decode b_Law_law 477 = .ok (.iload 4, 2) := by decide +kernel
theorem d_Law_law_479 : decode b_Law_law 479 = .ok (.iconst 4, 1) := by decide +kernel
theorem d_Law_law_480 : decode b_Law_law 480 = .ok (.iadd, 1) := by decide +kernel
theorem d_Law_law_481 : decode b_Law_law 481 = .ok (.iaload, 1) := by decide +kernel
theorem d_Law_law_482 : decode b_Law_law 482 = .ok (.aload_n 3, 1) := by decide +kernel
theorem d_Law_law_483 : decode b_Law_law 483 = .ok (.invokestatic 89, 3) := by decide +kernel
theorem d_Law_law_486 : decode b_Law_law 486 = .ok (.istore 5, 2) := by decide +kernel
theorem d_Law_law_488 : decode b_Law_law 488 = .ok (.aload_n 2, 1) := by decide +kernel
theorem d_Law_law_489 : decode b_Law_law 489 = .ok (.aload_n 0, 1) := by decide +kernel
theorem d_Law_law_490 : decode b_Law_law 490 = .ok (.iload 4, 2) := by decide +kernel
theorem d_Law_law_492 : decode b_Law_law 492 = .ok (.iconst 1, 1) := by decide +kernel
theorem d_Law_law_493 : decode b_Law_law 493 = .ok (.iadd, 1) := by decide +kernel
theorem d_Law_law_494 : decode b_Law_law 494 = .ok (.iaload, 1) := by decide +kernel
theorem d_Law_law_495 : decode b_Law_law 495 = .ok (.aload_n 0, 1) := by decide +kernel
theorem d_Law_law_496 : decode b_Law_law 496 = .ok (.iload 4, 2) := by decide +kernel
theorem d_Law_law_498 : decode b_Law_law 498 = .ok (.iconst 2, 1) := by decide +kernel
theorem d_Law_law_499 : decode b_Law_law 499 = .ok (.iadd, 1) := by decide +kernel
theorem d_Law_law_500 : decode b_Law_law 500 = .ok (.iaload, 1) := by decide +kernel
theorem d_Law_law_501 : decode b_Law_law 501 = .ok (.i2l, 1) := by decide +kernel
theorem d_Law_law_502 : decode b_Law_law 502 = .ok (.bipush 32, 2) := by decide +kernel
theorem d_Law_law_504 : decode b_Law_law 504 = .ok (.lshl, 1) := by decide +kernel
theorem d_Law_law_505 : decode b_Law_law 505 = .ok (.aload_n 0, 1) := by decide +kernel
theorem d_Law_law_506 : decode b_Law_law 506 = .ok (.iload 4, 2) := by decide +kernel
theorem d_Law_law_508 : decode b_Law_law 508 = .ok (.iconst 3, 1) := by decide +kernel
theorem d_Law_law_509 : decode b_Law_law 509 = .ok (.iadd, 1) := by decide +kernel
theorem d_Law_law_510 : decode b_Law_law 510 = .ok (.iaload, 1) := by decide +kernel
theorem d_Law_law_511 : decode b_Law_law 511 = .ok (.i2l, 1) := by decide +kernel
theorem d_Law_law_512 : decode b_Law_law 512 = .ok (.ldc2_w 87, 3) := by decide +kernel
theorem d_Law_law_515 : decode b_Law_law 515 = .ok (.land, 1) := by decide +kernel
theorem d_Law_law_516 : decode b_Law_law 516 = .ok (.lor, 1) := by decide +kernel
theorem d_Law_law_517 : decode b_Law_law 517 = .ok (.aload_n 0, 1) := by decide +kernel
theorem d_Law_law_518 : decode b_Law_law 518 = .ok (.iload 4, 2) := by decide +kernel
theorem d_Law_law_520 : decode b_Law_law 520 = .ok (.iconst 4, 1) := by decide +kernel
theorem d_Law_law_521 : decode b_Law_law 521 = .ok (.iadd, 1) := by decide +kernel
theorem d_Law_law_522 : decode b_Law_law 522 = .ok (.iaload, 1) := by decide +kernel
theorem d_Law_law_523 : decode b_Law_law 523 = .ok (.invokevirtual 92, 3) := by decide +kernel
theorem d_Law_law_526 : decode b_Law_law 526 = .ok (.istore 6, 2) := by decide +kernel
theorem d_Law_law_528 : decode b_Law_law 528 = .ok (.aload_n 2, 1) := by decide +kernel
theorem d_Law_law_529 : decode b_Law_law 529 = .ok (.invokevirtual 69, 3) := by decide +kernel
theorem d_Law_law_532 : decode b_Law_law 532 = .ok (.iload 5, 2) := by decide +kernel
theorem d_Law_law_534 : decode b_Law_law 534 = .ok (.if_icmp .eq 5, 3) := by decide +kernel
theorem d_Law_law_537 : decode b_Law_law 537 = .ok (.iconst 0, 1) := by decide +kernel
theorem d_Law_law_538 : decode b_Law_law 538 = .ok (.ireturn, 1) := by decide +kernel
theorem d_Law_law_539 : decode b_Law_law 539 = .ok (.iload 5, 2) := by decide +kernel
theorem d_Law_law_541 : decode b_Law_law 541 = .ok (.ifCond .ne 15, 3) := by decide +kernel
theorem d_Law_law_544 : decode b_Law_law 544 = .ok (.aload_n 3, 1) := by decide +kernel
theorem d_Law_law_545 : decode b_Law_law 545 = .ok (.iconst 0, 1) := by decide +kernel
theorem d_Law_law_546 : decode b_Law_law 546 = .ok (.laload, 1) := by decide +kernel
theorem d_Law_law_547 : decode b_Law_law 547 = .ok (.iload 6, 2) := by decide +kernel
theorem d_Law_law_549 : decode b_Law_law 549 = .ok (.i2l, 1) := by decide +kernel
theorem d_Law_law_550 : decode b_Law_law 550 = .ok (.lcmp, 1) := by decide +kernel
theorem d_Law_law_551 : decode b_Law_law 551 = .ok (.ifCond .eq 5, 3) := by decide +kernel
theorem d_Law_law_554 : decode b_Law_law 554 = .ok (.iconst 0, 1) := by decide +kernel
theorem d_Law_law_555 : decode b_Law_law 555 = .ok (.ireturn, 1) := by decide +kernel
theorem d_Law_law_556 : decode b_Law_law 556 = .ok (.goto 271, 3) := by decide +kernel
theorem d_Law_law_559 : decode b_Law_law 559 = .ok (.aload_n 1, 1) := by decide +kernel
theorem d_Law_law_560 : decode b_Law_law 560 = .ok (.aload_n 3, 1) := by decide +kernel
theorem d_Law_law_561 : decode b_Law_law 561 = .ok (.invokestatic 93, 3) := by decide +kernel
theorem d_Law_law_564 : decode b_Law_law 564 = .ok (.istore 5, 2) := by decide +kernel
theorem d_Law_law_566 : decode b_Law_law 566 = .ok (.aload_n 2, 1) := by decide +kernel
theorem d_Law_law_567 : decode b_Law_law 567 = .ok (.invokevirtual 96, 3) := by decide +kernel
theorem d_Law_law_570 : decode b_Law_law 570 = .ok (.istore 6, 2) := by decide +kernel
theorem d_Law_law_572 : decode b_Law_law 572 = .ok (.aload_n 2, 1) := by decide +kernel
theorem d_Law_law_573 : decode b_Law_law 573 = .ok (.invokevirtual 69, 3) := by decide +kernel
theorem d_Law_law_576 : decode b_Law_law 576 = .ok (.iload 5, 2) := by decide +kernel
theorem d_Law_law_578 : decode b_Law_law 578 = .ok (.if_icmp .eq 5, 3) := by decide +kernel
theorem d_Law_law_581 : decode b_Law_law 581 = .ok (.iconst 0, 1) := by decide +kernel
theorem d_Law_law_582 : decode b_Law_law 582 = .ok (.ireturn, 1) := by decide +kernel
theorem d_Law_law_583 : decode b_Law_law 583 = .ok (.iload 5, 2) := by decide +kernel
theorem d_Law_law_585 : decode b_Law_law 585 = .ok (.ifCond .ne 15, 3) := by decide +kernel
theorem d_Law_law_588 : decode b_Law_law 588 = .ok (.aload_n 3, 1) := by decide +kernel
theorem d_Law_law_589 : decode b_Law_law 589 = .ok (.iconst 0, 1) := by decide +kernel
theorem d_Law_law_590 : decode b_Law_law 590 = .ok (.laload, 1) := by decide +kernel
theorem d_Law_law_591 : decode b_Law_law 591 = .ok (.iload 6, 2) := by decide +kernel
theorem d_Law_law_593 : decode b_Law_law 593 = .ok (.i2l, 1) := by decide +kernel
theorem d_Law_law_594 : decode b_Law_law 594 = .ok (.lcmp, 1) := by decide +kernel
theorem d_Law_law_595 : decode b_Law_law 595 = .ok (.ifCond .eq 5, 3) := by decide +kernel
theorem d_Law_law_598 : decode b_Law_law 598 = .ok (.iconst 0, 1) := by decide +kernel
theorem d_Law_law_599 : decode b_Law_law 599 = .ok (.ireturn, 1) := by decide +kernel
theorem d_Law_law_600 : decode b_Law_law 600 = .ok (.goto 227, 3) := by decide +kernel
theorem d_Law_law_603 : decode b_Law_law 603 = .ok (.aload_n 1, 1) := by decide +kernel
theorem d_Law_law_604 : decode b_Law_law 604 = .ok (.aload_n 0, 1) := by decide +kernel
theorem d_Law_law_605 : decode b_Law_law 605 = .ok (.iload 4, 2) := by decide +kernel
theorem d_Law_law_607 : decode b_Law_law 607 = .ok (.iconst 1, 1) := by decide +kernel
theorem d_Law_law_608 : decode b_Law_law 608 = .ok (.iadd, 1) := by decide +kernel
theorem d_Law_law_609 : decode b_Law_law 609 = .ok (.iaload, 1) := by decide +kernel
theorem d_Law_law_610 : decode b_Law_law 610 = .ok (.aload_n 3, 1) := by decide +kernel
theorem d_Law_law_611 : decode b_Law_law 611 = .ok (.invokestatic 97, 3) := by decide +kernel
theorem d_Law_law_614 : decode b_Law_law 614 = .ok (.istore 5, 2) := by decide +kernel
theorem d_Law_law_616 : decode b_Law_law 616 = .ok (.aload_n 2, 1) := by decide +kernel
theorem d_Law_law_617 : decode b_Law_law 617 = .ok (.aload_n 0, 1) := by decide +kernel
theorem d_Law_law_618 : decode b_Law_law 618 = .ok (.iload 4, 2) := by decide +kernel
theorem d_Law_law_620 : decode b_Law_law 620 = .ok (.iconst 1, 1) := by decide +kernel
theorem d_Law_law_621 : decode b_Law_law 621 = .ok (.iadd, 1) := by decide +kernel
theorem d_Law_law_622 : decode b_Law_law 622 = .ok (.iaload, 1) := by decide +kernel
theorem d_Law_law_623 : decode b_Law_law 623 = .ok (.invokevirtual 99, 3) := by decide +kernel
theorem d_Law_law_626 : decode b_Law_law 626 = .ok (.istore 6, 2) := by decide +kernel
theorem d_Law_law_628 : decode b_Law_law 628 = .ok (.aload_n 2, 1) := by decide +kernel
theorem d_Law_law_629 : decode b_Law_law 629 = .ok (.invokevirtual 69, 3) := by decide +kernel
theorem d_Law_law_632 : decode b_Law_law 632 = .ok (.iload 5, 2) := by decide +kernel
theorem d_Law_law_634 : decode b_Law_law 634 = .ok (.if_icmp .eq 5, 3) := by decide +kernel
theorem d_Law_law_637 : decode b_Law_law 637 = .ok (.iconst 0, 1) := by decide +kernel
theorem d_Law_law_638 : decode b_Law_law 638 = .ok (.ireturn, 1) := by decide +kernel
theorem d_Law_law_639 : decode b_Law_law 639 = .ok (.iload 5, 2) := by decide +kernel
theorem d_Law_law_641 : decode b_Law_law 641 = .ok (.ifCond .ne 15, 3) := by decide +kernel
theorem d_Law_law_644 : decode b_Law_law 644 = .ok (.aload_n 3, 1) := by decide +kernel
theorem d_Law_law_645 : decode b_Law_law 645 = .ok (.iconst 0, 1) := by decide +kernel
theorem d_Law_law_646 : decode b_Law_law 646 = .ok (.laload, 1) := by decide +kernel
theorem d_Law_law_647 : decode b_Law_law 647 = .ok (.iload 6, 2) := by decide +kernel
theorem d_Law_law_649 : decode b_Law_law 649 = .ok (.i2l, 1) := by decide +kernel
theorem d_Law_law_650 : decode b_Law_law 650 = .ok (.lcmp, 1) := by decide +kernel
theorem d_Law_law_651 : decode b_Law_law 651 = .ok (.ifCond .eq 5, 3) := by decide +kernel
theorem d_Law_law_654 : decode b_Law_law 654 = .ok (.iconst 0, 1) := by decide +kernel
theorem d_Law_law_655 : decode b_Law_law 655 = .ok (.ireturn, 1) := by decide +kernel
theorem d_Law_law_656 : decode b_Law_law 656 = .ok (.goto 171, 3) := by decide +kernel
theorem d_Law_law_659 : decode b_Law_law 659 = .ok (.aload_n 1, 1) := by decide +kernel
theorem d_Law_law_660 : decode b_Law_law 660 = .ok (.aload_n 0, 1) := by decide +kernel
theorem d_Law_law_661 : decode b_Law_law 661 = .ok (.iload 4, 2) := by decide +kernel
theorem d_Law_law_663 : decode b_Law_law 663 = .ok (.iconst 1, 1) := by decide +kernel
theorem d_Law_law_664 : decode b_Law_law 664 = .ok (.iadd, 1) := by decide +kernel
theorem d_Law_law_665 : decode b_Law_law 665 = .ok (.iaload, 1) := by decide +kernel
theorem d_Law_law_666 : decode b_Law_law 666 = .ok (.ifCond .eq 7, 3) := by decide +kernel
theorem d_Law_law_669 : decode b_Law_law 669 = .ok (.iconst 1, 1) := by decide +kernel
theorem d_Law_law_670 : decode b_Law_law 670 = .ok (.goto 4, 3) := by decide +kernel
theorem d_Law_law_673 : decode b_Law_law 673 = .ok (.iconst 0, 1) := by decide +kernel
theorem d_Law_law_674 : decode b_Law_law 674 = .ok (.aload_n 0, 1) := by decide +kernel
theorem d_Law_law_675 : decode b_Law_law 675 = .ok (.iload 4, 2) := by decide +kernel
theorem d_Law_law_677 : decode b_Law_law 677 = .ok (.iconst 2, 1) := by decide +kernel
theorem d_Law_law_678 : decode b_Law_law 678 = .ok (.iadd, 1) := by decide +kernel
theorem d_Law_law_679 : decode b_Law_law 679 = .ok (.iaload, 1) := by decide +kernel
theorem d_Law_law_680 : decode b_Law_law 680 = .ok (.aload_n 0, 1) := by decide +kernel
theorem d_Law_law_681 : decode b_Law_law 681 = .ok (.iload 4, 2) := by decide +kernel
theorem d_Law_law_683 : decode b_Law_law 683 = .ok (.iconst 3, 1) := by decide +kernel
theorem d_Law_law_684 : decode b_Law_law 684 = .ok (.iadd, 1) := by decide +kernel
theorem d_Law_law_685 : decode b_Law_law 685 = .ok (.iaload, 1) := by decide +kernel
theorem d_Law_law_686 : decode b_Law_law 686 = .ok (.invokestatic 100, 3) := by decide +kernel
theorem d_Law_law_689 : decode b_Law_law 689 = .ok (.istore 5, 2) := by decide +kernel
theorem d_Law_law_691 : decode b_Law_law 691 = .ok (.aload_n 2, 1) := by decide +kernel
theorem d_Law_law_692 : decode b_Law_law 692 = .ok (.aload_n 0, 1) := by decide +kernel
theorem d_Law_law_693 : decode b_Law_law 693 = .ok (.iload 4, 2) := by decide +kernel
theorem d_Law_law_695 : decode b_Law_law 695 = .ok (.iconst 1, 1) := by decide +kernel
theorem d_Law_law_696 : decode b_Law_law 696 = .ok (.iadd, 1) := by decide +kernel
theorem d_Law_law_697 : decode b_Law_law 697 = .ok (.iaload, 1) := by decide +kernel
theorem d_Law_law_698 : decode b_Law_law 698 = .ok (.ifCond .eq 7, 3) := by decide +kernel
theorem d_Law_law_701 : decode b_Law_law 701 = .ok (.iconst 1, 1) := by decide +kernel
theorem d_Law_law_702 : decode b_Law_law 702 = .ok (.goto 4, 3) := by decide +kernel
theorem d_Law_law_705 : decode b_Law_law 705 = .ok (.iconst 0, 1) := by decide +kernel
theorem d_Law_law_706 : decode b_Law_law 706 = .ok (.aload_n 0, 1) := by decide +kernel
theorem d_Law_law_707 : decode b_Law_law 707 = .ok (.iload 4, 2) := by decide +kernel
theorem d_Law_law_709 : decode b_Law_law 709 = .ok (.iconst 2, 1) := by decide +kernel
theorem d_Law_law_710 : decode b_Law_law 710 = .ok (.iadd, 1) := by decide +kernel
theorem d_Law_law_711 : decode b_Law_law 711 = .ok (.iaload, 1) := by decide +kernel
theorem d_Law_law_712 : decode b_Law_law 712 = .ok (.aload_n 0, 1) := by decide +kernel
theorem d_Law_law_713 : decode b_Law_law 713 = .ok (.iload 4, 2) := by decide +kernel
theorem d_Law_law_715 : decode b_Law_law 715 = .ok (.iconst 3, 1) := by decide +kernel
theorem d_Law_law_716 : decode b_Law_law 716 = .ok (.iadd, 1) := by decide +kernel
theorem d_Law_law_717 : decode b_Law_law 717 = .ok (.iaload, 1) := by decide +kernel
theorem d_Law_law_718 : decode b_Law_law 718 = .ok (.invokevirtual 103, 3) := by decide +kernel
theorem d_Law_law_721 : decode b_Law_law 721 = .ok (.aload_n 2, 1) := by decide +kernel
theorem d_Law_law_722 : decode b_Law_law 722 = .ok (.invokevirtual 69, 3) := by decide +kernel
theorem d_Law_law_725 : decode b_Law_law 725 = .ok (.iload 5, 2) := by decide +kernel
theorem d_Law_law_727 : decode b_Law_law 727 = .ok (.if_icmp .eq 5, 3) := by decide +kernel
theorem d_Law_law_730 : decode b_Law_law 730 = .ok (.iconst 0, 1) := by decide +kernel
theorem d_Law_law_731 : decode b_Law_law 731 = .ok (.ireturn, 1) := by decide +kernel
theorem d_Law_law_732 : decode b_Law_law 732 = .ok (.goto 95, 3) := by decide +kernel
theorem d_Law_law_735 : decode b_Law_law 735 = .ok (.aload_n 1, 1) := by decide +kernel
theorem d_Law_law_736 : decode b_Law_law 736 = .ok (.aload_n 0, 1) := by decide +kernel
theorem d_Law_law_737 : decode b_Law_law 737 = .ok (.iload 4, 2) := by decide +kernel
theorem d_Law_law_739 : decode b_Law_law 739 = .ok (.iconst 1, 1) := by decide +kernel
theorem d_Law_law_740 : decode b_Law_law 740 = .ok (.iadd, 1) := by decide +kernel
theorem d_Law_law_741 : decode b_Law_law 741 = .ok (.iaload, 1) := by decide +kernel
theorem d_Law_law_742 : decode b_Law_law 742 = .ok (.aload_n 0, 1) := by decide +kernel
theorem d_Law_law_743 : decode b_Law_law 743 = .ok (.iload 4, 2) := by decide +kernel
theorem d_Law_law_745 : decode b_Law_law 745 = .ok (.iconst 2, 1) := by decide +kernel
theorem d_Law_law_746 : decode b_Law_law 746 = .ok (.iadd, 1) := by decide +kernel
theorem d_Law_law_747 : decode b_Law_law 747 = .ok (.iaload, 1) := by decide +kernel
theorem d_Law_law_748 : decode b_Law_law 748 = .ok (.aload_n 3, 1) := by decide +kernel
theorem d_Law_law_749 : decode b_Law_law 749 = .ok (.invokestatic 104, 3) := by decide +kernel
theorem d_Law_law_752 : decode b_Law_law 752 = .ok (.istore 5, 2) := by decide +kernel
theorem d_Law_law_754 : decode b_Law_law 754 = .ok (.aload_n 2, 1) := by decide +kernel
theorem d_Law_law_755 : decode b_Law_law 755 = .ok (.aload_n 0, 1) := by decide +kernel
theorem d_Law_law_756 : decode b_Law_law 756 = .ok (.iload 4, 2) := by decide +kernel
theorem d_Law_law_758 : decode b_Law_law 758 = .ok (.iconst 1, 1) := by decide +kernel
theorem d_Law_law_759 : decode b_Law_law 759 = .ok (.iadd, 1) := by decide +kernel
theorem d_Law_law_760 : decode b_Law_law 760 = .ok (.iaload, 1) := by decide +kernel
theorem d_Law_law_761 : decode b_Law_law 761 = .ok (.aload_n 0, 1) := by decide +kernel
theorem d_Law_law_762 : decode b_Law_law 762 = .ok (.iload 4, 2) := by decide +kernel
theorem d_Law_law_764 : decode b_Law_law 764 = .ok (.iconst 2, 1) := by decide +kernel
theorem d_Law_law_765 : decode b_Law_law 765 = .ok (.iadd, 1) := by decide +kernel
theorem d_Law_law_766 : decode b_Law_law 766 = .ok (.iaload, 1) := by decide +kernel
theorem d_Law_law_767 : decode b_Law_law 767 = .ok (.invokevirtual 107, 3) := by decide +kernel
theorem d_Law_law_770 : decode b_Law_law 770 = .ok (.lstore 6, 2) := by decide +kernel
theorem d_Law_law_772 : decode b_Law_law 772 = .ok (.aload_n 2, 1) := by decide +kernel
theorem d_Law_law_773 : decode b_Law_law 773 = .ok (.invokevirtual 69, 3) := by decide +kernel
theorem d_Law_law_776 : decode b_Law_law 776 = .ok (.iload 5, 2) := by decide +kernel
theorem d_Law_law_778 : decode b_Law_law 778 = .ok (.if_icmp .eq 5, 3) := by decide +kernel
theorem d_Law_law_781 : decode b_Law_law 781 = .ok (.iconst 0, 1) := by decide +kernel
theorem d_Law_law_782 : decode b_Law_law 782 = .ok (.ireturn, 1) := by decide +kernel
theorem d_Law_law_783 : decode b_Law_law 783 = .ok (.iload 5, 2) := by decide +kernel
theorem d_Law_law_785 : decode b_Law_law 785 = .ok (.ifCond .ne 14, 3) := by decide +kernel
theorem d_Law_law_788 : decode b_Law_law 788 = .ok (.aload_n 3, 1) := by decide +kernel
theorem d_Law_law_789 : decode b_Law_law 789 = .ok (.iconst 0, 1) := by decide +kernel
theorem d_Law_law_790 : decode b_Law_law 790 = .ok (.laload, 1) := by decide +kernel
theorem d_Law_law_791 : decode b_Law_law 791 = .ok (.lload 6, 2) := by decide +kernel
theorem d_Law_law_793 : decode b_Law_law 793 = .ok (.lcmp, 1) := by decide +kernel
theorem d_Law_law_794 : decode b_Law_law 794 = .ok (.ifCond .eq 5, 3) := by decide +kernel
theorem d_Law_law_797 : decode b_Law_law 797 = .ok (.iconst 0, 1) := by decide +kernel
theorem d_Law_law_798 : decode b_Law_law 798 = .ok (.ireturn, 1) := by decide +kernel
theorem d_Law_law_799 : decode b_Law_law 799 = .ok (.goto 28, 3) := by decide +kernel
theorem d_Law_law_802 : decode b_Law_law 802 = .ok (.aload_n 1, 1) := by decide +kernel
theorem d_Law_law_803 : decode b_Law_law 803 = .ok (.aload_n 0, 1) := by decide +kernel
theorem d_Law_law_804 : decode b_Law_law 804 = .ok (.iload 4, 2) := by decide +kernel
theorem d_Law_law_806 : decode b_Law_law 806 = .ok (.iconst 1, 1) := by decide +kernel
theorem d_Law_law_807 : decode b_Law_law 807 = .ok (.iadd, 1) := by decide +kernel
theorem d_Law_law_808 : decode b_Law_law 808 = .ok (.iaload, 1) := by decide +kernel
theorem d_Law_law_809 : decode b_Law_law 809 = .ok (.invokevirtual 108, 3) := by decide +kernel
theorem d_Law_law_812 : decode b_Law_law 812 = .ok (.aload_n 2, 1) := by decide +kernel
theorem d_Law_law_813 : decode b_Law_law 813 = .ok (.aload_n 0, 1) := by decide +kernel
theorem d_Law_law_814 : decode b_Law_law 814 = .ok (.iload 4, 2) := by decide +kernel
theorem d_Law_law_816 : decode b_Law_law 816 = .ok (.iconst 1, 1) := by decide +kernel
theorem d_Law_law_817 : decode b_Law_law 817 = .ok (.iadd, 1) := by decide +kernel
theorem d_Law_law_818 : decode b_Law_law 818 = .ok (.iaload, 1) := by decide +kernel
theorem d_Law_law_819 : decode b_Law_law 819 = .ok (.invokevirtual 111, 3) := by decide +kernel
theorem d_Law_law_822 : decode b_Law_law 822 = .ok (.if_icmp .eq 5, 3) := by decide +kernel
theorem d_Law_law_825 : decode b_Law_law 825 = .ok (.iconst 0, 1) := by decide +kernel
theorem d_Law_law_826 : decode b_Law_law 826 = .ok (.ireturn, 1) := by decide +kernel
theorem d_Law_law_827 : decode b_Law_law 827 = .ok (.iinc 4 5, 3) := by decide +kernel
theorem d_Law_law_830 : decode b_Law_law 830 = .ok (.goto (-807), 3) := by decide +kernel
theorem d_Law_law_833 : decode b_Law_law 833 = .ok (.iconst 1, 1) := by decide +kernel
theorem d_Law_law_834 : decode b_Law_law 834 = .ok (.ireturn, 1) := by decide +kernel
theorem d_Arr_copyOf_0 : decode b_Arr_copyOf 0 = .ok (.iload_n 1, 1) := by decide +kernel
theorem d_Arr_copyOf_1 : decode b_Arr_copyOf 1 = .ok (.aload_n 0, 1) := by decide +kernel
theorem d_Arr_copyOf_2 : decode b_Arr_copyOf 2 = .ok (.arraylength, 1) := by decide +kernel
theorem d_Arr_copyOf_3 : decode b_Arr_copyOf 3 = .ok (.if_icmp .ne 11, 3) := by decide +kernel
theorem d_Arr_copyOf_6 : decode b_Arr_copyOf 6 = .ok (.aload_n 0, 1) := by decide +kernel
theorem d_Arr_copyOf_7 : decode b_Arr_copyOf 7 = .ok (.invokevirtual 316, 3) := by decide +kernel
theorem d_Arr_copyOf_10 : decode b_Arr_copyOf 10 = .ok (.checkcast 317, 3) := by decide +kernel
theorem d_Arr_copyOf_13 : decode b_Arr_copyOf 13 = .ok (.areturn, 1) := by decide +kernel
theorem d_Arr_copyOf_14 : decode b_Arr_copyOf 14 = .ok (.iload_n 1, 1) := by decide +kernel
theorem d_Arr_copyOf_15 : decode b_Arr_copyOf 15 = .ok (.newarray .int, 2) := by decide +kernel
theorem d_Arr_copyOf_17 : decode b_Arr_copyOf 17 = .ok (.astore_n 2, 1) := by decide +kernel
theorem d_Arr_copyOf_18 : decode b_Arr_copyOf 18 = .ok (.aload_n 0, 1) := by decide +kernel
theorem d_Arr_copyOf_19 : decode b_Arr_copyOf 19 = .ok (.iconst 0, 1) := by decide +kernel
theorem d_Arr_copyOf_20 : decode b_Arr_copyOf 20 = .ok (.aload_n 2, 1) := by decide +kernel
theorem d_Arr_copyOf_21 : decode b_Arr_copyOf 21 = .ok (.iconst 0, 1) := by decide +kernel
theorem d_Arr_copyOf_22 : decode b_Arr_copyOf 22 = .ok (.aload_n 0, 1) := by decide +kernel
theorem d_Arr_copyOf_23 : decode b_Arr_copyOf 23 = .ok (.arraylength, 1) := by decide +kernel
theorem d_Arr_copyOf_24 : decode b_Arr_copyOf 24 = .ok (.iload_n 1, 1) := by decide +kernel
theorem d_Arr_copyOf_25 : decode b_Arr_copyOf 25 = .ok (.invokestatic 304, 3) := by decide +kernel
theorem d_Arr_copyOf_28 : decode b_Arr_copyOf 28 = .ok (.invokestatic 150, 3) := by decide +kernel
theorem d_Arr_copyOf_31 : decode b_Arr_copyOf 31 = .ok (.aload_n 2, 1) := by decide +kernel
theorem d_Arr_copyOf_32 : decode b_Arr_copyOf 32 = .ok (.areturn, 1) := by decide +kernel
