theorem dL_law_212 : decode code 212 = .ok (.aload_n 1, 1) := by decide +kernel
theorem dL_law_213 : decode code 213 = .ok (.aload_n 0, 1) := by decide +kernel
theorem dL_law_214 : decode code 214 = .ok (.iload_n 3, 1) := by decide +kernel
theorem dL_law_215 : decode code 215 = .ok (.iconst 1, 1) := by decide +kernel
theorem dL_law_216 : decode code 216 = .ok (.iadd, 1) := by decide +kernel
theorem dL_law_217 : decode code 217 = .ok (.iaload, 1) := by decide +kernel
theorem dL_law_218 : decode code 218 = .ok (.aload_n 0, 1) := by decide +kernel
theorem dL_law_219 : decode code 219 = .ok (.iload_n 3, 1) := by decide +kernel
theorem dL_law_220 : decode code 220 = .ok (.iconst 2, 1) := by decide +kernel
theorem dL_law_221 : decode code 221 = .ok (.iadd, 1) := by decide +kernel
theorem dL_law_222 : decode code 222 = .ok (.iaload, 1) := by decide +kernel
theorem dL_law_223 : decode code 223 = .ok (.aload_n 0, 1) := by decide +kernel
theorem dL_law_224 : decode code 224 = .ok (.iload_n 3, 1) := by decide +kernel
theorem dL_law_225 : decode code 225 = .ok (.iconst 3, 1) := by decide +kernel
theorem dL_law_226 : decode code 226 = .ok (.iadd, 1) := by decide +kernel
theorem dL_law_227 : decode code 227 = .ok (.iaload, 1) := by decide +kernel
theorem dL_law_228 : decode code 228 = .ok (.aload_n 0, 1) := by decide +kernel
theorem dL_law_229 : decode code 229 = .ok (.iload_n 3, 1) := by decide +kernel
theorem dL_law_230 : decode code 230 = .ok (.iconst 4, 1) := by decide +kernel
theorem dL_law_231 : decode code 231 = .ok (.iadd, 1) := by decide +kernel
theorem dL_law_232 : decode code 232 = .ok (.iaload, 1) := by decide +kernel
theorem dL_law_233 : decode code 233 = .ok (.aload_n 0, 1) := by decide +kernel
theorem dL_law_234 : decode code 234 = .ok (.iload_n 3, 1) := by decide +kernel
theorem dL_law_235 : decode code 235 = .ok (.iconst 5, 1) := by decide +kernel
theorem dL_law_236 : decode code 236 = .ok (.iadd, 1) := by decide +kernel
theorem dL_law_237 : decode code 237 = .ok (.iaload, 1) := by decide +kernel
theorem dL_law_238 : decode code 238 = .ok (.invokevirtual 13, 3) := by decide +kernel
theorem dL_law_241 : decode code 241 = .ok (.aload_n 2, 1) := by decide +kernel
theorem dL_law_242 : decode code 242 = .ok (.aload_n 0, 1) := by decide +kernel
theorem dL_law_243 : decode code 243 = .ok (.iload_n 3, 1) := by decide +kernel
theorem dL_law_244 : decode code 244 = .ok (.iconst 1, 1) := by decide +kernel
theorem dL_law_245 : decode code 245 = .ok (.iadd, 1) := by decide +kernel
theorem dL_law_246 : decode code 246 = .ok (.iaload, 1) := by decide +kernel
theorem dL_law_247 : decode code 247 = .ok (.aload_n 0, 1) := by decide +kernel
theorem dL_law_248 : decode code 248 = .ok (.iload_n 3, 1) := by decide +kernel
theorem dL_law_249 : decode code 249 = .ok (.iconst 2, 1) := by decide +kernel
theorem dL_law_250 : decode code 250 = .ok (.iadd, 1) := by decide +kernel
theorem dL_law_251 : decode code 251 = .ok (.iaload, 1) := by decide +kernel
theorem dL_law_252 : decode code 252 = .ok (.aload_n 0, 1) := by decide +kernel
theorem dL_law_253 : decode code 253 = .ok (.iload_n 3, 1) := by decide +kernel
theorem dL_law_254 : decode code 254 = .ok (.iconst 3, 1) := by decide +kernel
theorem dL_law_255 : decode code 255 = .ok (.iadd, 1) := by decide +kernel
theorem dL_law_256 : decode code 256 = .ok (.iaload, 1) := by decide +kernel
theorem dL_law_257 : decode code 257 = .ok (.aload_n 0, 1) := by decide +kernel
theorem dL_law_258 : decode code 258 = .ok (.iload_n 3, 1) := by decide +kernel
theorem dL_law_259 : decode code 259 = .ok (.iconst 4, 1) := by decide +kernel
theorem dL_law_260 : decode code 260 = .ok (.iadd, 1) := by decide +kernel
theorem dL_law_261 : decode code 261 = .ok (.iaload, 1) := by decide +kernel
theorem dL_law_262 : decode code 262 = .ok (.aload_n 0, 1) := by decide +kernel
theorem dL_law_263 : decode code 263 = .ok (.iload_n 3, 1) := by decide +kernel
theorem dL_law_264 : decode code 264 = .ok (.iconst 5, 1) := by decide +kernel
theorem dL_law_265 : decode code 265 = .ok (.iadd, 1) := by decide +kernel
theorem dL_law_266 : decode code 266 = .ok (.iaload, 1) := by decide +kernel
theorem dL_law_267 : decode code 267 = .ok (.invokevirtual 17, 3) := by decide +kernel
theorem dL_law_270 : decode code 270 = .ok (.if_icmp .eq 1125, 3) := by decide +kernel
theorem dL_law_275 : decode code 275 = .ok (.aload_n 1, 1) := by decide +kernel
theorem dL_law_276 : decode code 276 = .ok (.aload_n 0, 1) := by decide +kernel
theorem dL_law_277 : decode code 277 = .ok (.iload_n 3, 1) := by decide +kernel
theorem dL_law_278 : decode code 278 = .ok (.iconst 1, 1) := by decide +kernel
theorem dL_law_279 : decode code 279 = .ok (.iadd, 1) := by decide +kernel
theorem dL_law_280 : decode code 280 = .ok (.iaload, 1) := by decide +kernel
theorem dL_law_281 : decode code 281 = .ok (.invokevirtual 18, 3) := by decide +kernel
theorem dL_law_284 : decode code 284 = .ok (.pop, 1) := by decide +kernel
theorem dL_law_285 : decode code 285 = .ok (.aload_n 2, 1) := by decide +kernel
theorem dL_law_286 : decode code 286 = .ok (.aload_n 0, 1) := by decide +kernel
theorem dL_law_287 : decode code 287 = .ok (.iload_n 3, 1) := by decide +kernel
theorem dL_law_288 : decode code 288 = .ok (.iconst 1, 1) := by decide +kernel
theorem dL_law_289 : decode code 289 = .ok (.iadd, 1) := by decide +kernel
theorem dL_law_290 : decode code 290 = .ok (.iaload, 1) := by decide +kernel
theorem dL_law_291 : decode code 291 = .ok (.invokevirtual 22, 3) := by decide +kernel
theorem dL_law_294 : decode code 294 = .ok (.pop, 1) := by decide +kernel
theorem dL_law_295 : decode code 295 = .ok (.goto 1100, 3) := by decide +kernel
theorem dL_law_298 : decode code 298 = .ok (.aload_n 1, 1) := by decide +kernel
theorem dL_law_299 : decode code 299 = .ok (.aload_n 0, 1) := by decide +kernel
theorem dL_law_300 : decode code 300 = .ok (.iload_n 3, 1) := by decide +kernel
theorem dL_law_301 : decode code 301 = .ok (.iconst 1, 1) := by decide +kernel
theorem dL_law_302 : decode code 302 = .ok (.iadd, 1) := by decide +kernel
theorem dL_law_303 : decode code 303 = .ok (.iaload, 1) := by decide +kernel
theorem dL_law_304 : decode code 304 = .ok (.invokevirtual 23, 3) := by decide +kernel
theorem dL_law_307 : decode code 307 = .ok (.pop, 1) := by decide +kernel
theorem dL_law_308 : decode code 308 = .ok (.aload_n 2, 1) := by decide +kernel
theorem dL_law_309 : decode code 309 = .ok (.aload_n 0, 1) := by decide +kernel
theorem dL_law_310 : decode code 310 = .ok (.iload_n 3, 1) := by decide +kernel
theorem dL_law_311 : decode code 311 = .ok (.iconst 1, 1) := by decide +kernel
theorem dL_law_312 : decode code 312 = .ok (.iadd, 1) := by decide +kernel
theorem dL_law_313 : decode code 313 = .ok (.iaload, 1) := by decide +kernel
theorem dL_law_314 : decode code 314 = .ok (.invokevirtual 26, 3) := by decide +kernel
theorem dL_law_317 : decode code 317 = .ok (.pop, 1) := by decide +kernel
theorem dL_law_318 : decode code 318 = .ok (.goto 1077, 3) := by decide +kernel
theorem dL_law_321 : decode code 321 = .ok (.aload_n 1, 1) := by decide +kernel
theorem dL_law_322 : decode code 322 = .ok (.aload_n 0, 1) := by decide +kernel
theorem dL_law_323 : decode code 323 = .ok (.iload_n 3, 1) := by decide +kernel
theorem dL_law_324 : decode code 324 = .ok (.iconst 1, 1) := by decide +kernel
theorem dL_law_325 : decode code 325 = .ok (.iadd, 1) := by decide +kernel
theorem dL_law_326 : decode code 326 = .ok (.iaload, 1) := by decide +kernel
theorem dL_law_327 : decode code 327 = .ok (.aload_n 0, 1) := by decide +kernel
theorem dL_law_328 : decode code 328 = .ok (.iload_n 3, 1) := by decide +kernel
theorem dL_law_329 : decode code 329 = .ok (.iconst 2, 1) := by decide +kernel
theorem dL_law_330 : decode code 330 = .ok (.iadd, 1) := by decide +kernel
theorem dL_law_331 : decode code 331 = .ok (.iaload, 1) := by decide +kernel
theorem dL_law_332 : decode code 332 = .ok (.invokevirtual 27, 3) := by decide +kernel
theorem dL_law_335 : decode code 335 = .ok (.pop, 1) := by decide +kernel
theorem dL_law_336 : decode code 336 = .ok (.aload_n 2, 1) := by decide +kernel
theorem dL_law_337 : decode code 337 = .ok (.aload_n 0, 1) := by decide +kernel
theorem dL_law_338 : decode code 338 = .ok (.iload_n 3, 1) := by decide +kernel
theorem dL_law_339 : decode code 339 = .ok (.iconst 1, 1) := by decide +kernel
theorem dL_law_340 : decode code 340 = .ok (.iadd, 1) := by decide +kernel
theorem dL_law_341 : decode code 341 = .ok (.iaload, 1) := by decide +kernel
theorem dL_law_342 : decode code 342 = .ok (.aload_n 0, 1) := by decide +kernel
theorem dL_law_343 : decode code 343 = .ok (.iload_n 3, 1) := by decide +kernel
theorem dL_law_344 : decode code 344 = .ok (.iconst 2, 1) := by decide +kernel
theorem dL_law_345 : decode code 345 = .ok (.iadd, 1) := by decide +kernel
theorem dL_law_346 : decode code 346 = .ok (.iaload, 1) := by decide +kernel
theorem dL_law_347 : decode code 347 = .ok (.invokevirtual 31, 3) := by decide +kernel
theorem dL_law_350 : decode code 350 = .ok (.pop, 1) := by decide +kernel
theorem dL_law_351 : decode code 351 = .ok (.goto 1044, 3) := by decide +kernel
theorem dL_law_354 : decode code 354 = .ok (.aload_n 1, 1) := by decide +kernel
theorem dL_law_355 : decode code 355 = .ok (.aload_n 0, 1) := by decide +kernel
theorem dL_law_356 : decode code 356 = .ok (.iload_n 3, 1) := by decide +kernel
theorem dL_law_357 : decode code 357 = .ok (.iconst 1, 1) := by decide +kernel
theorem dL_law_358 : decode code 358 = .ok (.iadd, 1) := by decide +kernel
theorem dL_law_359 : decode code 359 = .ok (.iaload, 1) := by decide +kernel
theorem dL_law_360 : decode code 360 = .ok (.aload_n 0, 1) := by decide +kernel
theorem dL_law_361 : decode code 361 = .ok (.iload_n 3, 1) := by decide +kernel
theorem dL_law_362 : decode code 362 = .ok (.iconst 2, 1) := by decide +kernel
theorem dL_law_363 : decode code 363 = .ok (.iadd, 1) := by decide +kernel
theorem dL_law_364 : decode code 364 = .ok (.iaload, 1) := by decide +kernel
theorem dL_law_365 : decode code 365 = .ok (.invokevirtual 32, 3) := by decide +kernel
theorem dL_law_368 : decode code 368 = .ok (.pop, 1) := by decide +kernel
theorem dL_law_369 : decode code 369 = .ok (.aload_n 2, 1) := by decide +kernel
theorem dL_law_370 : decode code 370 = .ok (.aload_n 0, 1) := by decide +kernel
theorem dL_law_371 : decode code 371 = .ok (.iload_n 3, 1) := by decide +kernel
theorem dL_law_372 : decode code 372 = .ok (.iconst 1, 1) := by decide +kernel
theorem dL_law_373 : decode code 373 = .ok (.iadd, 1) := by decide +kernel
theorem dL_law_374 : decode code 374 = .ok (.iaload, 1) := by decide +kernel
theorem dL_law_375 : decode code 375 = .ok (.aload_n 0, 1) := by decide +kernel
theorem dL_law_376 : decode code 376 = .ok (.iload_n 3, 1) := by decide +kernel
theorem dL_law_377 : decode code 377 = .ok (.iconst 2, 1) := by decide +kernel
theorem dL_law_378 : decode code 378 = .ok (.iadd, 1) := by decide +kernel
theorem dL_law_379 : decode code 379 = .ok (.iaload, 1) := by decide +kernel
theorem dL_law_380 : decode code 380 = .ok (.invokevirtual 35, 3) := by decide +kernel
theorem dL_law_383 : decode code 383 = .ok (.pop, 1) := by decide +kernel
theorem dL_law_384 : decode code 384 = .ok (.goto 1011, 3) := by decide +kernel
theorem dL_law_387 : decode code 387 = .ok (.aload_n 1, 1) := by decide +kernel
theorem dL_law_388 : decode code 388 = .ok (.aload_n 0, 1) := by decide +kernel
theorem dL_law_389 : decode code 389 = .ok (.iload_n 3, 1) := by decide +kernel
theorem dL_law_390 : decode code 390 = .ok (.iconst 1, 1) := by decide +kernel
theorem dL_law_391 : decode code 391 = .ok (.iadd, 1) := by decide +kernel
theorem dL_law_392 : decode code 392 = .ok (.iaload, 1) := by decide +kernel
theorem dL_law_393 : decode code 393 = .ok (.aload_n 0, 1) := by decide +kernel
theorem dL_law_394 : decode code 394 = .ok (.iload_n 3, 1) := by decide +kernel
theorem dL_law_395 : decode code 395 = .ok (.iconst 2, 1) := by decide +kernel
theorem dL_law_396 : decode code 396 = .ok (.iadd, 1) := by decide +kernel
theorem dL_law_397 : decode code 397 = .ok (.iaload, 1) := by decide +kernel
theorem dL_law_398 : decode code 398 = .ok (.aload_n 0, 1) := by decide +kernel
theorem dL_law_399 : decode code 399 = .ok (.iload_n 3, 1) := by decide +kernel
theorem dL_law_400 : decode code 400 = .ok (.iconst 3, 1) := by decide +kernel
theorem dL_law_401 : decode code 401 = .ok (.iadd, 1) := by decide +kernel
theorem dL_law_402 : decode code 402 = .ok (.iaload, 1) := by decide +kernel
theorem dL_law_403 : decode code 403 = .ok (.invokevirtual 36, 3) := by decide +kernel
theorem dL_law_406 : decode code 406 = .ok (.pop, 1) := by decide +kernel
theorem dL_law_407 : decode code 407 = .ok (.aload_n 2, 1) := by decide +kernel
theorem dL_law_408 : decode code 408 = .ok (.aload_n 0, 1) := by decide +kernel
theorem dL_law_409 : decode code 409 = .ok (.iload_n 3, 1) := by decide +kernel
theorem dL_law_410 : decode code 410 = .ok (.iconst 1, 1) := by decide +kernel
theorem dL_law_411 : decode code 411 = .ok (.iadd, 1) := by decide +kernel
theorem dL_law_412 : decode code 412 = .ok (.iaload, 1) := by decide +kernel
theorem dL_law_413 : decode code 413 = .ok (.aload_n 0, 1) := by decide +kernel
theorem dL_law_414 : decode code 414 = .ok (.iload_n 3, 1) := by decide +kernel
theorem dL_law_415 : decode code 415 = .ok (.iconst 2, 1) := by decide +kernel
theorem dL_law_416 : decode code 416 = .ok (.iadd, 1) := by decide +kernel
theorem dL_law_417 : decode code 417 = .ok (.iaload, 1) := by decide +kernel
theorem dL_law_418 : decode code 418 = .ok (.aload_n 0, 1) := by decide +kernel
theorem dL_law_419 : decode code 419 = .ok (.iload_n 3, 1) := by decide +kernel
theorem dL_law_420 : decode code 420 = .ok (.iconst 3, 1) := by decide +kernel
theorem dL_law_421 : decode code 421 = .ok (.iadd, 1) := by decide +kernel
theorem dL_law_422 : decode code 422 = .ok (.iaload, 1) := by decide +kernel
theorem dL_law_423 : decode code 423 = .ok (.invokevirtual 40, 3) := by decide +kernel
theorem dL_law_426 : decode code 426 = .ok (.pop, 1) := by decide +kernel
theorem dL_law_427 : decode code 427 = .ok (.goto 968, 3) := by decide +kernel
theorem dL_law_430 : decode code 430 = .ok (.aload_n 1, 1) := by decide +kernel
theorem dL_law_431 : decode code 431 = .ok (.aload_n 0, 1) := by decide +kernel
theorem dL_law_432 : decode code 432 = .ok (.iload_n 3, 1) := by decide +kernel
theorem dL_law_433 : decode code 433 = .ok (.iconst 1, 1) := by decide +kernel
theorem dL_law_434 : decode code 434 = .ok (.iadd, 1) := by decide +kernel
theorem dL_law_435 : decode code 435 = .ok (.iaload, 1) := by decide +kernel
theorem dL_law_436 : decode code 436 = .ok (.invokevirtual 41, 3) := by decide +kernel
theorem dL_law_439 : decode code 439 = .ok (.pop, 1) := by decide +kernel
theorem dL_law_440 : decode code 440 = .ok (.aload_n 2, 1) := by decide +kernel
theorem dL_law_441 : decode code 441 = .ok (.aload_n 0, 1) := by decide +kernel
theorem dL_law_442 : decode code 442 = .ok (.iload_n 3, 1) := by decide +kernel
theorem dL_law_443 : decode code 443 = .ok (.iconst 1, 1) := by decide +kernel
theorem dL_law_444 : decode code 444 = .ok (.iadd, 1) := by decide +kernel
theorem dL_law_445 : decode code 445 = .ok (.iaload, 1) := by decide +kernel
theorem dL_law_446 : decode code 446 = .ok (.invokevirtual 44, 3) := by decide +kernel
theorem dL_law_449 : decode code 449 = .ok (.pop, 1) := by decide +kernel
theorem dL_law_450 : decode code 450 = .ok (.goto 945, 3) := by decide +kernel
theorem dL_law_453 : decode code 453 = .ok (.aload_n 1, 1) := by decide +kernel
theorem dL_law_454 : decode code 454 = .ok (.aload_n 0, 1) := by decide +kernel
theorem dL_law_455 : decode code 455 = .ok (.iload_n 3, 1) := by decide +kernel
theorem dL_law_456 : decode code 456 = .ok (.iconst 1, 1) := by decide +kernel
theorem dL_law_457 : decode code 457 = .ok (.iadd, 1) := by decide +kernel
theorem dL_law_458 : decode code 458 = .ok (.iaload, 1) := by decide +kernel
theorem dL_law_459 : decode code 459 = .ok (.aload_n 0, 1) := by decide +kernel
theorem dL_law_460 : decode code 460 = .ok (.iload_n 3, 1) := by decide +kernel
theorem dL_law_461 : decode code 461 = .ok (.iconst 2, 1) := by decide +kernel
theorem dL_law_462 : decode code 462 = .ok (.iadd, 1) := by decide +kernel
theorem dL_law_463 : decode code 463 = .ok (.iaload, 1) := by decide +kernel
theorem dL_law_464 : decode code 464 = .ok (.invokevirtual 45, 3) := by decide +kernel
theorem dL_law_467 : decode code 467 = .ok (.pop, 1) := by decide +kernel
theorem dL_law_468 : decode code 468 = .ok (.aload_n 2, 1) := by decide +kernel
theorem dL_law_469 : decode code 469 = .ok (.aload_n 0, 1) := by decide +kernel
theorem dL_law_470 : decode code 470 = .ok (.iload_n 3, 1) := by decide +kernel
theorem dL_law_471 : decode code 471 = .ok (.iconst 1, 1) := by decide +kernel
theorem dL_law_472 : decode code 472 = .ok (.iadd, 1) := by decide +kernel
theorem dL_law_473 : decode code 473 = .ok (.iaload, 1) := by decide +kernel
theorem dL_law_474 : decode code 474 = .ok (.aload_n 0, 1) := by decide +kernel
theorem dL_law_475 : decode code 475 = .ok (.iload_n 3, 1) := by decide +kernel
theorem dL_law_476 : decode code 476 = .ok (.iconst 2, 1) := by decide +kernel
theorem dL_law_477 : decode code 477 = .ok (.iadd, 1) := by decide +kernel
theorem dL_law_478 : decode code 478 = .ok (.iaload, 1) := by decide +kernel
theorem dL_law_479 : decode code 479 = .ok (.invokevirtual 48, 3) := by decide +kernel
theorem dL_law_482 : decode code 482 = .ok (.pop, 1) := by decide +kernel
theorem dL_law_483 : decode code 483 = .ok (.goto 912, 3) := by decide +kernel
theorem dL_law_486 : decode code 486 = .ok (.aload_n 1, 1) := by decide +kernel
theorem dL_law_487 : decode code 487 = .ok (.aload_n 0, 1) := by decide +kernel
theorem dL_law_488 : decode code 488 = .ok (.iload_n 3, 1) := by decide +kernel
theorem dL_law_489 : decode code 489 = .ok (.iconst 1, 1) := by decide +kernel
theorem dL_law_490 : decode code 490 = .ok (.iadd, 1) := by decide +kernel
theorem dL_law_491 : decode code 491 = .ok (.iaload, 1) := by decide +kernel
theorem dL_law_492 : decode code 492 = .ok (.invokevirtual 49, 3) := by decide +kernel
theorem dL_law_495 : decode code 495 = .ok (.pop, 1) := by decide +kernel
theorem dL_law_496 : decode code 496 = .ok (.aload_n 2, 1) := by decide +kernel
theorem dL_law_497 : decode code 497 = .ok (.aload_n 0, 1) := by decide +kernel
theorem dL_law_498 : decode code 498 = .ok (.iload_n 3, 1) := by decide +kernel
theorem dL_law_499 : decode code 499 = .ok (.iconst 1, 1) := by decide +kernel
theorem dL_law_500 : decode code 500 = .ok (.iadd, 1) := by decide +kernel
theorem dL_law_501 : decode code 501 = .ok (.iaload, 1) := by decide +kernel
theorem dL_law_502 : decode code 502 = .ok (.invokevirtual 52, 3) := by decide +kernel
theorem dL_law_505 : decode code 505 = .ok (.pop, 1) := by decide +kernel
theorem dL_law_506 : decode code 506 = .ok (.goto 889, 3) := by decide +kernel
theorem dL_law_509 : decode code 509 = .ok (.aload_n 1, 1) := by decide +kernel
theorem dL_law_510 : decode code 510 = .ok (.aload_n 0, 1) := by decide +kernel
theorem dL_law_511 : decode code 511 = .ok (.iload_n 3, 1) := by decide +kernel
theorem dL_law_512 : decode code 512 = .ok (.iconst 1, 1) := by decide +kernel
theorem dL_law_513 : decode code 513 = .ok (.iadd, 1) := by decide +kernel
theorem dL_law_514 : decode code 514 = .ok (.iaload, 1) := by decide +kernel
theorem dL_law_515 : decode code 515 = .ok (.invokevirtual 53, 3) := by decide +kernel
theorem dL_law_518 : decode code 518 = .ok (.pop, 1) := by decide +kernel
theorem dL_law_519 : decode code 519 = .ok (.aload_n 2, 1) := by decide +kernel
theorem dL_law_520 : decode code 520 = .ok (.aload_n 0, 1) := by decide +kernel
theorem dL_law_521 : decode code 521 = .ok (.iload_n 3, 1) := by decide +kernel
theorem dL_law_522 : decode code 522 = .ok (.iconst 1, 1) := by decide +kernel
theorem dL_law_523 : decode code 523 = .ok (.iadd, 1) := by decide +kernel
theorem dL_law_524 : decode code 524 = .ok (.iaload, 1) := by decide +kernel
theorem dL_law_525 : decode code 525 = .ok (.invokevirtual 56, 3) := by decide +kernel
theorem dL_law_528 : decode code 528 = .ok (.pop, 1) := by decide +kernel
theorem dL_law_529 : decode code 529 = .ok (.goto 866, 3) := by decide +kernel
theorem kw_421 : Cond.methodLink "FootholdWallLaw" 13 yX11_feed ∈ gw := gw_of (tb_of 421 (by decide +kernel)) (by decide +kernel)
theorem kw_422 : Cond.instanceMethod yX11_feed ∈ gw := gw_of (tb_of 422 (by decide +kernel)) (by decide +kernel)
theorem kw_423 : Cond.selects "FootholdWall" yX11_feed yX11_feed ∈ gw := gw_of (tb_of 423 (by decide +kernel)) (by decide +kernel)
theorem kw_424 : Cond.code yX11_feed cX11_feed 6 (some (.int)) ∈ gw := gw_of (tb_of 424 (by decide +kernel)) (by decide +kernel)
theorem kw_429 : Cond.methodLink "FootholdWallLaw" 18 yX11_wall ∈ gw := gw_of (tb_of 429 (by decide +kernel)) (by decide +kernel)
theorem kw_430 : Cond.instanceMethod yX11_wall ∈ gw := gw_of (tb_of 430 (by decide +kernel)) (by decide +kernel)
theorem kw_431 : Cond.selects "FootholdWall" yX11_wall yX11_wall ∈ gw := gw_of (tb_of 431 (by decide +kernel)) (by decide +kernel)
theorem kw_432 : Cond.code yX11_wall cX11_wall 2 (some (.int)) ∈ gw := gw_of (tb_of 432 (by decide +kernel)) (by decide +kernel)
theorem kw_762 : Cond.methodLink "FootholdWallLaw" 23 yX11_fault ∈ gw := gw_of (tb_of 762 (by decide +kernel)) (by decide +kernel)
theorem kw_763 : Cond.instanceMethod yX11_fault ∈ gw := gw_of (tb_of 763 (by decide +kernel)) (by decide +kernel)
theorem kw_764 : Cond.selects "FootholdWall" yX11_fault yX11_fault ∈ gw := gw_of (tb_of 764 (by decide +kernel)) (by decide +kernel)
theorem kw_765 : Cond.code yX11_fault cX11_fault 2 (some (.int)) ∈ gw := gw_of (tb_of 765 (by decide +kernel)) (by decide +kernel)
theorem kw_766 : Cond.methodLink "FootholdWallLaw" 27 yX11_hold ∈ gw := gw_of (tb_of 766 (by decide +kernel)) (by decide +kernel)
theorem kw_767 : Cond.instanceMethod yX11_hold ∈ gw := gw_of (tb_of 767 (by decide +kernel)) (by decide +kernel)
theorem kw_768 : Cond.selects "FootholdWall" yX11_hold yX11_hold ∈ gw := gw_of (tb_of 768 (by decide +kernel)) (by decide +kernel)
theorem kw_769 : Cond.code yX11_hold cX11_hold 3 (some (.int)) ∈ gw := gw_of (tb_of 769 (by decide +kernel)) (by decide +kernel)
theorem kw_790 : Cond.methodLink "FootholdWallLaw" 32 yX11_guide ∈ gw := gw_of (tb_of 790 (by decide +kernel)) (by decide +kernel)
theorem kw_791 : Cond.instanceMethod yX11_guide ∈ gw := gw_of (tb_of 791 (by decide +kernel)) (by decide +kernel)
theorem kw_792 : Cond.selects "FootholdWall" yX11_guide yX11_guide ∈ gw := gw_of (tb_of 792 (by decide +kernel)) (by decide +kernel)
theorem kw_793 : Cond.code yX11_guide cX11_guide 3 (some (.int)) ∈ gw := gw_of (tb_of 793 (by decide +kernel)) (by decide +kernel)
theorem kw_803 : Cond.methodLink "FootholdWallLaw" 36 yX11_steps ∈ gw := gw_of (tb_of 803 (by decide +kernel)) (by decide +kernel)
theorem kw_804 : Cond.instanceMethod yX11_steps ∈ gw := gw_of (tb_of 804 (by decide +kernel)) (by decide +kernel)
theorem kw_805 : Cond.selects "FootholdWall" yX11_steps yX11_steps ∈ gw := gw_of (tb_of 805 (by decide +kernel)) (by decide +kernel)
theorem kw_806 : Cond.code yX11_steps cX11_steps 4 (some (.int)) ∈ gw := gw_of (tb_of 806 (by decide +kernel)) (by decide +kernel)
theorem kw_826 : Cond.methodLink "FootholdWallLaw" 41 yX11_reach ∈ gw := gw_of (tb_of 826 (by decide +kernel)) (by decide +kernel)
theorem kw_827 : Cond.instanceMethod yX11_reach ∈ gw := gw_of (tb_of 827 (by decide +kernel)) (by decide +kernel)
theorem kw_828 : Cond.selects "FootholdWall" yX11_reach yX11_reach ∈ gw := gw_of (tb_of 828 (by decide +kernel)) (by decide +kernel)
theorem kw_829 : Cond.code yX11_reach cX11_reach 2 (some (.int)) ∈ gw := gw_of (tb_of 829 (by decide +kernel)) (by decide +kernel)
theorem kw_867 : Cond.methodLink "FootholdWallLaw" 45 yX11_judge ∈ gw := gw_of (tb_of 867 (by decide +kernel)) (by decide +kernel)
theorem kw_868 : Cond.instanceMethod yX11_judge ∈ gw := gw_of (tb_of 868 (by decide +kernel)) (by decide +kernel)
theorem kw_869 : Cond.selects "FootholdWall" yX11_judge yX11_judge ∈ gw := gw_of (tb_of 869 (by decide +kernel)) (by decide +kernel)
theorem kw_870 : Cond.code yX11_judge cX11_judge 5 (some (.int)) ∈ gw := gw_of (tb_of 870 (by decide +kernel)) (by decide +kernel)
theorem kw_894 : Cond.methodLink "FootholdWallLaw" 49 yX11_climb ∈ gw := gw_of (tb_of 894 (by decide +kernel)) (by decide +kernel)
theorem kw_895 : Cond.instanceMethod yX11_climb ∈ gw := gw_of (tb_of 895 (by decide +kernel)) (by decide +kernel)
theorem kw_896 : Cond.selects "FootholdWall" yX11_climb yX11_climb ∈ gw := gw_of (tb_of 896 (by decide +kernel)) (by decide +kernel)
theorem kw_897 : Cond.code yX11_climb cX11_climb 4 (some (.int)) ∈ gw := gw_of (tb_of 897 (by decide +kernel)) (by decide +kernel)
theorem kw_904 : Cond.methodLink "FootholdWallLaw" 53 yX11_goes ∈ gw := gw_of (tb_of 904 (by decide +kernel)) (by decide +kernel)
theorem kw_905 : Cond.instanceMethod yX11_goes ∈ gw := gw_of (tb_of 905 (by decide +kernel)) (by decide +kernel)
theorem kw_906 : Cond.selects "FootholdWall" yX11_goes yX11_goes ∈ gw := gw_of (tb_of 906 (by decide +kernel)) (by decide +kernel)
theorem kw_907 : Cond.code yX11_goes cX11_goes 3 (some (.int)) ∈ gw := gw_of (tb_of 907 (by decide +kernel)) (by decide +kernel)
theorem kw_1333 : Cond.methodLink "FootholdWallLaw" 17 yX12_feed ∈ gw := gw_of (tb_of 1333 (by decide +kernel)) (by decide +kernel)
theorem kw_1334 : Cond.instanceMethod yX12_feed ∈ gw := gw_of (tb_of 1334 (by decide +kernel)) (by decide +kernel)
theorem kw_1335 : Cond.selects "FootholdWallModel" yX12_feed yX12_feed ∈ gw := gw_of (tb_of 1335 (by decide +kernel)) (by decide +kernel)
theorem kw_1336 : Cond.code yX12_feed cX12_feed 8 (some (.int)) ∈ gw := gw_of (tb_of 1336 (by decide +kernel)) (by decide +kernel)
theorem kw_1337 : Cond.methodLink "FootholdWallLaw" 22 yX12_wall ∈ gw := gw_of (tb_of 1337 (by decide +kernel)) (by decide +kernel)
theorem kw_1338 : Cond.instanceMethod yX12_wall ∈ gw := gw_of (tb_of 1338 (by decide +kernel)) (by decide +kernel)
theorem kw_1339 : Cond.selects "FootholdWallModel" yX12_wall yX12_wall ∈ gw := gw_of (tb_of 1339 (by decide +kernel)) (by decide +kernel)
theorem kw_1340 : Cond.code yX12_wall cX12_wall 3 (some (.int)) ∈ gw := gw_of (tb_of 1340 (by decide +kernel)) (by decide +kernel)
theorem kw_1446 : Cond.methodLink "FootholdWallLaw" 26 yX12_fault ∈ gw := gw_of (tb_of 1446 (by decide +kernel)) (by decide +kernel)
theorem kw_1447 : Cond.instanceMethod yX12_fault ∈ gw := gw_of (tb_of 1447 (by decide +kernel)) (by decide +kernel)
theorem kw_1448 : Cond.selects "FootholdWallModel" yX12_fault yX12_fault ∈ gw := gw_of (tb_of 1448 (by decide +kernel)) (by decide +kernel)
theorem kw_1449 : Cond.code yX12_fault cX12_fault 2 (some (.int)) ∈ gw := gw_of (tb_of 1449 (by decide +kernel)) (by decide +kernel)
theorem kw_1450 : Cond.methodLink "FootholdWallLaw" 31 yX12_hold ∈ gw := gw_of (tb_of 1450 (by decide +kernel)) (by decide +kernel)
theorem kw_1451 : Cond.instanceMethod yX12_hold ∈ gw := gw_of (tb_of 1451 (by decide +kernel)) (by decide +kernel)
theorem kw_1452 : Cond.selects "FootholdWallModel" yX12_hold yX12_hold ∈ gw := gw_of (tb_of 1452 (by decide +kernel)) (by decide +kernel)
theorem kw_1453 : Cond.code yX12_hold cX12_hold 3 (some (.int)) ∈ gw := gw_of (tb_of 1453 (by decide +kernel)) (by decide +kernel)
theorem kw_1466 : Cond.methodLink "FootholdWallLaw" 35 yX12_guide ∈ gw := gw_of (tb_of 1466 (by decide +kernel)) (by decide +kernel)
theorem kw_1467 : Cond.instanceMethod yX12_guide ∈ gw := gw_of (tb_of 1467 (by decide +kernel)) (by decide +kernel)
theorem kw_1468 : Cond.selects "FootholdWallModel" yX12_guide yX12_guide ∈ gw := gw_of (tb_of 1468 (by decide +kernel)) (by decide +kernel)
theorem kw_1469 : Cond.code yX12_guide cX12_guide 3 (some (.int)) ∈ gw := gw_of (tb_of 1469 (by decide +kernel)) (by decide +kernel)
theorem kw_1478 : Cond.methodLink "FootholdWallLaw" 40 yX12_steps ∈ gw := gw_of (tb_of 1478 (by decide +kernel)) (by decide +kernel)
theorem kw_1479 : Cond.instanceMethod yX12_steps ∈ gw := gw_of (tb_of 1479 (by decide +kernel)) (by decide +kernel)
theorem kw_1480 : Cond.selects "FootholdWallModel" yX12_steps yX12_steps ∈ gw := gw_of (tb_of 1480 (by decide +kernel)) (by decide +kernel)
theorem kw_1481 : Cond.code yX12_steps cX12_steps 4 (some (.int)) ∈ gw := gw_of (tb_of 1481 (by decide +kernel)) (by decide +kernel)
theorem kw_1498 : Cond.methodLink "FootholdWallLaw" 44 yX12_reach ∈ gw := gw_of (tb_of 1498 (by decide +kernel)) (by decide +kernel)
theorem kw_1499 : Cond.instanceMethod yX12_reach ∈ gw := gw_of (tb_of 1499 (by decide +kernel)) (by decide +kernel)
theorem kw_1500 : Cond.selects "FootholdWallModel" yX12_reach yX12_reach ∈ gw := gw_of (tb_of 1500 (by decide +kernel)) (by decide +kernel)
theorem kw_1501 : Cond.code yX12_reach cX12_reach 2 (some (.int)) ∈ gw := gw_of (tb_of 1501 (by decide +kernel)) (by decide +kernel)
theorem kw_1518 : Cond.methodLink "FootholdWallLaw" 48 yX12_judge ∈ gw := gw_of (tb_of 1518 (by decide +kernel)) (by decide +kernel)
theorem kw_1519 : Cond.instanceMethod yX12_judge ∈ gw := gw_of (tb_of 1519 (by decide +kernel)) (by decide +kernel)
theorem kw_1520 : Cond.selects "FootholdWallModel" yX12_judge yX12_judge ∈ gw := gw_of (tb_of 1520 (by decide +kernel)) (by decide +kernel)
theorem kw_1521 : Cond.code yX12_judge cX12_judge 5 (some (.int)) ∈ gw := gw_of (tb_of 1521 (by decide +kernel)) (by decide +kernel)
theorem kw_1540 : Cond.methodLink "FootholdWallLaw" 52 yX12_climb ∈ gw := gw_of (tb_of 1540 (by decide +kernel)) (by decide +kernel)
theorem kw_1541 : Cond.instanceMethod yX12_climb ∈ gw := gw_of (tb_of 1541 (by decide +kernel)) (by decide +kernel)
theorem kw_1542 : Cond.selects "FootholdWallModel" yX12_climb yX12_climb ∈ gw := gw_of (tb_of 1542 (by decide +kernel)) (by decide +kernel)
theorem kw_1543 : Cond.code yX12_climb cX12_climb 4 (some (.int)) ∈ gw := gw_of (tb_of 1543 (by decide +kernel)) (by decide +kernel)
theorem kw_1556 : Cond.methodLink "FootholdWallLaw" 56 yX12_goes ∈ gw := gw_of (tb_of 1556 (by decide +kernel)) (by decide +kernel)
theorem kw_1557 : Cond.instanceMethod yX12_goes ∈ gw := gw_of (tb_of 1557 (by decide +kernel)) (by decide +kernel)
theorem kw_1558 : Cond.selects "FootholdWallModel" yX12_goes yX12_goes ∈ gw := gw_of (tb_of 1558 (by decide +kernel)) (by decide +kernel)
theorem kw_1559 : Cond.code yX12_goes cX12_goes 3 (some (.int)) ∈ gw := gw_of (tb_of 1559 (by decide +kernel)) (by decide +kernel)
