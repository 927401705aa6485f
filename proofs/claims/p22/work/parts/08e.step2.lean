theorem dL_isStep_341 : decode cL_isStep 341 = .ok (.iload 11, 2) := by decide +kernel
theorem dL_isStep_343 : decode cL_isStep 343 = .ok (.if_icmp .ne 57, 3) := by decide +kernel
theorem dL_isStep_346 : decode cL_isStep 346 = .ok (.aload_n 0, 1) := by decide +kernel
theorem dL_isStep_347 : decode cL_isStep 347 = .ok (.bipush 14, 2) := by decide +kernel
theorem dL_isStep_349 : decode cL_isStep 349 = .ok (.invokevirtual 19, 3) := by decide +kernel
theorem dL_isStep_352 : decode cL_isStep 352 = .ok (.iload 9, 2) := by decide +kernel
theorem dL_isStep_354 : decode cL_isStep 354 = .ok (.if_icmp .ne 7, 3) := by decide +kernel
theorem dL_isStep_357 : decode cL_isStep 357 = .ok (.iconst 1, 1) := by decide +kernel
theorem dL_isStep_358 : decode cL_isStep 358 = .ok (.goto 4, 3) := by decide +kernel
theorem dL_isStep_361 : decode cL_isStep 361 = .ok (.iconst 0, 1) := by decide +kernel
theorem dL_isStep_362 : decode cL_isStep 362 = .ok (.iload 8, 2) := by decide +kernel
theorem dL_isStep_364 : decode cL_isStep 364 = .ok (.ifCond .lt 10, 3) := by decide +kernel
theorem dL_isStep_367 : decode cL_isStep 367 = .ok (.iload 8, 2) := by decide +kernel
theorem dL_isStep_369 : decode cL_isStep 369 = .ok (.iload 6, 2) := by decide +kernel
theorem dL_isStep_371 : decode cL_isStep 371 = .ok (.if_icmp .le 7, 3) := by decide +kernel
theorem dL_isStep_374 : decode cL_isStep 374 = .ok (.iconst 1, 1) := by decide +kernel
theorem dL_isStep_375 : decode cL_isStep 375 = .ok (.goto 4, 3) := by decide +kernel
theorem dL_isStep_378 : decode cL_isStep 378 = .ok (.iconst 0, 1) := by decide +kernel
theorem dL_isStep_379 : decode cL_isStep 379 = .ok (.if_icmp .ne 21, 3) := by decide +kernel
theorem dL_isStep_382 : decode cL_isStep 382 = .ok (.aload_n 0, 1) := by decide +kernel
theorem dL_isStep_383 : decode cL_isStep 383 = .ok (.bipush 14, 2) := by decide +kernel
theorem dL_isStep_385 : decode cL_isStep 385 = .ok (.invokevirtual 19, 3) := by decide +kernel
theorem dL_isStep_388 : decode cL_isStep 388 = .ok (.iload 9, 2) := by decide +kernel
theorem dL_isStep_390 : decode cL_isStep 390 = .ok (.iand, 1) := by decide +kernel
theorem dL_isStep_391 : decode cL_isStep 391 = .ok (.iload 9, 2) := by decide +kernel
theorem dL_isStep_393 : decode cL_isStep 393 = .ok (.if_icmp .ne 7, 3) := by decide +kernel
theorem dL_isStep_396 : decode cL_isStep 396 = .ok (.iconst 1, 1) := by decide +kernel
theorem dL_isStep_397 : decode cL_isStep 397 = .ok (.goto 4, 3) := by decide +kernel
theorem dL_isStep_400 : decode cL_isStep 400 = .ok (.iconst 0, 1) := by decide +kernel
theorem dL_isStep_401 : decode cL_isStep 401 = .ok (.ireturn, 1) := by decide +kernel
theorem dL_isStep_402 : decode cL_isStep 402 = .ok (.iload_n 3, 1) := by decide +kernel
theorem dL_isStep_403 : decode cL_isStep 403 = .ok (.iload 4, 2) := by decide +kernel
theorem dL_isStep_405 : decode cL_isStep 405 = .ok (.iconst 2, 1) := by decide +kernel
theorem dL_isStep_406 : decode cL_isStep 406 = .ok (.invokestatic 23, 3) := by decide +kernel
theorem dL_isStep_409 : decode cL_isStep 409 = .ok (.ifCond .ne 9, 3) := by decide +kernel
theorem dL_isStep_412 : decode cL_isStep 412 = .ok (.sipush 1000, 3) := by decide +kernel
theorem dL_isStep_415 : decode cL_isStep 415 = .ok (.goto 4, 3) := by decide +kernel
theorem dL_isStep_418 : decode cL_isStep 418 = .ok (.iconst 4, 1) := by decide +kernel
theorem dL_isStep_419 : decode cL_isStep 419 = .ok (.invokestatic 23, 3) := by decide +kernel
theorem dL_isStep_422 : decode cL_isStep 422 = .ok (.istore 6, 2) := by decide +kernel
theorem dL_isStep_424 : decode cL_isStep 424 = .ok (.aload_n 0, 1) := by decide +kernel
theorem dL_isStep_425 : decode cL_isStep 425 = .ok (.iconst 4, 1) := by decide +kernel
theorem dL_isStep_426 : decode cL_isStep 426 = .ok (.invokevirtual 19, 3) := by decide +kernel
theorem dL_isStep_429 : decode cL_isStep 429 = .ok (.istore 7, 2) := by decide +kernel
theorem dL_isStep_431 : decode cL_isStep 431 = .ok (.aload_n 0, 1) := by decide +kernel
theorem dL_isStep_432 : decode cL_isStep 432 = .ok (.iconst 5, 1) := by decide +kernel
theorem dL_isStep_433 : decode cL_isStep 433 = .ok (.invokevirtual 19, 3) := by decide +kernel
theorem dL_isStep_436 : decode cL_isStep 436 = .ok (.istore 8, 2) := by decide +kernel
theorem dL_isStep_438 : decode cL_isStep 438 = .ok (.aload_n 0, 1) := by decide +kernel
theorem dL_isStep_439 : decode cL_isStep 439 = .ok (.bipush 6, 2) := by decide +kernel
theorem dL_isStep_441 : decode cL_isStep 441 = .ok (.invokevirtual 19, 3) := by decide +kernel
theorem dL_isStep_444 : decode cL_isStep 444 = .ok (.istore 9, 2) := by decide +kernel
theorem dL_isStep_446 : decode cL_isStep 446 = .ok (.aload_n 0, 1) := by decide +kernel
theorem dL_isStep_447 : decode cL_isStep 447 = .ok (.iload 6, 2) := by decide +kernel
theorem dL_isStep_449 : decode cL_isStep 449 = .ok (.invokevirtual 50, 3) := by decide +kernel
theorem dL_isStep_452 : decode cL_isStep 452 = .ok (.iload 7, 2) := by decide +kernel
theorem dL_isStep_454 : decode cL_isStep 454 = .ok (.if_icmp .ne 61, 3) := by decide +kernel
theorem dL_isStep_457 : decode cL_isStep 457 = .ok (.aload_n 1, 1) := by decide +kernel
theorem dL_isStep_458 : decode cL_isStep 458 = .ok (.iload 6, 2) := by decide +kernel
theorem dL_isStep_460 : decode cL_isStep 460 = .ok (.invokevirtual 50, 3) := by decide +kernel
theorem dL_isStep_463 : decode cL_isStep 463 = .ok (.iload 7, 2) := by decide +kernel
theorem dL_isStep_465 : decode cL_isStep 465 = .ok (.if_icmp .ne 50, 3) := by decide +kernel
theorem dL_isStep_468 : decode cL_isStep 468 = .ok (.aload_n 0, 1) := by decide +kernel
theorem dL_isStep_469 : decode cL_isStep 469 = .ok (.iconst 4, 1) := by decide +kernel
theorem dL_isStep_470 : decode cL_isStep 470 = .ok (.invokevirtual 19, 3) := by decide +kernel
theorem dL_isStep_473 : decode cL_isStep 473 = .ok (.iload 6, 2) := by decide +kernel
theorem dL_isStep_475 : decode cL_isStep 475 = .ok (.if_icmp .ne 40, 3) := by decide +kernel
theorem dL_isStep_478 : decode cL_isStep 478 = .ok (.aload_n 0, 1) := by decide +kernel
theorem dL_isStep_479 : decode cL_isStep 479 = .ok (.iconst 5, 1) := by decide +kernel
theorem dL_isStep_480 : decode cL_isStep 480 = .ok (.invokevirtual 19, 3) := by decide +kernel
theorem dL_isStep_483 : decode cL_isStep 483 = .ok (.iload 6, 2) := by decide +kernel
theorem dL_isStep_485 : decode cL_isStep 485 = .ok (.iload 8, 2) := by decide +kernel
theorem dL_isStep_487 : decode cL_isStep 487 = .ok (.if_icmp .le 8, 3) := by decide +kernel
theorem dL_isStep_490 : decode cL_isStep 490 = .ok (.iload 6, 2) := by decide +kernel
theorem dL_isStep_492 : decode cL_isStep 492 = .ok (.goto 5, 3) := by decide +kernel
theorem dL_isStep_495 : decode cL_isStep 495 = .ok (.iload 8, 2) := by decide +kernel
theorem dL_isStep_497 : decode cL_isStep 497 = .ok (.if_icmp .ne 18, 3) := by decide +kernel
theorem dL_isStep_500 : decode cL_isStep 500 = .ok (.aload_n 0, 1) := by decide +kernel
theorem dL_isStep_501 : decode cL_isStep 501 = .ok (.bipush 6, 2) := by decide +kernel
theorem dL_isStep_503 : decode cL_isStep 503 = .ok (.invokevirtual 19, 3) := by decide +kernel
theorem dL_isStep_506 : decode cL_isStep 506 = .ok (.iload 9, 2) := by decide +kernel
theorem dL_isStep_508 : decode cL_isStep 508 = .ok (.if_icmp .ne 7, 3) := by decide +kernel
