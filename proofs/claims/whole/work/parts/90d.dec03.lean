theorem dl_337 : decode code 337 = .ok (.aload_n 3, 1) := by decide +kernel
theorem dl_338 : decode code 338 = .ok (.invokestatic 73, 3) := by decide +kernel
theorem dl_341 : decode code 341 = .ok (.istore 5, 2) := by decide +kernel
theorem dl_343 : decode code 343 = .ok (.aload_n 2, 1) := by decide +kernel
theorem dl_344 : decode code 344 = .ok (.aload_n 0, 1) := by decide +kernel
theorem dl_345 : decode code 345 = .ok (.iload 4, 2) := by decide +kernel
theorem dl_347 : decode code 347 = .ok (.iconst 1, 1) := by decide +kernel
theorem dl_348 : decode code 348 = .ok (.iadd, 1) := by decide +kernel
theorem dl_349 : decode code 349 = .ok (.iaload, 1) := by decide +kernel
theorem dl_350 : decode code 350 = .ok (.aload_n 0, 1) := by decide +kernel
theorem dl_351 : decode code 351 = .ok (.iload 4, 2) := by decide +kernel
theorem dl_353 : decode code 353 = .ok (.iconst 2, 1) := by decide +kernel
theorem dl_354 : decode code 354 = .ok (.iadd, 1) := by decide +kernel
theorem dl_355 : decode code 355 = .ok (.iaload, 1) := by decide +kernel
theorem dl_356 : decode code 356 = .ok (.invokevirtual 75, 3) := by decide +kernel
theorem dl_359 : decode code 359 = .ok (.istore 6, 2) := by decide +kernel
theorem dl_361 : decode code 361 = .ok (.aload_n 2, 1) := by decide +kernel
theorem dl_362 : decode code 362 = .ok (.invokevirtual 62, 3) := by decide +kernel
theorem dl_365 : decode code 365 = .ok (.iload 5, 2) := by decide +kernel
theorem dl_367 : decode code 367 = .ok (.if_icmp .eq 5, 3) := by decide +kernel
theorem dl_370 : decode code 370 = .ok (.iconst 0, 1) := by decide +kernel
theorem dl_371 : decode code 371 = .ok (.ireturn, 1) := by decide +kernel
theorem dl_372 : decode code 372 = .ok (.iload 5, 2) := by decide +kernel
theorem dl_374 : decode code 374 = .ok (.ifCond .ne 15, 3) := by decide +kernel
theorem dl_377 : decode code 377 = .ok (.aload_n 3, 1) := by decide +kernel
theorem dl_378 : decode code 378 = .ok (.iconst 0, 1) := by decide +kernel
theorem dl_379 : decode code 379 = .ok (.laload, 1) := by decide +kernel
theorem dl_380 : decode code 380 = .ok (.iload 6, 2) := by decide +kernel
theorem dl_382 : decode code 382 = .ok (.i2l, 1) := by decide +kernel
theorem dl_383 : decode code 383 = .ok (.lcmp, 1) := by decide +kernel
theorem dl_384 : decode code 384 = .ok (.ifCond .eq 5, 3) := by decide +kernel
theorem dl_387 : decode code 387 = .ok (.iconst 0, 1) := by decide +kernel
theorem dl_388 : decode code 388 = .ok (.ireturn, 1) := by decide +kernel
theorem dl_389 : decode code 389 = .ok (.goto 513, 3) := by decide +kernel
theorem dl_392 : decode code 392 = .ok (.aload_n 1, 1) := by decide +kernel
theorem dl_393 : decode code 393 = .ok (.aload_n 0, 1) := by decide +kernel
theorem dl_394 : decode code 394 = .ok (.iload 4, 2) := by decide +kernel
theorem dl_396 : decode code 396 = .ok (.iconst 1, 1) := by decide +kernel
theorem dl_397 : decode code 397 = .ok (.iadd, 1) := by decide +kernel
theorem dl_398 : decode code 398 = .ok (.iaload, 1) := by decide +kernel
theorem dl_399 : decode code 399 = .ok (.aload_n 0, 1) := by decide +kernel
theorem dl_400 : decode code 400 = .ok (.iload 4, 2) := by decide +kernel
theorem dl_402 : decode code 402 = .ok (.iconst 2, 1) := by decide +kernel
theorem dl_403 : decode code 403 = .ok (.iadd, 1) := by decide +kernel
theorem dl_404 : decode code 404 = .ok (.iaload, 1) := by decide +kernel
theorem dl_405 : decode code 405 = .ok (.aload_n 3, 1) := by decide +kernel
theorem dl_406 : decode code 406 = .ok (.invokestatic 76, 3) := by decide +kernel
theorem dl_409 : decode code 409 = .ok (.istore 5, 2) := by decide +kernel
theorem dl_411 : decode code 411 = .ok (.aload_n 2, 1) := by decide +kernel
theorem dl_412 : decode code 412 = .ok (.aload_n 0, 1) := by decide +kernel
theorem dl_413 : decode code 413 = .ok (.iload 4, 2) := by decide +kernel
theorem dl_415 : decode code 415 = .ok (.iconst 1, 1) := by decide +kernel
theorem dl_416 : decode code 416 = .ok (.iadd, 1) := by decide +kernel
theorem dl_417 : decode code 417 = .ok (.iaload, 1) := by decide +kernel
theorem dl_418 : decode code 418 = .ok (.aload_n 0, 1) := by decide +kernel
theorem dl_419 : decode code 419 = .ok (.iload 4, 2) := by decide +kernel
theorem dl_421 : decode code 421 = .ok (.iconst 2, 1) := by decide +kernel
theorem dl_422 : decode code 422 = .ok (.iadd, 1) := by decide +kernel
theorem dl_423 : decode code 423 = .ok (.iaload, 1) := by decide +kernel
theorem dl_424 : decode code 424 = .ok (.invokevirtual 78, 3) := by decide +kernel
