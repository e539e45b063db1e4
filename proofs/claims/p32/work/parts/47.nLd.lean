theorem dL_holds_342 : decode cL_holds 342 = .ok (.iconst 3, 1) := by decide +kernel
theorem dL_holds_343 : decode cL_holds 343 = .ok (.iaload, 1) := by decide +kernel
theorem dL_holds_344 : decode cL_holds 344 = .ok (.ifCond .lt 27, 3) := by decide +kernel
theorem dL_holds_347 : decode cL_holds 347 = .ok (.iload 9, 2) := by decide +kernel
theorem dL_holds_349 : decode cL_holds 349 = .ok (.iconst 4, 1) := by decide +kernel
theorem dL_holds_350 : decode cL_holds 350 = .ok (.irem, 1) := by decide +kernel
theorem dL_holds_351 : decode cL_holds 351 = .ok (.ifCond .le 20, 3) := by decide +kernel
theorem dL_holds_354 : decode cL_holds 354 = .ok (.aload_n 1, 1) := by decide +kernel
theorem dL_holds_355 : decode cL_holds 355 = .ok (.aload 5, 2) := by decide +kernel
theorem dL_holds_357 : decode cL_holds 357 = .ok (.aload_n 2, 1) := by decide +kernel
theorem dL_holds_358 : decode cL_holds 358 = .ok (.aload_n 3, 1) := by decide +kernel
theorem dL_holds_359 : decode cL_holds 359 = .ok (.aload 4, 2) := by decide +kernel
theorem dL_holds_361 : decode cL_holds 361 = .ok (.bipush 9, 2) := by decide +kernel
theorem dL_holds_363 : decode cL_holds 363 = .ok (.iload 9, 2) := by decide +kernel
theorem dL_holds_365 : decode cL_holds 365 = .ok (.invokestatic 181, 3) := by decide +kernel
theorem dL_holds_368 : decode cL_holds 368 = .ok (.goto 13, 3) := by decide +kernel
theorem dL_holds_371 : decode cL_holds 371 = .ok (.aload_n 1, 1) := by decide +kernel
theorem dL_holds_372 : decode cL_holds 372 = .ok (.aload 5, 2) := by decide +kernel
theorem dL_holds_374 : decode cL_holds 374 = .ok (.aload_n 2, 1) := by decide +kernel
theorem dL_holds_375 : decode cL_holds 375 = .ok (.aload_n 3, 1) := by decide +kernel
theorem dL_holds_376 : decode cL_holds 376 = .ok (.aload 4, 2) := by decide +kernel
theorem dL_holds_378 : decode cL_holds 378 = .ok (.invokestatic 193, 3) := by decide +kernel
theorem dL_holds_381 : decode cL_holds 381 = .ok (.istore 6, 2) := by decide +kernel
theorem dL_holds_383 : decode cL_holds 383 = .ok (.iload 6, 2) := by decide +kernel
theorem dL_holds_385 : decode cL_holds 385 = .ok (.ifCond .eq 18, 3) := by decide +kernel
theorem dL_holds_388 : decode cL_holds 388 = .ok (.aload_n 1, 1) := by decide +kernel
theorem dL_holds_389 : decode cL_holds 389 = .ok (.aload_n 2, 1) := by decide +kernel
theorem dL_holds_390 : decode cL_holds 390 = .ok (.aload_n 3, 1) := by decide +kernel
theorem dL_holds_391 : decode cL_holds 391 = .ok (.aload 4, 2) := by decide +kernel
theorem dL_holds_393 : decode cL_holds 393 = .ok (.invokestatic 196, 3) := by decide +kernel
theorem dL_holds_396 : decode cL_holds 396 = .ok (.ifCond .eq 7, 3) := by decide +kernel
theorem dL_holds_399 : decode cL_holds 399 = .ok (.iconst 1, 1) := by decide +kernel
theorem dL_holds_400 : decode cL_holds 400 = .ok (.goto 4, 3) := by decide +kernel
theorem dL_holds_403 : decode cL_holds 403 = .ok (.iconst 0, 1) := by decide +kernel
theorem dL_holds_404 : decode cL_holds 404 = .ok (.istore 6, 2) := by decide +kernel
theorem dL_holds_406 : decode cL_holds 406 = .ok (.iinc 7 1, 3) := by decide +kernel
theorem dL_holds_409 : decode cL_holds 409 = .ok (.goto (-296), 3) := by decide +kernel
theorem dL_holds_412 : decode cL_holds 412 = .ok (.iload 6, 2) := by decide +kernel
theorem dL_holds_414 : decode cL_holds 414 = .ok (.ireturn, 1) := by decide +kernel
theorem dL_isHeld_0 : decode cL_isHeld 0 = .ok (.aload_n 0, 1) := by decide +kernel
theorem dL_isHeld_1 : decode cL_isHeld 1 = .ok (.invokestatic 200, 3) := by decide +kernel
theorem dL_isHeld_4 : decode cL_isHeld 4 = .ok (.ireturn, 1) := by decide +kernel
theorem dL_isHeld_5 : decode cL_isHeld 5 = .ok (.astore_n 1, 1) := by decide +kernel
theorem dL_isHeld_6 : decode cL_isHeld 6 = .ok (.iconst 0, 1) := by decide +kernel
theorem dL_isHeld_7 : decode cL_isHeld 7 = .ok (.ireturn, 1) := by decide +kernel
theorem dL_isHeld_8 : decode cL_isHeld 8 = .ok (.astore_n 1, 1) := by decide +kernel
theorem dL_isHeld_9 : decode cL_isHeld 9 = .ok (.iconst 0, 1) := by decide +kernel
theorem dL_isHeld_10 : decode cL_isHeld 10 = .ok (.ireturn, 1) := by decide +kernel
theorem dL_isHeld_11 : decode cL_isHeld 11 = .ok (.astore_n 1, 1) := by decide +kernel
theorem dL_isHeld_12 : decode cL_isHeld 12 = .ok (.iconst 0, 1) := by decide +kernel
theorem dL_isHeld_13 : decode cL_isHeld 13 = .ok (.ireturn, 1) := by decide +kernel
theorem dL_law_0 : decode cL_law 0 = .ok (.aload_n 0, 1) := by decide +kernel
theorem dL_law_1 : decode cL_law 1 = .ok (.invokestatic 205, 3) := by decide +kernel
theorem dL_law_4 : decode cL_law 4 = .ok (.ireturn, 1) := by decide +kernel
