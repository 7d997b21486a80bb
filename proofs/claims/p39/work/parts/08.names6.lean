theorem dL_act_352 : decode cL_act 352 = .ok (.ireturn, 1) := by decide +kernel
theorem dL_act_353 : decode cL_act 353 = .ok (.aload_n 1, 1) := by decide +kernel
theorem dL_act_354 : decode cL_act 354 = .ok (.getfield 62, 3) := by decide +kernel
theorem dL_act_357 : decode cL_act 357 = .ok (.arraylength, 1) := by decide +kernel
theorem dL_act_358 : decode cL_act 358 = .ok (.bipush 6, 2) := by decide +kernel
theorem dL_act_360 : decode cL_act 360 = .ok (.if_icmp .ge 7, 3) := by decide +kernel
theorem dL_act_363 : decode cL_act 363 = .ok (.iconst 1, 1) := by decide +kernel
theorem dL_act_364 : decode cL_act 364 = .ok (.goto 4, 3) := by decide +kernel
theorem dL_act_367 : decode cL_act 367 = .ok (.iconst 0, 1) := by decide +kernel
theorem dL_act_368 : decode cL_act 368 = .ok (.istore 5, 2) := by decide +kernel
theorem dL_act_370 : decode cL_act 370 = .ok (.iload_n 2, 1) := by decide +kernel
theorem dL_act_371 : decode cL_act 371 = .ok (.iconst 3, 1) := by decide +kernel
theorem dL_act_372 : decode cL_act 372 = .ok (.ishr, 1) := by decide +kernel
theorem dL_act_373 : decode cL_act 373 = .ok (.iconst 5, 1) := by decide +kernel
theorem dL_act_374 : decode cL_act 374 = .ok (.invokestatic 15, 3) := by decide +kernel
theorem dL_act_377 : decode cL_act 377 = .ok (.istore 6, 2) := by decide +kernel
theorem dL_act_379 : decode cL_act 379 = .ok (.iconst 2, 1) := by decide +kernel
theorem dL_act_380 : decode cL_act 380 = .ok (.iload_n 2, 1) := by decide +kernel
theorem dL_act_381 : decode cL_act 381 = .ok (.iconst 5, 1) := by decide +kernel
theorem dL_act_382 : decode cL_act 382 = .ok (.ishr, 1) := by decide +kernel
theorem dL_act_383 : decode cL_act 383 = .ok (.bipush 98, 2) := by decide +kernel
theorem dL_act_385 : decode cL_act 385 = .ok (.invokestatic 15, 3) := by decide +kernel
theorem dL_act_388 : decode cL_act 388 = .ok (.iadd, 1) := by decide +kernel
theorem dL_act_389 : decode cL_act 389 = .ok (.istore 7, 2) := by decide +kernel
theorem dL_act_391 : decode cL_act 391 = .ok (.iconst 1, 1) := by decide +kernel
theorem dL_act_392 : decode cL_act 392 = .ok (.iload_n 2, 1) := by decide +kernel
theorem dL_act_393 : decode cL_act 393 = .ok (.bipush 6, 2) := by decide +kernel
theorem dL_act_395 : decode cL_act 395 = .ok (.ishr, 1) := by decide +kernel
theorem dL_act_396 : decode cL_act 396 = .ok (.bipush 9, 2) := by decide +kernel
theorem dL_act_398 : decode cL_act 398 = .ok (.invokestatic 15, 3) := by decide +kernel
theorem dL_act_401 : decode cL_act 401 = .ok (.iadd, 1) := by decide +kernel
theorem dL_act_402 : decode cL_act 402 = .ok (.istore 8, 2) := by decide +kernel
theorem dL_act_404 : decode cL_act 404 = .ok (.iload 5, 2) := by decide +kernel
theorem dL_act_406 : decode cL_act 406 = .ok (.ifCond .eq 41, 3) := by decide +kernel
theorem dL_act_409 : decode cL_act 409 = .ok (.aload_n 1, 1) := by decide +kernel
theorem dL_act_410 : decode cL_act 410 = .ok (.aload_n 1, 1) := by decide +kernel
theorem dL_act_411 : decode cL_act 411 = .ok (.getfield 62, 3) := by decide +kernel
theorem dL_act_414 : decode cL_act 414 = .ok (.iconst 5, 1) := by decide +kernel
theorem dL_act_415 : decode cL_act 415 = .ok (.newarray .int, 2) := by decide +kernel
theorem dL_act_417 : decode cL_act 417 = .ok (.dup, 1) := by decide +kernel
theorem dL_act_418 : decode cL_act 418 = .ok (.iconst 0, 1) := by decide +kernel
theorem dL_act_419 : decode cL_act 419 = .ok (.bipush 30, 2) := by decide +kernel
theorem dL_act_421 : decode cL_act 421 = .ok (.iastore, 1) := by decide +kernel
theorem dL_act_422 : decode cL_act 422 = .ok (.dup, 1) := by decide +kernel
theorem dL_act_423 : decode cL_act 423 = .ok (.iconst 1, 1) := by decide +kernel
theorem dL_act_424 : decode cL_act 424 = .ok (.iconst (-1), 1) := by decide +kernel
theorem dL_act_425 : decode cL_act 425 = .ok (.iastore, 1) := by decide +kernel
theorem dL_act_426 : decode cL_act 426 = .ok (.dup, 1) := by decide +kernel
theorem dL_act_427 : decode cL_act 427 = .ok (.iconst 2, 1) := by decide +kernel
theorem dL_act_428 : decode cL_act 428 = .ok (.iload 6, 2) := by decide +kernel
theorem dL_act_430 : decode cL_act 430 = .ok (.iastore, 1) := by decide +kernel
theorem dL_act_431 : decode cL_act 431 = .ok (.dup, 1) := by decide +kernel
theorem dL_act_432 : decode cL_act 432 = .ok (.iconst 3, 1) := by decide +kernel
theorem dL_act_433 : decode cL_act 433 = .ok (.iload 7, 2) := by decide +kernel
theorem dL_act_435 : decode cL_act 435 = .ok (.iastore, 1) := by decide +kernel
theorem dL_act_436 : decode cL_act 436 = .ok (.dup, 1) := by decide +kernel
theorem dL_act_437 : decode cL_act 437 = .ok (.iconst 4, 1) := by decide +kernel
theorem dL_act_438 : decode cL_act 438 = .ok (.iload 8, 2) := by decide +kernel
theorem dL_act_440 : decode cL_act 440 = .ok (.iastore, 1) := by decide +kernel
theorem dL_act_441 : decode cL_act 441 = .ok (.invokestatic 21, 3) := by decide +kernel
theorem dL_act_444 : decode cL_act 444 = .ok (.putfield 62, 3) := by decide +kernel
theorem dL_act_447 : decode cL_act 447 = .ok (.aload_n 0, 1) := by decide +kernel
theorem dL_act_448 : decode cL_act 448 = .ok (.iload 6, 2) := by decide +kernel
theorem dL_act_450 : decode cL_act 450 = .ok (.iload 7, 2) := by decide +kernel
theorem dL_act_452 : decode cL_act 452 = .ok (.iload 8, 2) := by decide +kernel
theorem dL_act_454 : decode cL_act 454 = .ok (.invokevirtual 65, 3) := by decide +kernel
theorem dL_act_457 : decode cL_act 457 = .ok (.aload_n 1, 1) := by decide +kernel
theorem dL_act_458 : decode cL_act 458 = .ok (.getfield 62, 3) := by decide +kernel
theorem dL_act_461 : decode cL_act 461 = .ok (.arraylength, 1) := by decide +kernel
theorem dL_act_462 : decode cL_act 462 = .ok (.iconst 1, 1) := by decide +kernel
theorem dL_act_463 : decode cL_act 463 = .ok (.isub, 1) := by decide +kernel
theorem dL_act_464 : decode cL_act 464 = .ok (.if_icmp .ne 12, 3) := by decide +kernel
theorem dL_act_467 : decode cL_act 467 = .ok (.iload 5, 2) := by decide +kernel
theorem dL_act_469 : decode cL_act 469 = .ok (.ifCond .eq 7, 3) := by decide +kernel
theorem dL_act_472 : decode cL_act 472 = .ok (.iconst 1, 1) := by decide +kernel
theorem dL_act_473 : decode cL_act 473 = .ok (.goto 4, 3) := by decide +kernel
theorem dL_act_476 : decode cL_act 476 = .ok (.iconst 0, 1) := by decide +kernel
theorem dL_act_477 : decode cL_act 477 = .ok (.ireturn, 1) := by decide +kernel
theorem dL_act_478 : decode cL_act 478 = .ok (.iconst 1, 1) := by decide +kernel
theorem dL_act_479 : decode cL_act 479 = .ok (.iload_n 2, 1) := by decide +kernel
theorem dL_act_480 : decode cL_act 480 = .ok (.iconst 4, 1) := by decide +kernel
theorem dL_act_481 : decode cL_act 481 = .ok (.ishr, 1) := by decide +kernel
theorem dL_act_482 : decode cL_act 482 = .ok (.iload_n 2, 1) := by decide +kernel
theorem dL_act_483 : decode cL_act 483 = .ok (.bipush 7, 2) := by decide +kernel
theorem dL_act_485 : decode cL_act 485 = .ok (.ishr, 1) := by decide +kernel
theorem dL_act_486 : decode cL_act 486 = .ok (.iconst 5, 1) := by decide +kernel
theorem dL_act_487 : decode cL_act 487 = .ok (.invokestatic 15, 3) := by decide +kernel
theorem dL_act_490 : decode cL_act 490 = .ok (.ifCond .ne 8, 3) := by decide +kernel
theorem dL_act_493 : decode cL_act 493 = .ok (.bipush 60, 2) := by decide +kernel
theorem dL_act_495 : decode cL_act 495 = .ok (.goto 4, 3) := by decide +kernel
theorem dL_act_498 : decode cL_act 498 = .ok (.iconst 4, 1) := by decide +kernel
theorem dL_act_499 : decode cL_act 499 = .ok (.invokestatic 15, 3) := by decide +kernel
theorem dL_act_502 : decode cL_act 502 = .ok (.iadd, 1) := by decide +kernel
theorem dL_act_503 : decode cL_act 503 = .ok (.istore 6, 2) := by decide +kernel
theorem dL_act_505 : decode cL_act 505 = .ok (.aload_n 0, 1) := by decide +kernel
theorem dL_act_506 : decode cL_act 506 = .ok (.iload 6, 2) := by decide +kernel
theorem dL_act_508 : decode cL_act 508 = .ok (.invokevirtual 69, 3) := by decide +kernel
theorem dL_act_511 : decode cL_act 511 = .ok (.aload_n 1, 1) := by decide +kernel
theorem dL_act_512 : decode cL_act 512 = .ok (.iload 6, 2) := by decide +kernel
theorem dL_act_514 : decode cL_act 514 = .ok (.invokevirtual 72, 3) := by decide +kernel
theorem dL_act_517 : decode cL_act 517 = .ok (.if_icmp .ne 7, 3) := by decide +kernel
theorem dL_act_520 : decode cL_act 520 = .ok (.iconst 1, 1) := by decide +kernel
theorem dL_act_521 : decode cL_act 521 = .ok (.goto 4, 3) := by decide +kernel
theorem dL_act_524 : decode cL_act 524 = .ok (.iconst 0, 1) := by decide +kernel
theorem dL_act_525 : decode cL_act 525 = .ok (.ireturn, 1) := by decide +kernel
theorem dL_act_526 : decode cL_act 526 = .ok (.astore 6, 2) := by decide +kernel
theorem dL_act_528 : decode cL_act 528 = .ok (.iload 5, 2) := by decide +kernel
theorem dL_act_530 : decode cL_act 530 = .ok (.ifCond .ne 7, 3) := by decide +kernel
theorem dL_act_533 : decode cL_act 533 = .ok (.iconst 1, 1) := by decide +kernel
theorem dL_act_534 : decode cL_act 534 = .ok (.goto 4, 3) := by decide +kernel
theorem dL_act_537 : decode cL_act 537 = .ok (.iconst 0, 1) := by decide +kernel
theorem dL_act_538 : decode cL_act 538 = .ok (.ireturn, 1) := by decide +kernel
set_option maxRecDepth 20000 in
theorem ggL_build_X4_init : GoodIn wsL_build wsX4_init := goodIn_r _ [11, 12, 13, 14, 15, 16, 17, 18, 19, 20, 101, 102, 103, 104, 105, 106, 107, 108, 109] (by decide +kernel) (by decide +kernel)
set_option maxRecDepth 20000 in
theorem gL_build_X4_init_n75 : GoodIn wsL_build (wsX4_init) := ggL_build_X4_init
set_option maxRecDepth 20000 in
theorem ggL_build_L_cell : GoodIn wsL_build wsL_cell := goodIn_r _ [24, 25] (by decide +kernel) (by decide +kernel)
set_option maxRecDepth 20000 in
theorem gL_build_L_cell : GoodIn wsL_build (va_wsS RL 76 yL_cell wsL_cell) := goodIn_app (goodIn_of _ (by decide +kernel)) ggL_build_L_cell
set_option maxRecDepth 20000 in
theorem ggL_build_L_below : GoodIn wsL_build wsL_below := goodIn_r _ [28, 29] (by decide +kernel) (by decide +kernel)
set_option maxRecDepth 20000 in
theorem gL_build_L_below : GoodIn wsL_build (va_wsS RL 15 yL_below wsL_below) := goodIn_app (goodIn_of _ (by decide +kernel)) ggL_build_L_below
set_option maxRecDepth 20000 in
theorem ggL_build_X3_setGear : GoodIn wsL_build wsX3_setGear := goodIn_ca (goodIn_r _ [34, 35, 36, 37, 38, 110, 111, 112, 113, 114, 115, 116, 117, 118, 119, 120] (by decide +kernel) (by decide +kernel)) (goodIn_sub (fun _ h => List.mem_cons_of_mem _ (List.mem_append_left _ (List.mem_append_right _ h))) (by decide +kernel))
set_option maxRecDepth 20000 in
theorem gL_build_X3_setGear : GoodIn wsL_build (wsV RL 47 RX3 yX3_setGear wsX3_setGear) := goodIn_app (goodIn_of _ (by decide +kernel)) ggL_build_X3_setGear
set_option maxRecDepth 20000 in
theorem ggL_build_X3_setStones : GoodIn wsL_build wsX3_setStones := goodIn_ca (goodIn_r _ [42, 35, 36, 37, 43, 110, 111, 112, 113, 114, 115, 116, 117, 118, 119, 120] (by decide +kernel) (by decide +kernel)) (goodIn_sub (fun _ h => List.mem_cons_of_mem _ (List.mem_append_left _ (List.mem_append_right _ h))) (by decide +kernel))
set_option maxRecDepth 20000 in
theorem gL_build_X3_setStones : GoodIn wsL_build (wsV RL 53 RX3 yX3_setStones wsX3_setStones) := goodIn_app (goodIn_of _ (by decide +kernel)) ggL_build_X3_setStones
set_option maxRecDepth 20000 in
theorem ggL_build_X3_setMesh : GoodIn wsL_build wsX3_setMesh := goodIn_ca (goodIn_r _ [47, 35, 36, 37, 48, 110, 111, 112, 113, 114, 115, 116, 117, 118, 119, 120] (by decide +kernel) (by decide +kernel)) (goodIn_sub (fun _ h => List.mem_cons_of_mem _ (List.mem_append_left _ (List.mem_append_right _ h))) (by decide +kernel))
set_option maxRecDepth 20000 in
theorem gL_build_X3_setMesh : GoodIn wsL_build (wsV RL 59 RX3 yX3_setMesh wsX3_setMesh) := goodIn_app (goodIn_of _ (by decide +kernel)) ggL_build_X3_setMesh
set_option maxRecDepth 20000 in
theorem ggL_build_X4_with : GoodIn wsL_build wsX4_with := goodIn_r _ [51, 18] (by decide +kernel) (by decide +kernel)
set_option maxRecDepth 20000 in
theorem gL_build_X4_with : GoodIn wsL_build (va_wsS RL 21 yX4_with wsX4_with) := goodIn_app (goodIn_of _ (by decide +kernel)) ggL_build_X4_with
set_option maxRecDepth 20000 in
theorem ggL_build_X3_put : GoodIn wsL_build wsX3_put := goodIn_ca (goodIn_ca (goodIn_r _ [55, 56, 57, 37, 58, 59, 60, 61, 33, 62, 35, 36, 63, 64, 65, 66, 67, 68, 69, 70, 71, 72, 73, 74, 75, 76, 77, 78, 110, 111, 112, 113, 114, 115, 116, 117, 118, 119, 120, 121, 122, 123] (by decide +kernel) (by decide +kernel)) (goodIn_sub (fun _ h => List.mem_cons_of_mem _ (List.mem_append_right _ h)) (by decide +kernel))) (goodIn_sub (fun _ h => List.mem_cons_of_mem _ (List.mem_append_left _ (List.mem_append_right _ h))) (by decide +kernel))
set_option maxRecDepth 20000 in
theorem gL_build_X3_put : GoodIn wsL_build (wsV RL 25 RX3 yX3_put wsX3_put) := goodIn_app (goodIn_of _ (by decide +kernel)) ggL_build_X3_put
set_option maxRecDepth 20000 in
theorem ggL_build_X3_addTalker : GoodIn wsL_build wsX3_addTalker := goodIn_ca (goodIn_ca (goodIn_r _ [82, 35, 36, 56, 57, 37, 83, 84, 60, 61, 33, 62, 63, 64, 65, 85, 86, 87, 88, 89, 90, 91, 92, 93, 94, 95, 96, 97, 98, 99, 100, 110, 111, 112, 113, 114, 115, 116, 117, 118, 119, 120, 124, 125, 126, 127, 128, 129] (by decide +kernel) (by decide +kernel)) (goodIn_sub (fun _ h => List.mem_cons_of_mem _ (List.mem_append_left _ (List.mem_append_right _ h))) (by decide +kernel))) (goodIn_sub (fun _ h => List.mem_cons_of_mem _ (List.mem_append_right _ h)) (by decide +kernel))
set_option maxRecDepth 20000 in
theorem gL_build_X3_addTalker : GoodIn wsL_build (wsV RL 65 RX3 yX3_addTalker wsX3_addTalker) := goodIn_app (goodIn_of _ (by decide +kernel)) ggL_build_X3_addTalker
theorem dL_build_0 : decode cL_build 0 = .ok (.new 10, 3) := by decide +kernel
theorem dL_build_3 : decode cL_build 3 = .ok (.dup, 1) := by decide +kernel
theorem dL_build_4 : decode cL_build 4 = .ok (.invokespecial 75, 3) := by decide +kernel
theorem dL_build_7 : decode cL_build 7 = .ok (.astore_n 2, 1) := by decide +kernel
theorem dL_build_8 : decode cL_build 8 = .ok (.aload_n 2, 1) := by decide +kernel
theorem dL_build_9 : decode cL_build 9 = .ok (.iconst 2, 1) := by decide +kernel
theorem dL_build_10 : decode cL_build 10 = .ok (.aload_n 1, 1) := by decide +kernel
theorem dL_build_11 : decode cL_build 11 = .ok (.iconst 0, 1) := by decide +kernel
theorem dL_build_12 : decode cL_build 12 = .ok (.invokestatic 76, 3) := by decide +kernel
theorem dL_build_15 : decode cL_build 15 = .ok (.bipush 8, 2) := by decide +kernel
theorem dL_build_17 : decode cL_build 17 = .ok (.invokestatic 15, 3) := by decide +kernel
theorem dL_build_20 : decode cL_build 20 = .ok (.iadd, 1) := by decide +kernel
theorem dL_build_21 : decode cL_build 21 = .ok (.putfield 43, 3) := by decide +kernel
theorem dL_build_24 : decode cL_build 24 = .ok (.aload_n 2, 1) := by decide +kernel
theorem dL_build_25 : decode cL_build 25 = .ok (.iconst 1, 1) := by decide +kernel
theorem dL_build_26 : decode cL_build 26 = .ok (.aload_n 1, 1) := by decide +kernel
theorem dL_build_27 : decode cL_build 27 = .ok (.iconst 0, 1) := by decide +kernel
theorem dL_build_28 : decode cL_build 28 = .ok (.invokestatic 76, 3) := by decide +kernel
theorem dL_build_31 : decode cL_build 31 = .ok (.iconst 4, 1) := by decide +kernel
theorem dL_build_32 : decode cL_build 32 = .ok (.ishr, 1) := by decide +kernel
theorem dL_build_33 : decode cL_build 33 = .ok (.iconst 4, 1) := by decide +kernel
theorem dL_build_34 : decode cL_build 34 = .ok (.invokestatic 15, 3) := by decide +kernel
theorem dL_build_37 : decode cL_build 37 = .ok (.iadd, 1) := by decide +kernel
theorem dL_build_38 : decode cL_build 38 = .ok (.putfield 50, 3) := by decide +kernel
theorem dL_build_41 : decode cL_build 41 = .ok (.aload_n 2, 1) := by decide +kernel
theorem dL_build_42 : decode cL_build 42 = .ok (.aload_n 1, 1) := by decide +kernel
theorem dL_build_43 : decode cL_build 43 = .ok (.iconst 0, 1) := by decide +kernel
theorem dL_build_44 : decode cL_build 44 = .ok (.invokestatic 76, 3) := by decide +kernel
theorem dL_build_47 : decode cL_build 47 = .ok (.bipush 6, 2) := by decide +kernel
theorem dL_build_49 : decode cL_build 49 = .ok (.ishr, 1) := by decide +kernel
theorem dL_build_50 : decode cL_build 50 = .ok (.bipush 21, 2) := by decide +kernel
theorem dL_build_52 : decode cL_build 52 = .ok (.invokestatic 15, 3) := by decide +kernel
theorem dL_build_55 : decode cL_build 55 = .ok (.putfield 56, 3) := by decide +kernel
theorem dL_build_58 : decode cL_build 58 = .ok (.aload_n 0, 1) := by decide +kernel
theorem dL_build_59 : decode cL_build 59 = .ok (.aload_n 2, 1) := by decide +kernel
theorem dL_build_60 : decode cL_build 60 = .ok (.getfield 43, 3) := by decide +kernel
theorem dL_build_63 : decode cL_build 63 = .ok (.invokevirtual 47, 3) := by decide +kernel
theorem dL_build_66 : decode cL_build 66 = .ok (.iconst 2, 1) := by decide +kernel
theorem dL_build_67 : decode cL_build 67 = .ok (.if_icmp .ne 27, 3) := by decide +kernel
theorem dL_build_70 : decode cL_build 70 = .ok (.aload_n 0, 1) := by decide +kernel
theorem dL_build_71 : decode cL_build 71 = .ok (.aload_n 2, 1) := by decide +kernel
theorem dL_build_72 : decode cL_build 72 = .ok (.getfield 50, 3) := by decide +kernel
theorem dL_build_75 : decode cL_build 75 = .ok (.invokevirtual 53, 3) := by decide +kernel
theorem dL_build_78 : decode cL_build 78 = .ok (.iconst 1, 1) := by decide +kernel
theorem dL_build_79 : decode cL_build 79 = .ok (.if_icmp .ne 15, 3) := by decide +kernel
theorem dL_build_82 : decode cL_build 82 = .ok (.aload_n 0, 1) := by decide +kernel
theorem dL_build_83 : decode cL_build 83 = .ok (.aload_n 2, 1) := by decide +kernel
theorem dL_build_84 : decode cL_build 84 = .ok (.getfield 56, 3) := by decide +kernel
theorem dL_build_87 : decode cL_build 87 = .ok (.invokevirtual 59, 3) := by decide +kernel
theorem dL_build_90 : decode cL_build 90 = .ok (.iconst 3, 1) := by decide +kernel
theorem dL_build_91 : decode cL_build 91 = .ok (.if_icmp .eq 5, 3) := by decide +kernel
theorem dL_build_94 : decode cL_build 94 = .ok (.aconst_null, 1) := by decide +kernel
theorem dL_build_95 : decode cL_build 95 = .ok (.areturn, 1) := by decide +kernel
theorem dL_build_96 : decode cL_build 96 = .ok (.iconst 0, 1) := by decide +kernel
theorem dL_build_97 : decode cL_build 97 = .ok (.istore_n 3, 1) := by decide +kernel
theorem dL_build_98 : decode cL_build 98 = .ok (.iload_n 3, 1) := by decide +kernel
theorem dL_build_99 : decode cL_build 99 = .ok (.aload_n 1, 1) := by decide +kernel
theorem dL_build_100 : decode cL_build 100 = .ok (.iconst 1, 1) := by decide +kernel
theorem dL_build_101 : decode cL_build 101 = .ok (.invokestatic 76, 3) := by decide +kernel
theorem dL_build_104 : decode cL_build 104 = .ok (.bipush 12, 2) := by decide +kernel
theorem dL_build_106 : decode cL_build 106 = .ok (.invokestatic 15, 3) := by decide +kernel
theorem dL_build_109 : decode cL_build 109 = .ok (.if_icmp .ge 81, 3) := by decide +kernel
theorem dL_build_112 : decode cL_build 112 = .ok (.aload_n 1, 1) := by decide +kernel
theorem dL_build_113 : decode cL_build 113 = .ok (.iconst 2, 1) := by decide +kernel
theorem dL_build_114 : decode cL_build 114 = .ok (.iload_n 3, 1) := by decide +kernel
theorem dL_build_115 : decode cL_build 115 = .ok (.iadd, 1) := by decide +kernel
theorem dL_build_116 : decode cL_build 116 = .ok (.invokestatic 76, 3) := by decide +kernel
theorem dL_build_119 : decode cL_build 119 = .ok (.istore 4, 2) := by decide +kernel
theorem dL_build_121 : decode cL_build 121 = .ok (.aload_n 2, 1) := by decide +kernel
theorem dL_build_122 : decode cL_build 122 = .ok (.aload_n 2, 1) := by decide +kernel
theorem dL_build_123 : decode cL_build 123 = .ok (.getfield 9, 3) := by decide +kernel
theorem dL_build_126 : decode cL_build 126 = .ok (.iconst 2, 1) := by decide +kernel
theorem dL_build_127 : decode cL_build 127 = .ok (.newarray .int, 2) := by decide +kernel
theorem dL_build_129 : decode cL_build 129 = .ok (.dup, 1) := by decide +kernel
theorem dL_build_130 : decode cL_build 130 = .ok (.iconst 0, 1) := by decide +kernel
theorem dL_build_131 : decode cL_build 131 = .ok (.iconst 2, 1) := by decide +kernel
theorem dL_build_132 : decode cL_build 132 = .ok (.iload 4, 2) := by decide +kernel
theorem dL_build_134 : decode cL_build 134 = .ok (.iconst 3, 1) := by decide +kernel
theorem dL_build_135 : decode cL_build 135 = .ok (.ishr, 1) := by decide +kernel
theorem dL_build_136 : decode cL_build 136 = .ok (.bipush 98, 2) := by decide +kernel
theorem dL_build_138 : decode cL_build 138 = .ok (.invokestatic 15, 3) := by decide +kernel
theorem dL_build_141 : decode cL_build 141 = .ok (.iadd, 1) := by decide +kernel
theorem dL_build_142 : decode cL_build 142 = .ok (.iastore, 1) := by decide +kernel
theorem dL_build_143 : decode cL_build 143 = .ok (.dup, 1) := by decide +kernel
theorem dL_build_144 : decode cL_build 144 = .ok (.iconst 1, 1) := by decide +kernel
theorem dL_build_145 : decode cL_build 145 = .ok (.iload 4, 2) := by decide +kernel
theorem dL_build_147 : decode cL_build 147 = .ok (.iconst 5, 1) := by decide +kernel
theorem dL_build_148 : decode cL_build 148 = .ok (.invokestatic 15, 3) := by decide +kernel
theorem dL_build_151 : decode cL_build 151 = .ok (.iastore, 1) := by decide +kernel
theorem dL_build_152 : decode cL_build 152 = .ok (.invokestatic 21, 3) := by decide +kernel
theorem dL_build_155 : decode cL_build 155 = .ok (.putfield 9, 3) := by decide +kernel
theorem dL_build_158 : decode cL_build 158 = .ok (.aload_n 0, 1) := by decide +kernel
theorem dL_build_159 : decode cL_build 159 = .ok (.aload_n 2, 1) := by decide +kernel
theorem dL_build_160 : decode cL_build 160 = .ok (.getfield 9, 3) := by decide +kernel
theorem dL_build_163 : decode cL_build 163 = .ok (.iload_n 3, 1) := by decide +kernel
theorem dL_build_164 : decode cL_build 164 = .ok (.aaload, 1) := by decide +kernel
theorem dL_build_165 : decode cL_build 165 = .ok (.iconst 1, 1) := by decide +kernel
theorem dL_build_166 : decode cL_build 166 = .ok (.iaload, 1) := by decide +kernel
theorem dL_build_167 : decode cL_build 167 = .ok (.aload_n 2, 1) := by decide +kernel
theorem dL_build_168 : decode cL_build 168 = .ok (.getfield 9, 3) := by decide +kernel
theorem dL_build_171 : decode cL_build 171 = .ok (.iload_n 3, 1) := by decide +kernel
theorem dL_build_172 : decode cL_build 172 = .ok (.aaload, 1) := by decide +kernel
theorem dL_build_173 : decode cL_build 173 = .ok (.iconst 0, 1) := by decide +kernel
theorem dL_build_174 : decode cL_build 174 = .ok (.iaload, 1) := by decide +kernel
theorem dL_build_175 : decode cL_build 175 = .ok (.invokevirtual 25, 3) := by decide +kernel
theorem dL_build_178 : decode cL_build 178 = .ok (.iload_n 3, 1) := by decide +kernel
theorem dL_build_179 : decode cL_build 179 = .ok (.if_icmp .eq 5, 3) := by decide +kernel
theorem dL_build_182 : decode cL_build 182 = .ok (.aconst_null, 1) := by decide +kernel
theorem dL_build_183 : decode cL_build 183 = .ok (.areturn, 1) := by decide +kernel
theorem dL_build_184 : decode cL_build 184 = .ok (.iinc 3 1, 3) := by decide +kernel
theorem dL_build_187 : decode cL_build 187 = .ok (.goto (-89), 3) := by decide +kernel
theorem dL_build_190 : decode cL_build 190 = .ok (.iconst 0, 1) := by decide +kernel
theorem dL_build_191 : decode cL_build 191 = .ok (.istore_n 3, 1) := by decide +kernel
theorem dL_build_192 : decode cL_build 192 = .ok (.iload_n 3, 1) := by decide +kernel
theorem dL_build_193 : decode cL_build 193 = .ok (.aload_n 1, 1) := by decide +kernel
theorem dL_build_194 : decode cL_build 194 = .ok (.bipush 14, 2) := by decide +kernel
theorem dL_build_196 : decode cL_build 196 = .ok (.invokestatic 76, 3) := by decide +kernel
theorem dL_build_199 : decode cL_build 199 = .ok (.iconst 5, 1) := by decide +kernel
theorem dL_build_200 : decode cL_build 200 = .ok (.invokestatic 15, 3) := by decide +kernel
theorem dL_build_203 : decode cL_build 203 = .ok (.if_icmp .ge 114, 3) := by decide +kernel
theorem dL_build_206 : decode cL_build 206 = .ok (.aload_n 1, 1) := by decide +kernel
theorem dL_build_207 : decode cL_build 207 = .ok (.iconst 2, 1) := by decide +kernel
theorem dL_build_208 : decode cL_build 208 = .ok (.iload_n 3, 1) := by decide +kernel
theorem dL_build_209 : decode cL_build 209 = .ok (.iadd, 1) := by decide +kernel
theorem dL_build_210 : decode cL_build 210 = .ok (.invokestatic 76, 3) := by decide +kernel
theorem dL_build_213 : decode cL_build 213 = .ok (.iconst 5, 1) := by decide +kernel
theorem dL_build_214 : decode cL_build 214 = .ok (.ishr, 1) := by decide +kernel
theorem dL_build_215 : decode cL_build 215 = .ok (.istore 4, 2) := by decide +kernel
theorem dL_build_217 : decode cL_build 217 = .ok (.aload_n 2, 1) := by decide +kernel
theorem dL_build_218 : decode cL_build 218 = .ok (.aload_n 2, 1) := by decide +kernel
theorem dL_build_219 : decode cL_build 219 = .ok (.getfield 62, 3) := by decide +kernel
theorem dL_build_222 : decode cL_build 222 = .ok (.iconst 5, 1) := by decide +kernel
theorem dL_build_223 : decode cL_build 223 = .ok (.newarray .int, 2) := by decide +kernel
theorem dL_build_225 : decode cL_build 225 = .ok (.dup, 1) := by decide +kernel
theorem dL_build_226 : decode cL_build 226 = .ok (.iconst 0, 1) := by decide +kernel
theorem dL_build_227 : decode cL_build 227 = .ok (.bipush 30, 2) := by decide +kernel
theorem dL_build_229 : decode cL_build 229 = .ok (.iastore, 1) := by decide +kernel
theorem dL_build_230 : decode cL_build 230 = .ok (.dup, 1) := by decide +kernel
theorem dL_build_231 : decode cL_build 231 = .ok (.iconst 1, 1) := by decide +kernel
theorem dL_build_232 : decode cL_build 232 = .ok (.iconst (-1), 1) := by decide +kernel
theorem dL_build_233 : decode cL_build 233 = .ok (.iastore, 1) := by decide +kernel
theorem dL_build_234 : decode cL_build 234 = .ok (.dup, 1) := by decide +kernel
theorem dL_build_235 : decode cL_build 235 = .ok (.iconst 2, 1) := by decide +kernel
theorem dL_build_236 : decode cL_build 236 = .ok (.iload 4, 2) := by decide +kernel
theorem dL_build_238 : decode cL_build 238 = .ok (.iconst 5, 1) := by decide +kernel
theorem dL_build_239 : decode cL_build 239 = .ok (.invokestatic 15, 3) := by decide +kernel
theorem dL_build_242 : decode cL_build 242 = .ok (.iastore, 1) := by decide +kernel
theorem dL_build_243 : decode cL_build 243 = .ok (.dup, 1) := by decide +kernel
theorem dL_build_244 : decode cL_build 244 = .ok (.iconst 3, 1) := by decide +kernel
theorem dL_build_245 : decode cL_build 245 = .ok (.iconst 2, 1) := by decide +kernel
theorem dL_build_246 : decode cL_build 246 = .ok (.iload 4, 2) := by decide +kernel
theorem dL_build_248 : decode cL_build 248 = .ok (.iconst 3, 1) := by decide +kernel
theorem dL_build_249 : decode cL_build 249 = .ok (.ishr, 1) := by decide +kernel
theorem dL_build_250 : decode cL_build 250 = .ok (.bipush 98, 2) := by decide +kernel
theorem dL_build_252 : decode cL_build 252 = .ok (.invokestatic 15, 3) := by decide +kernel
theorem dL_build_255 : decode cL_build 255 = .ok (.iadd, 1) := by decide +kernel
theorem dL_build_256 : decode cL_build 256 = .ok (.iastore, 1) := by decide +kernel
theorem dL_build_257 : decode cL_build 257 = .ok (.dup, 1) := by decide +kernel
theorem dL_build_258 : decode cL_build 258 = .ok (.iconst 4, 1) := by decide +kernel
theorem dL_build_259 : decode cL_build 259 = .ok (.iconst 1, 1) := by decide +kernel
theorem dL_build_260 : decode cL_build 260 = .ok (.iload 4, 2) := by decide +kernel
theorem dL_build_262 : decode cL_build 262 = .ok (.iconst 5, 1) := by decide +kernel
theorem dL_build_263 : decode cL_build 263 = .ok (.ishr, 1) := by decide +kernel
theorem dL_build_264 : decode cL_build 264 = .ok (.bipush 9, 2) := by decide +kernel
theorem dL_build_266 : decode cL_build 266 = .ok (.invokestatic 15, 3) := by decide +kernel
theorem dL_build_269 : decode cL_build 269 = .ok (.iadd, 1) := by decide +kernel
theorem dL_build_270 : decode cL_build 270 = .ok (.iastore, 1) := by decide +kernel
theorem dL_build_271 : decode cL_build 271 = .ok (.invokestatic 21, 3) := by decide +kernel
theorem dL_build_274 : decode cL_build 274 = .ok (.putfield 62, 3) := by decide +kernel
theorem dL_build_277 : decode cL_build 277 = .ok (.aload_n 0, 1) := by decide +kernel
theorem dL_build_278 : decode cL_build 278 = .ok (.aload_n 2, 1) := by decide +kernel
theorem dL_build_279 : decode cL_build 279 = .ok (.getfield 62, 3) := by decide +kernel
theorem dL_build_282 : decode cL_build 282 = .ok (.iload_n 3, 1) := by decide +kernel
theorem dL_build_283 : decode cL_build 283 = .ok (.aaload, 1) := by decide +kernel
theorem dL_build_284 : decode cL_build 284 = .ok (.iconst 2, 1) := by decide +kernel
theorem dL_build_285 : decode cL_build 285 = .ok (.iaload, 1) := by decide +kernel
theorem dL_build_286 : decode cL_build 286 = .ok (.aload_n 2, 1) := by decide +kernel
theorem dL_build_287 : decode cL_build 287 = .ok (.getfield 62, 3) := by decide +kernel
theorem dL_build_290 : decode cL_build 290 = .ok (.iload_n 3, 1) := by decide +kernel
theorem dL_build_291 : decode cL_build 291 = .ok (.aaload, 1) := by decide +kernel
theorem dL_build_292 : decode cL_build 292 = .ok (.iconst 3, 1) := by decide +kernel
theorem dL_build_293 : decode cL_build 293 = .ok (.iaload, 1) := by decide +kernel
theorem dL_build_294 : decode cL_build 294 = .ok (.aload_n 2, 1) := by decide +kernel
theorem dL_build_295 : decode cL_build 295 = .ok (.getfield 62, 3) := by decide +kernel
theorem dL_build_298 : decode cL_build 298 = .ok (.iload_n 3, 1) := by decide +kernel
theorem dL_build_299 : decode cL_build 299 = .ok (.aaload, 1) := by decide +kernel
theorem dL_build_300 : decode cL_build 300 = .ok (.iconst 4, 1) := by decide +kernel
theorem dL_build_301 : decode cL_build 301 = .ok (.iaload, 1) := by decide +kernel
theorem dL_build_302 : decode cL_build 302 = .ok (.invokevirtual 65, 3) := by decide +kernel
theorem dL_build_305 : decode cL_build 305 = .ok (.iload_n 3, 1) := by decide +kernel
theorem dL_build_306 : decode cL_build 306 = .ok (.if_icmp .eq 5, 3) := by decide +kernel
theorem dL_build_309 : decode cL_build 309 = .ok (.aconst_null, 1) := by decide +kernel
theorem dL_build_310 : decode cL_build 310 = .ok (.areturn, 1) := by decide +kernel
theorem dL_build_311 : decode cL_build 311 = .ok (.iinc 3 1, 3) := by decide +kernel
theorem dL_build_314 : decode cL_build 314 = .ok (.goto (-122), 3) := by decide +kernel
theorem dL_build_317 : decode cL_build 317 = .ok (.aload_n 2, 1) := by decide +kernel
theorem dL_build_318 : decode cL_build 318 = .ok (.areturn, 1) := by decide +kernel
