theorem dX10_init_404 : decode cX10_init 404 = .ok (.newarray .int, 2) := by decide +kernel
theorem dX10_init_406 : decode cX10_init 406 = .ok (.putfield 161, 3) := by decide +kernel
theorem dX10_init_409 : decode cX10_init 409 = .ok (.aload_n 0, 1) := by decide +kernel
theorem dX10_init_410 : decode cX10_init 410 = .ok (.ldc 164, 2) := by decide +kernel
theorem dX10_init_412 : decode cX10_init 412 = .ok (.newarray .int, 2) := by decide +kernel
theorem dX10_init_414 : decode cX10_init 414 = .ok (.putfield 165, 3) := by decide +kernel
theorem dX10_init_417 : decode cX10_init 417 = .ok (.aload_n 0, 1) := by decide +kernel
theorem dX10_init_418 : decode cX10_init 418 = .ok (.sipush 4096, 3) := by decide +kernel
theorem dX10_init_421 : decode cX10_init 421 = .ok (.newarray .int, 2) := by decide +kernel
theorem dX10_init_423 : decode cX10_init 423 = .ok (.putfield 168, 3) := by decide +kernel
theorem dX10_init_426 : decode cX10_init 426 = .ok (.aload_n 0, 1) := by decide +kernel
theorem dX10_init_427 : decode cX10_init 427 = .ok (.sipush 4096, 3) := by decide +kernel
theorem dX10_init_430 : decode cX10_init 430 = .ok (.newarray .int, 2) := by decide +kernel
theorem dX10_init_432 : decode cX10_init 432 = .ok (.putfield 171, 3) := by decide +kernel
theorem dX10_init_435 : decode cX10_init 435 = .ok (.aload_n 0, 1) := by decide +kernel
theorem dX10_init_436 : decode cX10_init 436 = .ok (.sipush 4096, 3) := by decide +kernel
theorem dX10_init_439 : decode cX10_init 439 = .ok (.newarray .int, 2) := by decide +kernel
theorem dX10_init_441 : decode cX10_init 441 = .ok (.putfield 174, 3) := by decide +kernel
theorem dX10_init_444 : decode cX10_init 444 = .ok (.aload_n 0, 1) := by decide +kernel
theorem dX10_init_445 : decode cX10_init 445 = .ok (.bipush 20, 2) := by decide +kernel
theorem dX10_init_447 : decode cX10_init 447 = .ok (.newarray .int, 2) := by decide +kernel
theorem dX10_init_449 : decode cX10_init 449 = .ok (.putfield 177, 3) := by decide +kernel
theorem dX10_init_452 : decode cX10_init 452 = .ok (.aload_n 0, 1) := by decide +kernel
theorem dX10_init_453 : decode cX10_init 453 = .ok (.bipush 20, 2) := by decide +kernel
theorem dX10_init_455 : decode cX10_init 455 = .ok (.newarray .int, 2) := by decide +kernel
theorem dX10_init_457 : decode cX10_init 457 = .ok (.putfield 180, 3) := by decide +kernel
theorem dX10_init_460 : decode cX10_init 460 = .ok (.iconst 0, 1) := by decide +kernel
theorem dX10_init_461 : decode cX10_init 461 = .ok (.istore_n 1, 1) := by decide +kernel
theorem dX10_init_462 : decode cX10_init 462 = .ok (.iload_n 1, 1) := by decide +kernel
theorem dX10_init_463 : decode cX10_init 463 = .ok (.sipush 256, 3) := by decide +kernel
theorem dX10_init_466 : decode cX10_init 466 = .ok (.if_icmp .ge 16, 3) := by decide +kernel
theorem dX10_init_469 : decode cX10_init 469 = .ok (.aload_n 0, 1) := by decide +kernel
theorem dX10_init_470 : decode cX10_init 470 = .ok (.getfield 104, 3) := by decide +kernel
theorem dX10_init_473 : decode cX10_init 473 = .ok (.iload_n 1, 1) := by decide +kernel
theorem dX10_init_474 : decode cX10_init 474 = .ok (.iconst (-1), 1) := by decide +kernel
theorem dX10_init_475 : decode cX10_init 475 = .ok (.iastore, 1) := by decide +kernel
theorem dX10_init_476 : decode cX10_init 476 = .ok (.iinc 1 1, 3) := by decide +kernel
theorem dX10_init_479 : decode cX10_init 479 = .ok (.goto (-17), 3) := by decide +kernel
theorem dX10_init_482 : decode cX10_init 482 = .ok (.return_, 1) := by decide +kernel
theorem dX10_isEnd_0 : decode cX10_isEnd 0 = .ok (.iload_n 0, 1) := by decide +kernel
theorem dX10_isEnd_1 : decode cX10_isEnd 1 = .ok (.ifCond .eq 8, 3) := by decide +kernel
theorem dX10_isEnd_4 : decode cX10_isEnd 4 = .ok (.iload_n 0, 1) := by decide +kernel
theorem dX10_isEnd_5 : decode cX10_isEnd 5 = .ok (.iconst 1, 1) := by decide +kernel
theorem dX10_isEnd_6 : decode cX10_isEnd 6 = .ok (.if_icmp .ne 7, 3) := by decide +kernel
theorem dX10_isEnd_9 : decode cX10_isEnd 9 = .ok (.iconst 1, 1) := by decide +kernel
theorem dX10_isEnd_10 : decode cX10_isEnd 10 = .ok (.goto 4, 3) := by decide +kernel
theorem dX10_isEnd_13 : decode cX10_isEnd 13 = .ok (.iconst 0, 1) := by decide +kernel
theorem dX10_isEnd_14 : decode cX10_isEnd 14 = .ok (.ireturn, 1) := by decide +kernel
theorem dX10_mod_0 : decode cX10_mod 0 = .ok (.iload_n 0, 1) := by decide +kernel
theorem dX10_mod_1 : decode cX10_mod 1 = .ok (.bipush 127, 2) := by decide +kernel
theorem dX10_mod_3 : decode cX10_mod 3 = .ok (.iand, 1) := by decide +kernel
theorem dX10_mod_4 : decode cX10_mod 4 = .ok (.ireturn, 1) := by decide +kernel
theorem dX10_begin_0 : decode cX10_begin 0 = .ok (.aload_n 0, 1) := by decide +kernel
theorem dX10_begin_1 : decode cX10_begin 1 = .ok (.iconst 1, 1) := by decide +kernel
theorem dX10_begin_2 : decode cX10_begin 2 = .ok (.putfield 183, 3) := by decide +kernel
theorem dX10_begin_5 : decode cX10_begin 5 = .ok (.aload_n 0, 1) := by decide +kernel
theorem dX10_begin_6 : decode cX10_begin 6 = .ok (.iload_n 1, 1) := by decide +kernel
theorem dX10_begin_7 : decode cX10_begin 7 = .ok (.invokevirtual 187, 3) := by decide +kernel
theorem dX10_begin_10 : decode cX10_begin 10 = .ok (.aload_n 0, 1) := by decide +kernel
theorem dX10_begin_11 : decode cX10_begin 11 = .ok (.iload_n 2, 1) := by decide +kernel
theorem dX10_begin_12 : decode cX10_begin 12 = .ok (.sipush 256, 3) := by decide +kernel
theorem dX10_begin_15 : decode cX10_begin 15 = .ok (.idiv, 1) := by decide +kernel
theorem dX10_begin_16 : decode cX10_begin 16 = .ok (.invokevirtual 187, 3) := by decide +kernel
theorem dX10_begin_19 : decode cX10_begin 19 = .ok (.aload_n 0, 1) := by decide +kernel
theorem dX10_begin_20 : decode cX10_begin 20 = .ok (.iload_n 2, 1) := by decide +kernel
theorem dX10_begin_21 : decode cX10_begin 21 = .ok (.sipush 256, 3) := by decide +kernel
theorem dX10_begin_24 : decode cX10_begin 24 = .ok (.irem, 1) := by decide +kernel
theorem dX10_begin_25 : decode cX10_begin 25 = .ok (.invokevirtual 187, 3) := by decide +kernel
theorem dX10_begin_28 : decode cX10_begin 28 = .ok (.return_, 1) := by decide +kernel
theorem dX10_push_0 : decode cX10_push 0 = .ok (.aload_n 0, 1) := by decide +kernel
theorem dX10_push_1 : decode cX10_push 1 = .ok (.getfield 180, 3) := by decide +kernel
theorem dX10_push_4 : decode cX10_push 4 = .ok (.aload_n 0, 1) := by decide +kernel
theorem dX10_push_5 : decode cX10_push 5 = .ok (.getfield 183, 3) := by decide +kernel
theorem dX10_push_8 : decode cX10_push 8 = .ok (.iload_n 1, 1) := by decide +kernel
theorem dX10_push_9 : decode cX10_push 9 = .ok (.iastore, 1) := by decide +kernel
theorem dX10_push_10 : decode cX10_push 10 = .ok (.aload_n 0, 1) := by decide +kernel
theorem dX10_push_11 : decode cX10_push 11 = .ok (.dup, 1) := by decide +kernel
theorem dX10_push_12 : decode cX10_push 12 = .ok (.getfield 183, 3) := by decide +kernel
theorem dX10_push_15 : decode cX10_push 15 = .ok (.iconst 1, 1) := by decide +kernel
theorem dX10_push_16 : decode cX10_push 16 = .ok (.iadd, 1) := by decide +kernel
theorem dX10_push_17 : decode cX10_push 17 = .ok (.putfield 183, 3) := by decide +kernel
theorem dX10_push_20 : decode cX10_push 20 = .ok (.return_, 1) := by decide +kernel
theorem dX10_endHead_0 : decode cX10_endHead 0 = .ok (.aload_n 0, 1) := by decide +kernel
theorem dX10_endHead_1 : decode cX10_endHead 1 = .ok (.sipush 195, 3) := by decide +kernel
theorem dX10_endHead_4 : decode cX10_endHead 4 = .ok (.invokevirtual 187, 3) := by decide +kernel
theorem dX10_endHead_7 : decode cX10_endHead 7 = .ok (.aload_n 0, 1) := by decide +kernel
theorem dX10_endHead_8 : decode cX10_endHead 8 = .ok (.iconst 2, 1) := by decide +kernel
theorem dX10_endHead_9 : decode cX10_endHead 9 = .ok (.invokevirtual 187, 3) := by decide +kernel
theorem dX10_endHead_12 : decode cX10_endHead 12 = .ok (.aload_n 0, 1) := by decide +kernel
theorem dX10_endHead_13 : decode cX10_endHead 13 = .ok (.iconst 0, 1) := by decide +kernel
theorem dX10_endHead_14 : decode cX10_endHead 14 = .ok (.invokevirtual 187, 3) := by decide +kernel
theorem dX10_endHead_17 : decode cX10_endHead 17 = .ok (.aload_n 0, 1) := by decide +kernel
theorem dX10_endHead_18 : decode cX10_endHead 18 = .ok (.iconst 0, 1) := by decide +kernel
theorem dX10_endHead_19 : decode cX10_endHead 19 = .ok (.invokevirtual 187, 3) := by decide +kernel
theorem dX10_endHead_22 : decode cX10_endHead 22 = .ok (.aload_n 0, 1) := by decide +kernel
theorem dX10_endHead_23 : decode cX10_endHead 23 = .ok (.getfield 180, 3) := by decide +kernel
theorem dX10_endHead_26 : decode cX10_endHead 26 = .ok (.iconst 0, 1) := by decide +kernel
theorem dX10_endHead_27 : decode cX10_endHead 27 = .ok (.aload_n 0, 1) := by decide +kernel
