theorem dX4_others_363 : decode cX4_others 363 = .ok (.aload_n 0, 1) := by decide +kernel
theorem dX4_others_364 : decode cX4_others 364 = .ok (.ldc 144, 2) := by decide +kernel
theorem dX4_others_366 : decode cX4_others 366 = .ok (.bipush 58, 2) := by decide +kernel
theorem dX4_others_368 : decode cX4_others 368 = .ok (.bipush 9, 2) := by decide +kernel
theorem dX4_others_370 : decode cX4_others 370 = .ok (.invokevirtual 48, 3) := by decide +kernel
theorem dX4_others_373 : decode cX4_others 373 = .ok (.aload_n 0, 1) := by decide +kernel
theorem dX4_others_374 : decode cX4_others 374 = .ok (.sipush 14085, 3) := by decide +kernel
theorem dX4_others_377 : decode cX4_others 377 = .ok (.bipush 60, 2) := by decide +kernel
theorem dX4_others_379 : decode cX4_others 379 = .ok (.bipush 9, 2) := by decide +kernel
theorem dX4_others_381 : decode cX4_others 381 = .ok (.invokevirtual 48, 3) := by decide +kernel
theorem dX4_others_384 : decode cX4_others 384 = .ok (.aload_n 0, 1) := by decide +kernel
theorem dX4_others_385 : decode cX4_others 385 = .ok (.ldc 145, 2) := by decide +kernel
theorem dX4_others_387 : decode cX4_others 387 = .ok (.bipush 62, 2) := by decide +kernel
theorem dX4_others_389 : decode cX4_others 389 = .ok (.bipush 9, 2) := by decide +kernel
theorem dX4_others_391 : decode cX4_others 391 = .ok (.invokevirtual 48, 3) := by decide +kernel
theorem dX4_others_394 : decode cX4_others 394 = .ok (.aload_n 0, 1) := by decide +kernel
theorem dX4_others_395 : decode cX4_others 395 = .ok (.ldc 146, 2) := by decide +kernel
theorem dX4_others_397 : decode cX4_others 397 = .ok (.sipush 192, 3) := by decide +kernel
theorem dX4_others_400 : decode cX4_others 400 = .ok (.bipush 9, 2) := by decide +kernel
theorem dX4_others_402 : decode cX4_others 402 = .ok (.invokevirtual 48, 3) := by decide +kernel
theorem dX4_others_405 : decode cX4_others 405 = .ok (.aload_n 0, 1) := by decide +kernel
theorem dX4_others_406 : decode cX4_others 406 = .ok (.sipush 4068, 3) := by decide +kernel
theorem dX4_others_409 : decode cX4_others 409 = .ok (.sipush 198, 3) := by decide +kernel
theorem dX4_others_412 : decode cX4_others 412 = .ok (.bipush 9, 2) := by decide +kernel
theorem dX4_others_414 : decode cX4_others 414 = .ok (.invokevirtual 48, 3) := by decide +kernel
theorem dX4_others_417 : decode cX4_others 417 = .ok (.aload_n 0, 1) := by decide +kernel
theorem dX4_others_418 : decode cX4_others 418 = .ok (.sipush 1704, 3) := by decide +kernel
theorem dX4_others_421 : decode cX4_others 421 = .ok (.sipush 202, 3) := by decide +kernel
theorem dX4_others_424 : decode cX4_others 424 = .ok (.bipush 9, 2) := by decide +kernel
theorem dX4_others_426 : decode cX4_others 426 = .ok (.invokevirtual 48, 3) := by decide +kernel
theorem dX4_others_429 : decode cX4_others 429 = .ok (.aload_n 0, 1) := by decide +kernel
theorem dX4_others_430 : decode cX4_others 430 = .ok (.ldc 147, 2) := by decide +kernel
theorem dX4_others_432 : decode cX4_others 432 = .ok (.sipush 218, 3) := by decide +kernel
theorem dX4_others_435 : decode cX4_others 435 = .ok (.bipush 9, 2) := by decide +kernel
theorem dX4_others_437 : decode cX4_others 437 = .ok (.invokevirtual 48, 3) := by decide +kernel
theorem dX4_others_440 : decode cX4_others 440 = .ok (.aload_n 0, 1) := by decide +kernel
theorem dX4_others_441 : decode cX4_others 441 = .ok (.ldc 148, 2) := by decide +kernel
theorem dX4_others_443 : decode cX4_others 443 = .ok (.sipush 216, 3) := by decide +kernel
theorem dX4_others_446 : decode cX4_others 446 = .ok (.bipush 9, 2) := by decide +kernel
theorem dX4_others_448 : decode cX4_others 448 = .ok (.invokevirtual 48, 3) := by decide +kernel
theorem dX4_others_451 : decode cX4_others 451 = .ok (.return_, 1) := by decide +kernel
set_option maxRecDepth 20000 in
theorem ggX4_pair_X4_add : GoodIn wsX4_pair wsX4_add := goodIn_r _ [5, 6, 7, 8, 9, 10, 11, 12, 13, 14, 15, 16, 17, 18, 19, 20, 21, 22, 23, 24, 25] rfl (by decide +kernel)
set_option maxRecDepth 20000 in
theorem gX4_pair_X4_add : GoodIn wsX4_pair (wsV RX4 115 RX4 yX4_add wsX4_add) := goodIn_app (goodIn_of _ (by decide +kernel)) ggX4_pair_X4_add
theorem dX4_pair_0 : decode cX4_pair 0 = .ok (.aload_n 0, 1) := by decide +kernel
theorem dX4_pair_1 : decode cX4_pair 1 = .ok (.iload_n 1, 1) := by decide +kernel
theorem dX4_pair_2 : decode cX4_pair 2 = .ok (.iload_n 2, 1) := by decide +kernel
theorem dX4_pair_3 : decode cX4_pair 3 = .ok (.invokevirtual 115, 3) := by decide +kernel
theorem dX4_pair_6 : decode cX4_pair 6 = .ok (.aload_n 0, 1) := by decide +kernel
theorem dX4_pair_7 : decode cX4_pair 7 = .ok (.bipush 27, 2) := by decide +kernel
theorem dX4_pair_9 : decode cX4_pair 9 = .ok (.iload_n 1, 1) := by decide +kernel
theorem dX4_pair_10 : decode cX4_pair 10 = .ok (.imul, 1) := by decide +kernel
theorem dX4_pair_11 : decode cX4_pair 11 = .ok (.iload_n 3, 1) := by decide +kernel
theorem dX4_pair_12 : decode cX4_pair 12 = .ok (.iadd, 1) := by decide +kernel
theorem dX4_pair_13 : decode cX4_pair 13 = .ok (.iload_n 2, 1) := by decide +kernel
theorem dX4_pair_14 : decode cX4_pair 14 = .ok (.iconst 1, 1) := by decide +kernel
theorem dX4_pair_15 : decode cX4_pair 15 = .ok (.iadd, 1) := by decide +kernel
theorem dX4_pair_16 : decode cX4_pair 16 = .ok (.invokevirtual 115, 3) := by decide +kernel
theorem dX4_pair_19 : decode cX4_pair 19 = .ok (.return_, 1) := by decide +kernel
theorem dX4_add_0 : decode cX4_add 0 = .ok (.aload_n 0, 1) := by decide +kernel
theorem dX4_add_1 : decode cX4_add 1 = .ok (.getfield 26, 3) := by decide +kernel
theorem dX4_add_4 : decode cX4_add 4 = .ok (.aload_n 0, 1) := by decide +kernel
theorem dX4_add_5 : decode cX4_add 5 = .ok (.getfield 149, 3) := by decide +kernel
theorem dX4_add_8 : decode cX4_add 8 = .ok (.iload_n 1, 1) := by decide +kernel
theorem dX4_add_9 : decode cX4_add 9 = .ok (.iastore, 1) := by decide +kernel
theorem dX4_add_10 : decode cX4_add 10 = .ok (.aload_n 0, 1) := by decide +kernel
theorem dX4_add_11 : decode cX4_add 11 = .ok (.getfield 30, 3) := by decide +kernel
theorem dX4_add_14 : decode cX4_add 14 = .ok (.aload_n 0, 1) := by decide +kernel
theorem dX4_add_15 : decode cX4_add 15 = .ok (.getfield 149, 3) := by decide +kernel
theorem dX4_add_18 : decode cX4_add 18 = .ok (.iload_n 2, 1) := by decide +kernel
theorem dX4_add_19 : decode cX4_add 19 = .ok (.iastore, 1) := by decide +kernel
theorem dX4_add_20 : decode cX4_add 20 = .ok (.aload_n 0, 1) := by decide +kernel
theorem dX4_add_21 : decode cX4_add 21 = .ok (.dup, 1) := by decide +kernel
theorem dX4_add_22 : decode cX4_add 22 = .ok (.getfield 149, 3) := by decide +kernel
theorem dX4_add_25 : decode cX4_add 25 = .ok (.iconst 1, 1) := by decide +kernel
theorem dX4_add_26 : decode cX4_add 26 = .ok (.iadd, 1) := by decide +kernel
theorem dX4_add_27 : decode cX4_add 27 = .ok (.putfield 149, 3) := by decide +kernel
theorem dX4_add_30 : decode cX4_add 30 = .ok (.return_, 1) := by decide +kernel
theorem dX4_thrown_0 : decode cX4_thrown 0 = .ok (.aload_n 0, 1) := by decide +kernel
theorem dX4_thrown_1 : decode cX4_thrown 1 = .ok (.getfield 153, 3) := by decide +kernel
theorem dX4_thrown_4 : decode cX4_thrown 4 = .ok (.ireturn, 1) := by decide +kernel
theorem dX4_fail_0 : decode cX4_fail 0 = .ok (.aload_n 0, 1) := by decide +kernel
theorem dX4_fail_1 : decode cX4_fail 1 = .ok (.iload_n 1, 1) := by decide +kernel
theorem dX4_fail_2 : decode cX4_fail 2 = .ok (.putfield 153, 3) := by decide +kernel
theorem dX4_fail_5 : decode cX4_fail 5 = .ok (.iconst 0, 1) := by decide +kernel
theorem dX4_fail_6 : decode cX4_fail 6 = .ok (.ireturn, 1) := by decide +kernel
theorem dX4_beyond_0 : decode cX4_beyond 0 = .ok (.lload_n 0, 1) := by decide +kernel
theorem dX4_beyond_1 : decode cX4_beyond 1 = .ok (.lconst 0, 1) := by decide +kernel
theorem dX4_beyond_2 : decode cX4_beyond 2 = .ok (.lcmp, 1) := by decide +kernel
theorem dX4_beyond_3 : decode cX4_beyond 3 = .ok (.ifCond .lt 11, 3) := by decide +kernel
theorem dX4_beyond_6 : decode cX4_beyond 6 = .ok (.lload_n 0, 1) := by decide +kernel
theorem dX4_beyond_7 : decode cX4_beyond 7 = .ok (.ldc2_w 156, 3) := by decide +kernel
theorem dX4_beyond_10 : decode cX4_beyond 10 = .ok (.lcmp, 1) := by decide +kernel
theorem dX4_beyond_11 : decode cX4_beyond 11 = .ok (.ifCond .le 7, 3) := by decide +kernel
theorem dX4_beyond_14 : decode cX4_beyond 14 = .ok (.iconst 1, 1) := by decide +kernel
theorem dX4_beyond_15 : decode cX4_beyond 15 = .ok (.goto 4, 3) := by decide +kernel
theorem dX4_beyond_18 : decode cX4_beyond 18 = .ok (.iconst 0, 1) := by decide +kernel
theorem dX4_beyond_19 : decode cX4_beyond 19 = .ok (.ireturn, 1) := by decide +kernel
theorem dX4_m_0 : decode cX4_m 0 = .ok (.lload_n 1, 1) := by decide +kernel
theorem dX4_m_1 : decode cX4_m 1 = .ok (.l2i, 1) := by decide +kernel
theorem dX4_m_2 : decode cX4_m 2 = .ok (.iload_n 3, 1) := by decide +kernel
theorem dX4_m_3 : decode cX4_m 3 = .ok (.ineg, 1) := by decide +kernel
theorem dX4_m_4 : decode cX4_m 4 = .ok (.iand, 1) := by decide +kernel
theorem dX4_m_5 : decode cX4_m 5 = .ok (.istore 4, 2) := by decide +kernel
theorem dX4_m_7 : decode cX4_m 7 = .ok (.lconst 0, 1) := by decide +kernel
theorem dX4_m_8 : decode cX4_m 8 = .ok (.lstore 5, 2) := by decide +kernel
theorem dX4_m_10 : decode cX4_m 10 = .ok (.iconst 0, 1) := by decide +kernel
theorem dX4_m_11 : decode cX4_m 11 = .ok (.istore 7, 2) := by decide +kernel
theorem dX4_m_13 : decode cX4_m 13 = .ok (.iload 7, 2) := by decide +kernel
theorem dX4_m_15 : decode cX4_m 15 = .ok (.iload_n 3, 1) := by decide +kernel
theorem dX4_m_16 : decode cX4_m 16 = .ok (.if_icmp .ge 32, 3) := by decide +kernel
theorem dX4_m_19 : decode cX4_m 19 = .ok (.lload 5, 2) := by decide +kernel
theorem dX4_m_21 : decode cX4_m 21 = .ok (.bipush 8, 2) := by decide +kernel
theorem dX4_m_23 : decode cX4_m 23 = .ok (.lshl, 1) := by decide +kernel
theorem dX4_m_24 : decode cX4_m 24 = .ok (.aload_n 0, 1) := by decide +kernel
theorem dX4_m_25 : decode cX4_m 25 = .ok (.getfield 19, 3) := by decide +kernel
theorem dX4_m_28 : decode cX4_m 28 = .ok (.iload 4, 2) := by decide +kernel
theorem dX4_m_30 : decode cX4_m 30 = .ok (.iload 7, 2) := by decide +kernel
theorem dX4_m_32 : decode cX4_m 32 = .ok (.iadd, 1) := by decide +kernel
theorem dX4_m_33 : decode cX4_m 33 = .ok (.baload, 1) := by decide +kernel
theorem dX4_m_34 : decode cX4_m 34 = .ok (.sipush 255, 3) := by decide +kernel
theorem dX4_m_37 : decode cX4_m 37 = .ok (.iand, 1) := by decide +kernel
theorem dX4_m_38 : decode cX4_m 38 = .ok (.i2l, 1) := by decide +kernel
theorem dX4_m_39 : decode cX4_m 39 = .ok (.lor, 1) := by decide +kernel
theorem dX4_m_40 : decode cX4_m 40 = .ok (.lstore 5, 2) := by decide +kernel
theorem dX4_m_42 : decode cX4_m 42 = .ok (.iinc 7 1, 3) := by decide +kernel
theorem dX4_m_45 : decode cX4_m 45 = .ok (.goto (-32), 3) := by decide +kernel
theorem dX4_m_48 : decode cX4_m 48 = .ok (.lload 5, 2) := by decide +kernel
theorem dX4_m_50 : decode cX4_m 50 = .ok (.lreturn, 1) := by decide +kernel
theorem dX4_m__0 : decode cX4_m_ 0 = .ok (.lload_n 1, 1) := by decide +kernel
theorem dX4_m__1 : decode cX4_m_ 1 = .ok (.l2i, 1) := by decide +kernel
theorem dX4_m__2 : decode cX4_m_ 2 = .ok (.iload_n 3, 1) := by decide +kernel
theorem dX4_m__3 : decode cX4_m_ 3 = .ok (.ineg, 1) := by decide +kernel
theorem dX4_m__4 : decode cX4_m_ 4 = .ok (.iand, 1) := by decide +kernel
theorem dX4_m__5 : decode cX4_m_ 5 = .ok (.istore 6, 2) := by decide +kernel
theorem dX4_m__7 : decode cX4_m_ 7 = .ok (.iconst 0, 1) := by decide +kernel
theorem dX4_m__8 : decode cX4_m_ 8 = .ok (.istore 7, 2) := by decide +kernel
theorem dX4_m__10 : decode cX4_m_ 10 = .ok (.iload 7, 2) := by decide +kernel
theorem dX4_m__12 : decode cX4_m_ 12 = .ok (.iload_n 3, 1) := by decide +kernel
theorem dX4_m__13 : decode cX4_m_ 13 = .ok (.if_icmp .ge 33, 3) := by decide +kernel
theorem dX4_m__16 : decode cX4_m_ 16 = .ok (.aload_n 0, 1) := by decide +kernel
theorem dX4_m__17 : decode cX4_m_ 17 = .ok (.getfield 19, 3) := by decide +kernel
theorem dX4_m__20 : decode cX4_m_ 20 = .ok (.iload 6, 2) := by decide +kernel
theorem dX4_m__22 : decode cX4_m_ 22 = .ok (.iload 7, 2) := by decide +kernel
theorem dX4_m__24 : decode cX4_m_ 24 = .ok (.iadd, 1) := by decide +kernel
theorem dX4_m__25 : decode cX4_m_ 25 = .ok (.lload 4, 2) := by decide +kernel
theorem dX4_m__27 : decode cX4_m_ 27 = .ok (.bipush 8, 2) := by decide +kernel
theorem dX4_m__29 : decode cX4_m_ 29 = .ok (.iload_n 3, 1) := by decide +kernel
theorem dX4_m__30 : decode cX4_m_ 30 = .ok (.iconst 1, 1) := by decide +kernel
theorem dX4_m__31 : decode cX4_m_ 31 = .ok (.isub, 1) := by decide +kernel
theorem dX4_m__32 : decode cX4_m_ 32 = .ok (.iload 7, 2) := by decide +kernel
theorem dX4_m__34 : decode cX4_m_ 34 = .ok (.isub, 1) := by decide +kernel
theorem dX4_m__35 : decode cX4_m_ 35 = .ok (.imul, 1) := by decide +kernel
theorem dX4_m__36 : decode cX4_m_ 36 = .ok (.lshr, 1) := by decide +kernel
theorem dX4_m__37 : decode cX4_m_ 37 = .ok (.l2i, 1) := by decide +kernel
theorem dX4_m__38 : decode cX4_m_ 38 = .ok (.i2b, 1) := by decide +kernel
theorem dX4_m__39 : decode cX4_m_ 39 = .ok (.bastore, 1) := by decide +kernel
theorem dX4_m__40 : decode cX4_m_ 40 = .ok (.iinc 7 1, 3) := by decide +kernel
theorem dX4_m__43 : decode cX4_m_ 43 = .ok (.goto (-33), 3) := by decide +kernel
theorem dX4_m__46 : decode cX4_m_ 46 = .ok (.return_, 1) := by decide +kernel
theorem dX4_signed_0 : decode cX4_signed 0 = .ok (.iload_n 2, 1) := by decide +kernel
theorem dX4_signed_1 : decode cX4_signed 1 = .ok (.bipush 8, 2) := by decide +kernel
theorem dX4_signed_3 : decode cX4_signed 3 = .ok (.if_icmp .ne 7, 3) := by decide +kernel
theorem dX4_signed_6 : decode cX4_signed 6 = .ok (.lload_n 0, 1) := by decide +kernel
theorem dX4_signed_7 : decode cX4_signed 7 = .ok (.goto 20, 3) := by decide +kernel
theorem dX4_signed_10 : decode cX4_signed 10 = .ok (.lload_n 0, 1) := by decide +kernel
theorem dX4_signed_11 : decode cX4_signed 11 = .ok (.bipush 64, 2) := by decide +kernel
theorem dX4_signed_13 : decode cX4_signed 13 = .ok (.bipush 8, 2) := by decide +kernel
theorem dX4_signed_15 : decode cX4_signed 15 = .ok (.iload_n 2, 1) := by decide +kernel
theorem dX4_signed_16 : decode cX4_signed 16 = .ok (.imul, 1) := by decide +kernel
theorem dX4_signed_17 : decode cX4_signed 17 = .ok (.isub, 1) := by decide +kernel
theorem dX4_signed_18 : decode cX4_signed 18 = .ok (.lshl, 1) := by decide +kernel
theorem dX4_signed_19 : decode cX4_signed 19 = .ok (.bipush 64, 2) := by decide +kernel
theorem dX4_signed_21 : decode cX4_signed 21 = .ok (.bipush 8, 2) := by decide +kernel
theorem dX4_signed_23 : decode cX4_signed 23 = .ok (.iload_n 2, 1) := by decide +kernel
theorem dX4_signed_24 : decode cX4_signed 24 = .ok (.imul, 1) := by decide +kernel
theorem dX4_signed_25 : decode cX4_signed 25 = .ok (.isub, 1) := by decide +kernel
theorem dX4_signed_26 : decode cX4_signed 26 = .ok (.lshr, 1) := by decide +kernel
theorem dX4_signed_27 : decode cX4_signed 27 = .ok (.lreturn, 1) := by decide +kernel
theorem dX4_over_0 : decode cX4_over 0 = .ok (.iload_n 1, 1) := by decide +kernel
theorem dX4_over_1 : decode cX4_over 1 = .ok (.ifCond .eq 16, 3) := by decide +kernel
theorem dX4_over_4 : decode cX4_over 4 = .ok (.aload_n 0, 1) := by decide +kernel
theorem dX4_over_5 : decode cX4_over 5 = .ok (.getfield 13, 3) := by decide +kernel
theorem dX4_over_8 : decode cX4_over 8 = .ok (.bipush 7, 2) := by decide +kernel
theorem dX4_over_10 : decode cX4_over 10 = .ok (.dup2, 1) := by decide +kernel
theorem dX4_over_11 : decode cX4_over 11 = .ok (.laload, 1) := by decide +kernel
theorem dX4_over_12 : decode cX4_over 12 = .ok (.ldc2_w 158, 3) := by decide +kernel
theorem dX4_over_15 : decode cX4_over 15 = .ok (.lor, 1) := by decide +kernel
theorem dX4_over_16 : decode cX4_over 16 = .ok (.lastore, 1) := by decide +kernel
theorem dX4_over_17 : decode cX4_over 17 = .ok (.return_, 1) := by decide +kernel
theorem dX4_above_0 : decode cX4_above 0 = .ok (.lload_n 0, 1) := by decide +kernel
theorem dX4_above_1 : decode cX4_above 1 = .ok (.ldc2_w 160, 3) := by decide +kernel
theorem dX4_above_4 : decode cX4_above 4 = .ok (.ladd, 1) := by decide +kernel
theorem dX4_above_5 : decode cX4_above 5 = .ok (.lload_n 2, 1) := by decide +kernel
theorem dX4_above_6 : decode cX4_above 6 = .ok (.ldc2_w 160, 3) := by decide +kernel
theorem dX4_above_9 : decode cX4_above 9 = .ok (.ladd, 1) := by decide +kernel
theorem dX4_above_10 : decode cX4_above 10 = .ok (.lcmp, 1) := by decide +kernel
theorem dX4_above_11 : decode cX4_above 11 = .ok (.ifCond .le 7, 3) := by decide +kernel
theorem dX4_above_14 : decode cX4_above 14 = .ok (.iconst 1, 1) := by decide +kernel
theorem dX4_above_15 : decode cX4_above 15 = .ok (.goto 4, 3) := by decide +kernel
theorem dX4_above_18 : decode cX4_above 18 = .ok (.iconst 0, 1) := by decide +kernel
theorem dX4_above_19 : decode cX4_above 19 = .ok (.ireturn, 1) := by decide +kernel
theorem dX4_holds_0 : decode cX4_holds 0 = .ok (.iload_n 0, 1) := by decide +kernel
theorem dX4_holds_1 : decode cX4_holds 1 = .ok (.tableswitch 129 0 6 #[43, 55, 67, 79, 93, 105, 117], 43) := by decide +kernel
theorem dX4_holds_44 : decode cX4_holds 44 = .ok (.lload_n 1, 1) := by decide +kernel
theorem dX4_holds_45 : decode cX4_holds 45 = .ok (.lconst 0, 1) := by decide +kernel
theorem dX4_holds_46 : decode cX4_holds 46 = .ok (.lcmp, 1) := by decide +kernel
theorem dX4_holds_47 : decode cX4_holds 47 = .ok (.ifCond .ge 7, 3) := by decide +kernel
theorem dX4_holds_50 : decode cX4_holds 50 = .ok (.iconst 1, 1) := by decide +kernel
theorem dX4_holds_51 : decode cX4_holds 51 = .ok (.goto 4, 3) := by decide +kernel
theorem dX4_holds_54 : decode cX4_holds 54 = .ok (.iconst 0, 1) := by decide +kernel
theorem dX4_holds_55 : decode cX4_holds 55 = .ok (.ireturn, 1) := by decide +kernel
theorem dX4_holds_56 : decode cX4_holds 56 = .ok (.lload_n 1, 1) := by decide +kernel
theorem dX4_holds_57 : decode cX4_holds 57 = .ok (.lconst 0, 1) := by decide +kernel
theorem dX4_holds_58 : decode cX4_holds 58 = .ok (.lcmp, 1) := by decide +kernel
theorem dX4_holds_59 : decode cX4_holds 59 = .ok (.ifCond .ne 7, 3) := by decide +kernel
theorem dX4_holds_62 : decode cX4_holds 62 = .ok (.iconst 1, 1) := by decide +kernel
theorem dX4_holds_63 : decode cX4_holds 63 = .ok (.goto 4, 3) := by decide +kernel
theorem dX4_holds_66 : decode cX4_holds 66 = .ok (.iconst 0, 1) := by decide +kernel
theorem dX4_holds_67 : decode cX4_holds 67 = .ok (.ireturn, 1) := by decide +kernel
theorem dX4_holds_68 : decode cX4_holds 68 = .ok (.lload_n 1, 1) := by decide +kernel
theorem dX4_holds_69 : decode cX4_holds 69 = .ok (.lconst 0, 1) := by decide +kernel
theorem dX4_holds_70 : decode cX4_holds 70 = .ok (.lcmp, 1) := by decide +kernel
theorem dX4_holds_71 : decode cX4_holds 71 = .ok (.ifCond .le 7, 3) := by decide +kernel
theorem dX4_holds_74 : decode cX4_holds 74 = .ok (.iconst 1, 1) := by decide +kernel
theorem dX4_holds_75 : decode cX4_holds 75 = .ok (.goto 4, 3) := by decide +kernel
theorem dX4_holds_78 : decode cX4_holds 78 = .ok (.iconst 0, 1) := by decide +kernel
theorem dX4_holds_79 : decode cX4_holds 79 = .ok (.ireturn, 1) := by decide +kernel
theorem dX4_holds_80 : decode cX4_holds 80 = .ok (.lload_n 1, 1) := by decide +kernel
theorem dX4_holds_81 : decode cX4_holds 81 = .ok (.lconst 1, 1) := by decide +kernel
theorem dX4_holds_82 : decode cX4_holds 82 = .ok (.land, 1) := by decide +kernel
theorem dX4_holds_83 : decode cX4_holds 83 = .ok (.lconst 1, 1) := by decide +kernel
theorem dX4_holds_84 : decode cX4_holds 84 = .ok (.lcmp, 1) := by decide +kernel
theorem dX4_holds_85 : decode cX4_holds 85 = .ok (.ifCond .ne 7, 3) := by decide +kernel
theorem dX4_holds_88 : decode cX4_holds 88 = .ok (.iconst 1, 1) := by decide +kernel
theorem dX4_holds_89 : decode cX4_holds 89 = .ok (.goto 4, 3) := by decide +kernel
theorem dX4_holds_92 : decode cX4_holds 92 = .ok (.iconst 0, 1) := by decide +kernel
theorem dX4_holds_93 : decode cX4_holds 93 = .ok (.ireturn, 1) := by decide +kernel
theorem dX4_holds_94 : decode cX4_holds 94 = .ok (.lload_n 1, 1) := by decide +kernel
theorem dX4_holds_95 : decode cX4_holds 95 = .ok (.lconst 0, 1) := by decide +kernel
theorem dX4_holds_96 : decode cX4_holds 96 = .ok (.lcmp, 1) := by decide +kernel
theorem dX4_holds_97 : decode cX4_holds 97 = .ok (.ifCond .lt 7, 3) := by decide +kernel
theorem dX4_holds_100 : decode cX4_holds 100 = .ok (.iconst 1, 1) := by decide +kernel
theorem dX4_holds_101 : decode cX4_holds 101 = .ok (.goto 4, 3) := by decide +kernel
theorem dX4_holds_104 : decode cX4_holds 104 = .ok (.iconst 0, 1) := by decide +kernel
theorem dX4_holds_105 : decode cX4_holds 105 = .ok (.ireturn, 1) := by decide +kernel
theorem dX4_holds_106 : decode cX4_holds 106 = .ok (.lload_n 1, 1) := by decide +kernel
theorem dX4_holds_107 : decode cX4_holds 107 = .ok (.lconst 0, 1) := by decide +kernel
theorem dX4_holds_108 : decode cX4_holds 108 = .ok (.lcmp, 1) := by decide +kernel
theorem dX4_holds_109 : decode cX4_holds 109 = .ok (.ifCond .eq 7, 3) := by decide +kernel
theorem dX4_holds_112 : decode cX4_holds 112 = .ok (.iconst 1, 1) := by decide +kernel
theorem dX4_holds_113 : decode cX4_holds 113 = .ok (.goto 4, 3) := by decide +kernel
theorem dX4_holds_116 : decode cX4_holds 116 = .ok (.iconst 0, 1) := by decide +kernel
theorem dX4_holds_117 : decode cX4_holds 117 = .ok (.ireturn, 1) := by decide +kernel
theorem dX4_holds_118 : decode cX4_holds 118 = .ok (.lload_n 1, 1) := by decide +kernel
theorem dX4_holds_119 : decode cX4_holds 119 = .ok (.lconst 0, 1) := by decide +kernel
theorem dX4_holds_120 : decode cX4_holds 120 = .ok (.lcmp, 1) := by decide +kernel
theorem dX4_holds_121 : decode cX4_holds 121 = .ok (.ifCond .gt 7, 3) := by decide +kernel
theorem dX4_holds_124 : decode cX4_holds 124 = .ok (.iconst 1, 1) := by decide +kernel
theorem dX4_holds_125 : decode cX4_holds 125 = .ok (.goto 4, 3) := by decide +kernel
theorem dX4_holds_128 : decode cX4_holds 128 = .ok (.iconst 0, 1) := by decide +kernel
theorem dX4_holds_129 : decode cX4_holds 129 = .ok (.ireturn, 1) := by decide +kernel
theorem dX4_holds_130 : decode cX4_holds 130 = .ok (.lload_n 1, 1) := by decide +kernel
theorem dX4_holds_131 : decode cX4_holds 131 = .ok (.lconst 1, 1) := by decide +kernel
theorem dX4_holds_132 : decode cX4_holds 132 = .ok (.land, 1) := by decide +kernel
theorem dX4_holds_133 : decode cX4_holds 133 = .ok (.lconst 0, 1) := by decide +kernel
theorem dX4_holds_134 : decode cX4_holds 134 = .ok (.lcmp, 1) := by decide +kernel
theorem dX4_holds_135 : decode cX4_holds 135 = .ok (.ifCond .ne 7, 3) := by decide +kernel
theorem dX4_holds_138 : decode cX4_holds 138 = .ok (.iconst 1, 1) := by decide +kernel
theorem dX4_holds_139 : decode cX4_holds 139 = .ok (.goto 4, 3) := by decide +kernel
theorem dX4_holds_142 : decode cX4_holds 142 = .ok (.iconst 0, 1) := by decide +kernel
theorem dX4_holds_143 : decode cX4_holds 143 = .ok (.ireturn, 1) := by decide +kernel
set_option maxRecDepth 20000 in
theorem ggX4_step_X4_beyond : GoodIn wsX4_step wsX4_beyond := goodIn_r _ [17, 18] rfl (by decide +kernel)
set_option maxRecDepth 20000 in
theorem gX4_step_X4_beyond : GoodIn wsX4_step (va_wsS RX4 166 yX4_beyond wsX4_beyond) := goodIn_app (goodIn_of _ (by decide +kernel)) ggX4_step_X4_beyond
set_option maxRecDepth 20000 in
theorem ggX4_step_X4_m : GoodIn wsX4_step wsX4_m := goodIn_r _ [22, 23, 119, 120, 121, 122, 123, 124, 125, 126, 127, 128, 129, 130, 131, 132, 133, 134, 135] rfl (by decide +kernel)
set_option maxRecDepth 20000 in
theorem gX4_step_X4_m : GoodIn wsX4_step (wsV RX4 170 RX4 yX4_m wsX4_m) := goodIn_app (goodIn_of _ (by decide +kernel)) ggX4_step_X4_m
set_option maxRecDepth 20000 in
theorem ggX4_step_X4_branch : GoodIn wsX4_step wsX4_branch := goodIn_r _ [27, 4, 13, 1, 28, 29, 30, 31, 32, 16, 33, 119, 120, 121, 122, 123, 124, 125, 126, 127, 128, 129, 130, 131, 132, 133, 134, 135] rfl (by decide +kernel)
set_option maxRecDepth 20000 in
theorem gX4_step_X4_branch : GoodIn wsX4_step (wsV RX4 180 RX4 yX4_branch wsX4_branch) := goodIn_app (goodIn_of _ (by decide +kernel)) ggX4_step_X4_branch
set_option maxRecDepth 20000 in
theorem ggX4_step_X4_low : GoodIn wsX4_step wsX4_low := goodIn_r _ [37, 4, 38, 39, 28, 40, 41, 42, 43, 44, 45, 46, 16, 47, 13, 48, 49, 1, 50, 51, 52, 53, 54, 55, 56, 57, 58, 59, 60, 61, 62, 63, 64, 65, 66, 67, 68, 69, 70, 71, 72, 73, 74, 75, 76, 77, 78, 79, 80, 3, 81, 82, 83, 84, 119, 120, 121, 122, 123, 124, 125, 126, 127, 128, 129, 130, 131, 132, 133, 134, 135] rfl (by decide +kernel)
set_option maxRecDepth 20000 in
theorem gX4_step_X4_low : GoodIn wsX4_step (wsV RX4 184 RX4 yX4_low wsX4_low) := goodIn_app (goodIn_of _ (by decide +kernel)) ggX4_step_X4_low
set_option maxRecDepth 20000 in
theorem ggX4_step_X4_choose : GoodIn wsX4_step wsX4_choose := goodIn_r _ [88, 4, 31, 32, 16, 33, 81, 82, 83, 84, 1, 28, 13, 50, 51, 52, 53, 76, 77, 78, 79, 80, 3, 119, 120, 121, 122, 123, 124, 125, 126, 127, 128, 129, 130, 131, 132, 133, 134, 135] rfl (by decide +kernel)
set_option maxRecDepth 20000 in
theorem gX4_step_X4_choose : GoodIn wsX4_step (wsV RX4 188 RX4 yX4_choose wsX4_choose) := goodIn_app (goodIn_of _ (by decide +kernel)) ggX4_step_X4_choose
set_option maxRecDepth 20000 in
theorem ggX4_step_X4_access : GoodIn wsX4_step wsX4_access := goodIn_r _ [92, 4, 1, 28, 29, 93, 50, 51, 52, 16, 53, 76, 77, 78, 79, 80, 3, 81, 82, 83, 84, 13, 14, 15, 17, 18, 19, 20, 21, 22, 23, 94, 95, 96, 58, 59, 60, 61, 38, 62, 97, 98, 99, 100, 119, 120, 121, 122, 123, 124, 125, 126, 127, 128, 129, 130, 131, 132, 133, 134, 135] rfl (by decide +kernel)
set_option maxRecDepth 20000 in
theorem gX4_step_X4_access : GoodIn wsX4_step (wsV RX4 191 RX4 yX4_access wsX4_access) := goodIn_app (goodIn_of _ (by decide +kernel)) ggX4_step_X4_access
set_option maxRecDepth 20000 in
theorem ggX4_step_X4_bits : GoodIn wsX4_step wsX4_bits := goodIn_r _ [104, 4, 42, 38, 50, 51, 52, 16, 53, 105, 106, 107, 108, 109, 110, 111, 73, 74, 75, 68, 76, 77, 78, 79, 80, 3, 81, 82, 83, 84, 1, 28, 13, 119, 120, 121, 122, 123, 124, 125, 126, 127, 128, 129, 130, 131, 132, 133, 134, 135] rfl (by decide +kernel)
set_option maxRecDepth 20000 in
theorem gX4_step_X4_bits : GoodIn wsX4_step (wsV RX4 194 RX4 yX4_bits wsX4_bits) := goodIn_app (goodIn_of _ (by decide +kernel)) ggX4_step_X4_bits
set_option maxRecDepth 20000 in
theorem ggX4_step_X4_high : GoodIn wsX4_step wsX4_high := goodIn_r _ [115, 5, 116, 13, 4, 42, 1, 28, 117, 118, 38, 76, 77, 78, 16, 79, 80, 3, 81, 82, 83, 84, 50, 51, 52, 53, 119, 120, 121, 122, 123, 124, 125, 126, 127, 128, 129, 130, 131, 132, 133, 134, 135] rfl (by decide +kernel)
set_option maxRecDepth 20000 in
theorem gX4_step_X4_high : GoodIn wsX4_step (wsV RX4 197 RX4 yX4_high wsX4_high) := goodIn_app (goodIn_of _ (by decide +kernel)) ggX4_step_X4_high
theorem dX4_step_0 : decode cX4_step 0 = .ok (.aload_n 0, 1) := by decide +kernel
theorem dX4_step_1 : decode cX4_step 1 = .ok (.getfield 162, 3) := by decide +kernel
theorem dX4_step_4 : decode cX4_step 4 = .ok (.invokestatic 166, 3) := by decide +kernel
theorem dX4_step_7 : decode cX4_step 7 = .ok (.ifCond .eq 5, 3) := by decide +kernel
theorem dX4_step_10 : decode cX4_step 10 = .ok (.iconst 3, 1) := by decide +kernel
theorem dX4_step_11 : decode cX4_step 11 = .ok (.ireturn, 1) := by decide +kernel
theorem dX4_step_12 : decode cX4_step 12 = .ok (.aload_n 0, 1) := by decide +kernel
theorem dX4_step_13 : decode cX4_step 13 = .ok (.aload_n 0, 1) := by decide +kernel
theorem dX4_step_14 : decode cX4_step 14 = .ok (.getfield 162, 3) := by decide +kernel
theorem dX4_step_17 : decode cX4_step 17 = .ok (.iconst 4, 1) := by decide +kernel
theorem dX4_step_18 : decode cX4_step 18 = .ok (.invokevirtual 170, 3) := by decide +kernel
theorem dX4_step_21 : decode cX4_step 21 = .ok (.l2i, 1) := by decide +kernel
theorem dX4_step_22 : decode cX4_step 22 = .ok (.istore_n 1, 1) := by decide +kernel
theorem dX4_step_23 : decode cX4_step 23 = .ok (.iload_n 1, 1) := by decide +kernel
theorem dX4_step_24 : decode cX4_step 24 = .ok (.bipush 24, 2) := by decide +kernel
theorem dX4_step_26 : decode cX4_step 26 = .ok (.iushr, 1) := by decide +kernel
theorem dX4_step_27 : decode cX4_step 27 = .ok (.istore_n 2, 1) := by decide +kernel
theorem dX4_step_28 : decode cX4_step 28 = .ok (.iload_n 1, 1) := by decide +kernel
theorem dX4_step_29 : decode cX4_step 29 = .ok (.bipush 16, 2) := by decide +kernel
theorem dX4_step_31 : decode cX4_step 31 = .ok (.ishr, 1) := by decide +kernel
theorem dX4_step_32 : decode cX4_step 32 = .ok (.sipush 255, 3) := by decide +kernel
theorem dX4_step_35 : decode cX4_step 35 = .ok (.iand, 1) := by decide +kernel
theorem dX4_step_36 : decode cX4_step 36 = .ok (.istore_n 3, 1) := by decide +kernel
theorem dX4_step_37 : decode cX4_step 37 = .ok (.iload_n 1, 1) := by decide +kernel
theorem dX4_step_38 : decode cX4_step 38 = .ok (.bipush 8, 2) := by decide +kernel
theorem dX4_step_40 : decode cX4_step 40 = .ok (.ishr, 1) := by decide +kernel
theorem dX4_step_41 : decode cX4_step 41 = .ok (.sipush 255, 3) := by decide +kernel
theorem dX4_step_44 : decode cX4_step 44 = .ok (.iand, 1) := by decide +kernel
theorem dX4_step_45 : decode cX4_step 45 = .ok (.istore 4, 2) := by decide +kernel
theorem dX4_step_47 : decode cX4_step 47 = .ok (.iload_n 1, 1) := by decide +kernel
theorem dX4_step_48 : decode cX4_step 48 = .ok (.sipush 255, 3) := by decide +kernel
theorem dX4_step_51 : decode cX4_step 51 = .ok (.iand, 1) := by decide +kernel
theorem dX4_step_52 : decode cX4_step 52 = .ok (.istore 5, 2) := by decide +kernel
theorem dX4_step_54 : decode cX4_step 54 = .ok (.aload_n 0, 1) := by decide +kernel
theorem dX4_step_55 : decode cX4_step 55 = .ok (.ldc2_w 174, 3) := by decide +kernel
theorem dX4_step_58 : decode cX4_step 58 = .ok (.aload_n 0, 1) := by decide +kernel
theorem dX4_step_59 : decode cX4_step 59 = .ok (.getfield 176, 3) := by decide +kernel
theorem dX4_step_62 : decode cX4_step 62 = .ok (.lmul, 1) := by decide +kernel
theorem dX4_step_63 : decode cX4_step 63 = .ok (.aload_n 0, 1) := by decide +kernel
theorem dX4_step_64 : decode cX4_step 64 = .ok (.getfield 7, 3) := by decide +kernel
theorem dX4_step_67 : decode cX4_step 67 = .ok (.iload 4, 2) := by decide +kernel
theorem dX4_step_69 : decode cX4_step 69 = .ok (.laload, 1) := by decide +kernel
theorem dX4_step_70 : decode cX4_step 70 = .ok (.ladd, 1) := by decide +kernel
theorem dX4_step_71 : decode cX4_step 71 = .ok (.putfield 176, 3) := by decide +kernel
theorem dX4_step_74 : decode cX4_step 74 = .ok (.aload_n 0, 1) := by decide +kernel
theorem dX4_step_75 : decode cX4_step 75 = .ok (.ldc2_w 174, 3) := by decide +kernel
theorem dX4_step_78 : decode cX4_step 78 = .ok (.aload_n 0, 1) := by decide +kernel
theorem dX4_step_79 : decode cX4_step 79 = .ok (.getfield 176, 3) := by decide +kernel
theorem dX4_step_82 : decode cX4_step 82 = .ok (.lmul, 1) := by decide +kernel
theorem dX4_step_83 : decode cX4_step 83 = .ok (.aload_n 0, 1) := by decide +kernel
theorem dX4_step_84 : decode cX4_step 84 = .ok (.getfield 7, 3) := by decide +kernel
theorem dX4_step_87 : decode cX4_step 87 = .ok (.iload 5, 2) := by decide +kernel
theorem dX4_step_89 : decode cX4_step 89 = .ok (.laload, 1) := by decide +kernel
theorem dX4_step_90 : decode cX4_step 90 = .ok (.ladd, 1) := by decide +kernel
theorem dX4_step_91 : decode cX4_step 91 = .ok (.putfield 176, 3) := by decide +kernel
theorem dX4_step_94 : decode cX4_step 94 = .ok (.aload_n 0, 1) := by decide +kernel
theorem dX4_step_95 : decode cX4_step 95 = .ok (.ldc2_w 174, 3) := by decide +kernel
theorem dX4_step_98 : decode cX4_step 98 = .ok (.aload_n 0, 1) := by decide +kernel
theorem dX4_step_99 : decode cX4_step 99 = .ok (.getfield 176, 3) := by decide +kernel
theorem dX4_step_102 : decode cX4_step 102 = .ok (.lmul, 1) := by decide +kernel
theorem dX4_step_103 : decode cX4_step 103 = .ok (.aload_n 0, 1) := by decide +kernel
theorem dX4_step_104 : decode cX4_step 104 = .ok (.getfield 7, 3) := by decide +kernel
theorem dX4_step_107 : decode cX4_step 107 = .ok (.iload_n 3, 1) := by decide +kernel
theorem dX4_step_108 : decode cX4_step 108 = .ok (.laload, 1) := by decide +kernel
theorem dX4_step_109 : decode cX4_step 109 = .ok (.ladd, 1) := by decide +kernel
theorem dX4_step_110 : decode cX4_step 110 = .ok (.putfield 176, 3) := by decide +kernel
theorem dX4_step_113 : decode cX4_step 113 = .ok (.iload_n 2, 1) := by decide +kernel
theorem dX4_step_114 : decode cX4_step 114 = .ok (.bipush 64, 2) := by decide +kernel
theorem dX4_step_116 : decode cX4_step 116 = .ok (.if_icmp .lt 22, 3) := by decide +kernel
theorem dX4_step_119 : decode cX4_step 119 = .ok (.iload_n 2, 1) := by decide +kernel
theorem dX4_step_120 : decode cX4_step 120 = .ok (.bipush 96, 2) := by decide +kernel
theorem dX4_step_122 : decode cX4_step 122 = .ok (.if_icmp .ge 16, 3) := by decide +kernel
theorem dX4_step_125 : decode cX4_step 125 = .ok (.aload_n 0, 1) := by decide +kernel
theorem dX4_step_126 : decode cX4_step 126 = .ok (.iload_n 2, 1) := by decide +kernel
theorem dX4_step_127 : decode cX4_step 127 = .ok (.iload_n 3, 1) := by decide +kernel
theorem dX4_step_128 : decode cX4_step 128 = .ok (.iload_n 1, 1) := by decide +kernel
theorem dX4_step_129 : decode cX4_step 129 = .ok (.ldc 179, 2) := by decide +kernel
theorem dX4_step_131 : decode cX4_step 131 = .ok (.iand, 1) := by decide +kernel
theorem dX4_step_132 : decode cX4_step 132 = .ok (.invokevirtual 180, 3) := by decide +kernel
theorem dX4_step_135 : decode cX4_step 135 = .ok (.goto 93, 3) := by decide +kernel
theorem dX4_step_138 : decode cX4_step 138 = .ok (.iload_n 2, 1) := by decide +kernel
theorem dX4_step_139 : decode cX4_step 139 = .ok (.bipush 64, 2) := by decide +kernel
theorem dX4_step_141 : decode cX4_step 141 = .ok (.if_icmp .ge 16, 3) := by decide +kernel
theorem dX4_step_144 : decode cX4_step 144 = .ok (.aload_n 0, 1) := by decide +kernel
theorem dX4_step_145 : decode cX4_step 145 = .ok (.iload_n 2, 1) := by decide +kernel
theorem dX4_step_146 : decode cX4_step 146 = .ok (.iload_n 3, 1) := by decide +kernel
theorem dX4_step_147 : decode cX4_step 147 = .ok (.iload 4, 2) := by decide +kernel
theorem dX4_step_149 : decode cX4_step 149 = .ok (.iload 5, 2) := by decide +kernel
theorem dX4_step_151 : decode cX4_step 151 = .ok (.invokevirtual 184, 3) := by decide +kernel
theorem dX4_step_154 : decode cX4_step 154 = .ok (.goto 74, 3) := by decide +kernel
theorem dX4_step_157 : decode cX4_step 157 = .ok (.iload_n 2, 1) := by decide +kernel
theorem dX4_step_158 : decode cX4_step 158 = .ok (.sipush 128, 3) := by decide +kernel
theorem dX4_step_161 : decode cX4_step 161 = .ok (.if_icmp .ge 16, 3) := by decide +kernel
theorem dX4_step_164 : decode cX4_step 164 = .ok (.aload_n 0, 1) := by decide +kernel
theorem dX4_step_165 : decode cX4_step 165 = .ok (.iload_n 2, 1) := by decide +kernel
theorem dX4_step_166 : decode cX4_step 166 = .ok (.iload_n 3, 1) := by decide +kernel
theorem dX4_step_167 : decode cX4_step 167 = .ok (.iload 4, 2) := by decide +kernel
theorem dX4_step_169 : decode cX4_step 169 = .ok (.iload 5, 2) := by decide +kernel
theorem dX4_step_171 : decode cX4_step 171 = .ok (.invokevirtual 188, 3) := by decide +kernel
theorem dX4_step_174 : decode cX4_step 174 = .ok (.goto 54, 3) := by decide +kernel
theorem dX4_step_177 : decode cX4_step 177 = .ok (.iload_n 2, 1) := by decide +kernel
theorem dX4_step_178 : decode cX4_step 178 = .ok (.sipush 192, 3) := by decide +kernel
theorem dX4_step_181 : decode cX4_step 181 = .ok (.if_icmp .ge 16, 3) := by decide +kernel
theorem dX4_step_184 : decode cX4_step 184 = .ok (.aload_n 0, 1) := by decide +kernel
theorem dX4_step_185 : decode cX4_step 185 = .ok (.iload_n 2, 1) := by decide +kernel
theorem dX4_step_186 : decode cX4_step 186 = .ok (.iload_n 3, 1) := by decide +kernel
theorem dX4_step_187 : decode cX4_step 187 = .ok (.iload 4, 2) := by decide +kernel
theorem dX4_step_189 : decode cX4_step 189 = .ok (.iload 5, 2) := by decide +kernel
theorem dX4_step_191 : decode cX4_step 191 = .ok (.invokevirtual 191, 3) := by decide +kernel
theorem dX4_step_194 : decode cX4_step 194 = .ok (.goto 34, 3) := by decide +kernel
theorem dX4_step_197 : decode cX4_step 197 = .ok (.iload_n 2, 1) := by decide +kernel
theorem dX4_step_198 : decode cX4_step 198 = .ok (.sipush 224, 3) := by decide +kernel
theorem dX4_step_201 : decode cX4_step 201 = .ok (.if_icmp .ge 16, 3) := by decide +kernel
theorem dX4_step_204 : decode cX4_step 204 = .ok (.aload_n 0, 1) := by decide +kernel
theorem dX4_step_205 : decode cX4_step 205 = .ok (.iload_n 2, 1) := by decide +kernel
theorem dX4_step_206 : decode cX4_step 206 = .ok (.iload_n 3, 1) := by decide +kernel
theorem dX4_step_207 : decode cX4_step 207 = .ok (.iload 4, 2) := by decide +kernel
theorem dX4_step_209 : decode cX4_step 209 = .ok (.iload 5, 2) := by decide +kernel
theorem dX4_step_211 : decode cX4_step 211 = .ok (.invokevirtual 194, 3) := by decide +kernel
theorem dX4_step_214 : decode cX4_step 214 = .ok (.goto 14, 3) := by decide +kernel
theorem dX4_step_217 : decode cX4_step 217 = .ok (.aload_n 0, 1) := by decide +kernel
theorem dX4_step_218 : decode cX4_step 218 = .ok (.iload_n 2, 1) := by decide +kernel
theorem dX4_step_219 : decode cX4_step 219 = .ok (.iload_n 3, 1) := by decide +kernel
theorem dX4_step_220 : decode cX4_step 220 = .ok (.iload 4, 2) := by decide +kernel
theorem dX4_step_222 : decode cX4_step 222 = .ok (.iload 5, 2) := by decide +kernel
theorem dX4_step_224 : decode cX4_step 224 = .ok (.iload_n 1, 1) := by decide +kernel
theorem dX4_step_225 : decode cX4_step 225 = .ok (.invokevirtual 197, 3) := by decide +kernel
theorem dX4_step_228 : decode cX4_step 228 = .ok (.istore 6, 2) := by decide +kernel
theorem dX4_step_230 : decode cX4_step 230 = .ok (.iload 6, 2) := by decide +kernel
theorem dX4_step_232 : decode cX4_step 232 = .ok (.iconst 2, 1) := by decide +kernel
theorem dX4_step_233 : decode cX4_step 233 = .ok (.if_icmp .eq 9, 3) := by decide +kernel
theorem dX4_step_236 : decode cX4_step 236 = .ok (.iload 6, 2) := by decide +kernel
theorem dX4_step_238 : decode cX4_step 238 = .ok (.iconst 3, 1) := by decide +kernel
theorem dX4_step_239 : decode cX4_step 239 = .ok (.if_icmp .ne 6, 3) := by decide +kernel
theorem dX4_step_242 : decode cX4_step 242 = .ok (.iload 6, 2) := by decide +kernel
theorem dX4_step_244 : decode cX4_step 244 = .ok (.ireturn, 1) := by decide +kernel
theorem dX4_step_245 : decode cX4_step 245 = .ok (.aload_n 0, 1) := by decide +kernel
theorem dX4_step_246 : decode cX4_step 246 = .ok (.getfield 16, 3) := by decide +kernel
theorem dX4_step_249 : decode cX4_step 249 = .ok (.iload_n 2, 1) := by decide +kernel
theorem dX4_step_250 : decode cX4_step 250 = .ok (.dup2, 1) := by decide +kernel
theorem dX4_step_251 : decode cX4_step 251 = .ok (.laload, 1) := by decide +kernel
theorem dX4_step_252 : decode cX4_step 252 = .ok (.lconst 1, 1) := by decide +kernel
theorem dX4_step_253 : decode cX4_step 253 = .ok (.ladd, 1) := by decide +kernel
theorem dX4_step_254 : decode cX4_step 254 = .ok (.lastore, 1) := by decide +kernel
theorem dX4_step_255 : decode cX4_step 255 = .ok (.aload_n 0, 1) := by decide +kernel
theorem dX4_step_256 : decode cX4_step 256 = .ok (.aload_n 0, 1) := by decide +kernel
theorem dX4_step_257 : decode cX4_step 257 = .ok (.getfield 16, 3) := by decide +kernel
theorem dX4_step_260 : decode cX4_step 260 = .ok (.iload_n 2, 1) := by decide +kernel
theorem dX4_step_261 : decode cX4_step 261 = .ok (.laload, 1) := by decide +kernel
theorem dX4_step_262 : decode cX4_step 262 = .ok (.putfield 201, 3) := by decide +kernel
theorem dX4_step_265 : decode cX4_step 265 = .ok (.aload_n 0, 1) := by decide +kernel
theorem dX4_step_266 : decode cX4_step 266 = .ok (.dup, 1) := by decide +kernel
theorem dX4_step_267 : decode cX4_step 267 = .ok (.getfield 204, 3) := by decide +kernel
theorem dX4_step_270 : decode cX4_step 270 = .ok (.iload_n 2, 1) := by decide +kernel
theorem dX4_step_271 : decode cX4_step 271 = .ok (.bipush 24, 2) := by decide +kernel
theorem dX4_step_273 : decode cX4_step 273 = .ok (.if_icmp .lt 15, 3) := by decide +kernel
theorem dX4_step_276 : decode cX4_step 276 = .ok (.iload_n 2, 1) := by decide +kernel
theorem dX4_step_277 : decode cX4_step 277 = .ok (.bipush 28, 2) := by decide +kernel
theorem dX4_step_279 : decode cX4_step 279 = .ok (.if_icmp .ge 9, 3) := by decide +kernel
theorem dX4_step_282 : decode cX4_step 282 = .ok (.ldc2_w 207, 3) := by decide +kernel
theorem dX4_step_285 : decode cX4_step 285 = .ok (.goto 65, 3) := by decide +kernel
theorem dX4_step_288 : decode cX4_step 288 = .ok (.iload_n 2, 1) := by decide +kernel
theorem dX4_step_289 : decode cX4_step 289 = .ok (.bipush 28, 2) := by decide +kernel
theorem dX4_step_291 : decode cX4_step 291 = .ok (.if_icmp .lt 15, 3) := by decide +kernel
theorem dX4_step_294 : decode cX4_step 294 = .ok (.iload_n 2, 1) := by decide +kernel
theorem dX4_step_295 : decode cX4_step 295 = .ok (.bipush 32, 2) := by decide +kernel
theorem dX4_step_297 : decode cX4_step 297 = .ok (.if_icmp .ge 9, 3) := by decide +kernel
theorem dX4_step_300 : decode cX4_step 300 = .ok (.ldc2_w 209, 3) := by decide +kernel
theorem dX4_step_303 : decode cX4_step 303 = .ok (.goto 47, 3) := by decide +kernel
theorem dX4_step_306 : decode cX4_step 306 = .ok (.iload_n 2, 1) := by decide +kernel
theorem dX4_step_307 : decode cX4_step 307 = .ok (.sipush 158, 3) := by decide +kernel
theorem dX4_step_310 : decode cX4_step 310 = .ok (.if_icmp .eq 10, 3) := by decide +kernel
theorem dX4_step_313 : decode cX4_step 313 = .ok (.iload_n 2, 1) := by decide +kernel
theorem dX4_step_314 : decode cX4_step 314 = .ok (.sipush 159, 3) := by decide +kernel
theorem dX4_step_317 : decode cX4_step 317 = .ok (.if_icmp .ne 9, 3) := by decide +kernel
theorem dX4_step_320 : decode cX4_step 320 = .ok (.ldc2_w 211, 3) := by decide +kernel
theorem dX4_step_323 : decode cX4_step 323 = .ok (.goto 27, 3) := by decide +kernel
theorem dX4_step_326 : decode cX4_step 326 = .ok (.iload_n 2, 1) := by decide +kernel
theorem dX4_step_327 : decode cX4_step 327 = .ok (.ifCond .ne 9, 3) := by decide +kernel
theorem dX4_step_330 : decode cX4_step 330 = .ok (.ldc2_w 213, 3) := by decide +kernel
theorem dX4_step_333 : decode cX4_step 333 = .ok (.goto 17, 3) := by decide +kernel
theorem dX4_step_336 : decode cX4_step 336 = .ok (.aload_n 0, 1) := by decide +kernel
theorem dX4_step_337 : decode cX4_step 337 = .ok (.getfield 215, 3) := by decide +kernel
theorem dX4_step_340 : decode cX4_step 340 = .ok (.ifCond .eq 9, 3) := by decide +kernel
theorem dX4_step_343 : decode cX4_step 343 = .ok (.ldc2_w 211, 3) := by decide +kernel
theorem dX4_step_346 : decode cX4_step 346 = .ok (.goto 4, 3) := by decide +kernel
theorem dX4_step_349 : decode cX4_step 349 = .ok (.lconst 1, 1) := by decide +kernel
theorem dX4_step_350 : decode cX4_step 350 = .ok (.ladd, 1) := by decide +kernel
theorem dX4_step_351 : decode cX4_step 351 = .ok (.putfield 204, 3) := by decide +kernel
theorem dX4_step_354 : decode cX4_step 354 = .ok (.iload 6, 2) := by decide +kernel
theorem dX4_step_356 : decode cX4_step 356 = .ok (.ireturn, 1) := by decide +kernel
set_option maxRecDepth 20000 in
theorem ggX4_branch_X4_holds : GoodIn wsX4_branch wsX4_holds := goodIn_r _ [10] rfl (by decide +kernel)
set_option maxRecDepth 20000 in
theorem gX4_branch_X4_holds : GoodIn wsX4_branch (va_wsS RX4 219 yX4_holds wsX4_holds) := goodIn_app (goodIn_of _ (by decide +kernel)) ggX4_branch_X4_holds
theorem dX4_branch_0 : decode cX4_branch 0 = .ok (.iload_n 1, 1) := by decide +kernel
theorem dX4_branch_1 : decode cX4_branch 1 = .ok (.iconst 1, 1) := by decide +kernel
theorem dX4_branch_2 : decode cX4_branch 2 = .ok (.ishr, 1) := by decide +kernel
theorem dX4_branch_3 : decode cX4_branch 3 = .ok (.bipush 7, 2) := by decide +kernel
theorem dX4_branch_5 : decode cX4_branch 5 = .ok (.iand, 1) := by decide +kernel
theorem dX4_branch_6 : decode cX4_branch 6 = .ok (.aload_n 0, 1) := by decide +kernel
theorem dX4_branch_7 : decode cX4_branch 7 = .ok (.getfield 7, 3) := by decide +kernel
theorem dX4_branch_10 : decode cX4_branch 10 = .ok (.iload_n 2, 1) := by decide +kernel
theorem dX4_branch_11 : decode cX4_branch 11 = .ok (.laload, 1) := by decide +kernel
theorem dX4_branch_12 : decode cX4_branch 12 = .ok (.invokestatic 219, 3) := by decide +kernel
theorem dX4_branch_15 : decode cX4_branch 15 = .ok (.istore 4, 2) := by decide +kernel
theorem dX4_branch_17 : decode cX4_branch 17 = .ok (.aload_n 0, 1) := by decide +kernel
theorem dX4_branch_18 : decode cX4_branch 18 = .ok (.iload 4, 2) := by decide +kernel
theorem dX4_branch_20 : decode cX4_branch 20 = .ok (.iload_n 1, 1) := by decide +kernel
theorem dX4_branch_21 : decode cX4_branch 21 = .ok (.bipush 80, 2) := by decide +kernel
theorem dX4_branch_23 : decode cX4_branch 23 = .ok (.if_icmp .ge 7, 3) := by decide +kernel
theorem dX4_branch_26 : decode cX4_branch 26 = .ok (.iconst 1, 1) := by decide +kernel
theorem dX4_branch_27 : decode cX4_branch 27 = .ok (.goto 4, 3) := by decide +kernel
theorem dX4_branch_30 : decode cX4_branch 30 = .ok (.iconst 0, 1) := by decide +kernel
theorem dX4_branch_31 : decode cX4_branch 31 = .ok (.if_icmp .ne 7, 3) := by decide +kernel
theorem dX4_branch_34 : decode cX4_branch 34 = .ok (.iconst 1, 1) := by decide +kernel
theorem dX4_branch_35 : decode cX4_branch 35 = .ok (.goto 4, 3) := by decide +kernel
theorem dX4_branch_38 : decode cX4_branch 38 = .ok (.iconst 0, 1) := by decide +kernel
theorem dX4_branch_39 : decode cX4_branch 39 = .ok (.putfield 215, 3) := by decide +kernel
theorem dX4_branch_42 : decode cX4_branch 42 = .ok (.aload_n 0, 1) := by decide +kernel
theorem dX4_branch_43 : decode cX4_branch 43 = .ok (.dup, 1) := by decide +kernel
theorem dX4_branch_44 : decode cX4_branch 44 = .ok (.getfield 162, 3) := by decide +kernel
theorem dX4_branch_47 : decode cX4_branch 47 = .ok (.iload 4, 2) := by decide +kernel
theorem dX4_branch_49 : decode cX4_branch 49 = .ok (.ifCond .ne 9, 3) := by decide +kernel
theorem dX4_branch_52 : decode cX4_branch 52 = .ok (.ldc2_w 223, 3) := by decide +kernel
theorem dX4_branch_55 : decode cX4_branch 55 = .ok (.goto 27, 3) := by decide +kernel
theorem dX4_branch_58 : decode cX4_branch 58 = .ok (.iload_n 1, 1) := by decide +kernel
theorem dX4_branch_59 : decode cX4_branch 59 = .ok (.iconst 1, 1) := by decide +kernel
theorem dX4_branch_60 : decode cX4_branch 60 = .ok (.iand, 1) := by decide +kernel
theorem dX4_branch_61 : decode cX4_branch 61 = .ok (.ifCond .ne 12, 3) := by decide +kernel
theorem dX4_branch_64 : decode cX4_branch 64 = .ok (.ldc2_w 223, 3) := by decide +kernel
theorem dX4_branch_67 : decode cX4_branch 67 = .ok (.iload_n 3, 1) := by decide +kernel
theorem dX4_branch_68 : decode cX4_branch 68 = .ok (.i2l, 1) := by decide +kernel
theorem dX4_branch_69 : decode cX4_branch 69 = .ok (.lmul, 1) := by decide +kernel
theorem dX4_branch_70 : decode cX4_branch 70 = .ok (.goto 12, 3) := by decide +kernel
theorem dX4_branch_73 : decode cX4_branch 73 = .ok (.ldc2_w 225, 3) := by decide +kernel
theorem dX4_branch_76 : decode cX4_branch 76 = .ok (.ldc 227, 2) := by decide +kernel
theorem dX4_branch_78 : decode cX4_branch 78 = .ok (.iload_n 3, 1) := by decide +kernel
theorem dX4_branch_79 : decode cX4_branch 79 = .ok (.isub, 1) := by decide +kernel
theorem dX4_branch_80 : decode cX4_branch 80 = .ok (.i2l, 1) := by decide +kernel
theorem dX4_branch_81 : decode cX4_branch 81 = .ok (.lmul, 1) := by decide +kernel
theorem dX4_branch_82 : decode cX4_branch 82 = .ok (.ladd, 1) := by decide +kernel
theorem dX4_branch_83 : decode cX4_branch 83 = .ok (.putfield 162, 3) := by decide +kernel
theorem dX4_branch_86 : decode cX4_branch 86 = .ok (.iconst 0, 1) := by decide +kernel
theorem dX4_branch_87 : decode cX4_branch 87 = .ok (.ireturn, 1) := by decide +kernel
theorem dX4_number_0 : decode cX4_number 0 = .ok (.iload_n 1, 1) := by decide +kernel
theorem dX4_number_1 : decode cX4_number 1 = .ok (.iconst 1, 1) := by decide +kernel
theorem dX4_number_2 : decode cX4_number 2 = .ok (.iand, 1) := by decide +kernel
theorem dX4_number_3 : decode cX4_number 3 = .ok (.iconst 1, 1) := by decide +kernel
theorem dX4_number_4 : decode cX4_number 4 = .ok (.if_icmp .ne 8, 3) := by decide +kernel
theorem dX4_number_7 : decode cX4_number 7 = .ok (.iload_n 2, 1) := by decide +kernel
theorem dX4_number_8 : decode cX4_number 8 = .ok (.i2l, 1) := by decide +kernel
theorem dX4_number_9 : decode cX4_number 9 = .ok (.goto 9, 3) := by decide +kernel
theorem dX4_number_12 : decode cX4_number 12 = .ok (.aload_n 0, 1) := by decide +kernel
theorem dX4_number_13 : decode cX4_number 13 = .ok (.getfield 7, 3) := by decide +kernel
theorem dX4_number_16 : decode cX4_number 16 = .ok (.iload_n 2, 1) := by decide +kernel
theorem dX4_number_17 : decode cX4_number 17 = .ok (.laload, 1) := by decide +kernel
theorem dX4_number_18 : decode cX4_number 18 = .ok (.lreturn, 1) := by decide +kernel
set_option maxRecDepth 20000 in
theorem ggX4_done_X4_on : GoodIn wsX4_done wsX4_on := goodIn_r _ [8, 9, 10, 11, 12, 13, 14, 15, 16, 17, 18, 19, 20, 21, 22, 23, 24, 25, 26, 27, 28] rfl (by decide +kernel)
set_option maxRecDepth 20000 in
theorem gX4_done_X4_on : GoodIn wsX4_done (wsV RX4 230 RX4 yX4_on wsX4_on) := goodIn_app (goodIn_of _ (by decide +kernel)) ggX4_done_X4_on
theorem dX4_done_0 : decode cX4_done 0 = .ok (.aload_n 0, 1) := by decide +kernel
theorem dX4_done_1 : decode cX4_done 1 = .ok (.ldc2_w 228, 3) := by decide +kernel
theorem dX4_done_4 : decode cX4_done 4 = .ok (.aload_n 0, 1) := by decide +kernel
theorem dX4_done_5 : decode cX4_done 5 = .ok (.getfield 176, 3) := by decide +kernel
theorem dX4_done_8 : decode cX4_done 8 = .ok (.lmul, 1) := by decide +kernel
theorem dX4_done_9 : decode cX4_done 9 = .ok (.aload_n 0, 1) := by decide +kernel
theorem dX4_done_10 : decode cX4_done 10 = .ok (.getfield 7, 3) := by decide +kernel
theorem dX4_done_13 : decode cX4_done 13 = .ok (.iload_n 1, 1) := by decide +kernel
theorem dX4_done_14 : decode cX4_done 14 = .ok (.laload, 1) := by decide +kernel
theorem dX4_done_15 : decode cX4_done 15 = .ok (.ladd, 1) := by decide +kernel
theorem dX4_done_16 : decode cX4_done 16 = .ok (.putfield 176, 3) := by decide +kernel
theorem dX4_done_19 : decode cX4_done 19 = .ok (.aload_n 0, 1) := by decide +kernel
theorem dX4_done_20 : decode cX4_done 20 = .ok (.getfield 7, 3) := by decide +kernel
theorem dX4_done_23 : decode cX4_done 23 = .ok (.iload_n 1, 1) := by decide +kernel
theorem dX4_done_24 : decode cX4_done 24 = .ok (.lload_n 2, 1) := by decide +kernel
theorem dX4_done_25 : decode cX4_done 25 = .ok (.lastore, 1) := by decide +kernel
theorem dX4_done_26 : decode cX4_done 26 = .ok (.aload_n 0, 1) := by decide +kernel
theorem dX4_done_27 : decode cX4_done 27 = .ok (.invokevirtual 230, 3) := by decide +kernel
theorem dX4_done_30 : decode cX4_done 30 = .ok (.ireturn, 1) := by decide +kernel
theorem dX4_on_0 : decode cX4_on 0 = .ok (.aload_n 0, 1) := by decide +kernel
theorem dX4_on_1 : decode cX4_on 1 = .ok (.dup, 1) := by decide +kernel
theorem dX4_on_2 : decode cX4_on 2 = .ok (.getfield 162, 3) := by decide +kernel
theorem dX4_on_5 : decode cX4_on 5 = .ok (.ldc2_w 223, 3) := by decide +kernel
theorem dX4_on_8 : decode cX4_on 8 = .ok (.ladd, 1) := by decide +kernel
theorem dX4_on_9 : decode cX4_on 9 = .ok (.putfield 162, 3) := by decide +kernel
theorem dX4_on_12 : decode cX4_on 12 = .ok (.aload_n 0, 1) := by decide +kernel
theorem dX4_on_13 : decode cX4_on 13 = .ok (.iconst 0, 1) := by decide +kernel
theorem dX4_on_14 : decode cX4_on 14 = .ok (.putfield 215, 3) := by decide +kernel
theorem dX4_on_17 : decode cX4_on 17 = .ok (.iconst 0, 1) := by decide +kernel
theorem dX4_on_18 : decode cX4_on 18 = .ok (.ireturn, 1) := by decide +kernel
set_option maxRecDepth 20000 in
theorem ggX4_low_X4_trap : GoodIn wsX4_low wsX4_trap := goodIn_r _ [13, 14, 15, 16, 1, 17, 4, 54, 55, 56, 57, 58, 59, 60, 61, 62, 63, 64, 65, 66, 67, 68, 69, 70] rfl (by decide +kernel)
set_option maxRecDepth 20000 in
theorem gX4_low_X4_trap : GoodIn wsX4_low (wsV RX4 234 RX4 yX4_trap wsX4_trap) := goodIn_app (goodIn_of _ (by decide +kernel)) ggX4_low_X4_trap
set_option maxRecDepth 20000 in
theorem ggX4_low_X4_number : GoodIn wsX4_low wsX4_number := goodIn_r _ [21, 1, 54, 55, 56, 57, 58, 59, 60, 61, 62, 63, 64, 65, 66, 67, 68, 69, 70] rfl (by decide +kernel)
set_option maxRecDepth 20000 in
theorem gX4_low_X4_number : GoodIn wsX4_low (wsV RX4 237 RX4 yX4_number wsX4_number) := goodIn_app (goodIn_of _ (by decide +kernel)) ggX4_low_X4_number
set_option maxRecDepth 20000 in
theorem ggX4_low_X4_upper : GoodIn wsX4_low wsX4_upper := goodIn_r _ [24, 25] rfl (by decide +kernel)
set_option maxRecDepth 20000 in
theorem gX4_low_X4_upper : GoodIn wsX4_low (va_wsS RX4 241 yX4_upper wsX4_upper) := goodIn_app (goodIn_of _ (by decide +kernel)) ggX4_low_X4_upper
set_option maxRecDepth 20000 in
theorem ggX4_low_X4_over : GoodIn wsX4_low wsX4_over := goodIn_r _ [29, 2, 30, 54, 55, 56, 57, 58, 59, 60, 61, 62, 63, 64, 65, 66, 67, 68, 69, 70] rfl (by decide +kernel)
set_option maxRecDepth 20000 in
theorem gX4_low_X4_over : GoodIn wsX4_low (wsV RX4 245 RX4 yX4_over wsX4_over) := goodIn_app (goodIn_of _ (by decide +kernel)) ggX4_low_X4_over
set_option maxRecDepth 20000 in
theorem ggX4_low_X4_quotient : GoodIn wsX4_low wsX4_quotient := goodIn_r _ [34, 2, 35, 36, 7, 26, 27, 28, 12, 29, 30, 54, 55, 56, 57, 58, 59, 60, 61, 62, 63, 64, 65, 66, 67, 68, 69, 70] rfl (by decide +kernel)
set_option maxRecDepth 20000 in
theorem gX4_low_X4_quotient : GoodIn wsX4_low (wsV RX4 249 RX4 yX4_quotient wsX4_quotient) := goodIn_app (goodIn_of _ (by decide +kernel)) ggX4_low_X4_quotient
set_option maxRecDepth 20000 in
theorem ggX4_low_X4_quotientOf : GoodIn wsX4_low wsX4_quotientOf := goodIn_r _ [40, 2, 41, 42, 12, 43, 36, 54, 55, 56, 57, 58, 59, 60, 61, 62, 63, 64, 65, 66, 67, 68, 69, 70] rfl (by decide +kernel)
set_option maxRecDepth 20000 in
theorem gX4_low_X4_quotientOf : GoodIn wsX4_low (wsV RX4 252 RX4 yX4_quotientOf wsX4_quotientOf) := goodIn_app (goodIn_of _ (by decide +kernel)) ggX4_low_X4_quotientOf
set_option maxRecDepth 20000 in
theorem ggX4_low_X4_above : GoodIn wsX4_low wsX4_above := goodIn_r _ [43, 36] rfl (by decide +kernel)
set_option maxRecDepth 20000 in
theorem gX4_low_X4_above : GoodIn wsX4_low (va_wsS RX4 263 yX4_above wsX4_above) := goodIn_app (goodIn_of _ (by decide +kernel)) ggX4_low_X4_above
set_option maxRecDepth 20000 in
theorem ggX4_low_X4_done : GoodIn wsX4_low wsX4_done := goodIn_r _ [47, 48, 49, 1, 50, 51, 52, 12, 53, 17, 4, 14, 54, 55, 56, 57, 58, 59, 60, 61, 62, 63, 64, 65, 66, 67, 68, 69, 70] rfl (by decide +kernel)
set_option maxRecDepth 20000 in
theorem gX4_low_X4_done : GoodIn wsX4_low (wsV RX4 269 RX4 yX4_done wsX4_done) := goodIn_app (goodIn_of _ (by decide +kernel)) ggX4_low_X4_done
theorem dX4_low_0 : decode cX4_low 0 = .ok (.iload_n 1, 1) := by decide +kernel
theorem dX4_low_1 : decode cX4_low 1 = .ok (.ifCond .ne 12, 3) := by decide +kernel
theorem dX4_low_4 : decode cX4_low 4 = .ok (.aload_n 0, 1) := by decide +kernel
theorem dX4_low_5 : decode cX4_low 5 = .ok (.iload_n 2, 1) := by decide +kernel
theorem dX4_low_6 : decode cX4_low 6 = .ok (.iload_n 3, 1) := by decide +kernel
theorem dX4_low_7 : decode cX4_low 7 = .ok (.iload 4, 2) := by decide +kernel
theorem dX4_low_9 : decode cX4_low 9 = .ok (.invokevirtual 234, 3) := by decide +kernel
theorem dX4_low_12 : decode cX4_low 12 = .ok (.ireturn, 1) := by decide +kernel
theorem dX4_low_13 : decode cX4_low 13 = .ok (.iload_n 1, 1) := by decide +kernel
theorem dX4_low_14 : decode cX4_low 14 = .ok (.bipush 24, 2) := by decide +kernel
theorem dX4_low_16 : decode cX4_low 16 = .ok (.if_icmp .ge 5, 3) := by decide +kernel
theorem dX4_low_19 : decode cX4_low 19 = .ok (.iconst 2, 1) := by decide +kernel
theorem dX4_low_20 : decode cX4_low 20 = .ok (.ireturn, 1) := by decide +kernel
theorem dX4_low_21 : decode cX4_low 21 = .ok (.aload_n 0, 1) := by decide +kernel
theorem dX4_low_22 : decode cX4_low 22 = .ok (.getfield 7, 3) := by decide +kernel
theorem dX4_low_25 : decode cX4_low 25 = .ok (.iload_n 3, 1) := by decide +kernel
theorem dX4_low_26 : decode cX4_low 26 = .ok (.laload, 1) := by decide +kernel
theorem dX4_low_27 : decode cX4_low 27 = .ok (.lstore 5, 2) := by decide +kernel
theorem dX4_low_29 : decode cX4_low 29 = .ok (.aload_n 0, 1) := by decide +kernel
theorem dX4_low_30 : decode cX4_low 30 = .ok (.iload_n 1, 1) := by decide +kernel
theorem dX4_low_31 : decode cX4_low 31 = .ok (.iload 4, 2) := by decide +kernel
theorem dX4_low_33 : decode cX4_low 33 = .ok (.invokevirtual 237, 3) := by decide +kernel
theorem dX4_low_36 : decode cX4_low 36 = .ok (.lstore 7, 2) := by decide +kernel
theorem dX4_low_38 : decode cX4_low 38 = .ok (.iload_n 1, 1) := by decide +kernel
theorem dX4_low_39 : decode cX4_low 39 = .ok (.sipush 254, 3) := by decide +kernel
theorem dX4_low_42 : decode cX4_low 42 = .ok (.iand, 1) := by decide +kernel
theorem dX4_low_43 : decode cX4_low 43 = .ok (.tableswitch 649 24 60 #[161, 649, 196, 649, 237, 649, 250, 649, 263, 649, 298, 649, 308, 649, 343, 649, 353, 649, 367, 649, 381, 649, 395, 649, 409, 649, 441, 649, 475, 649, 510, 649, 520, 649, 593, 649, 619], 161) := by decide +kernel
theorem dX4_low_204 : decode cX4_low 204 = .ok (.lload 5, 2) := by decide +kernel
theorem dX4_low_206 : decode cX4_low 206 = .ok (.lload 7, 2) := by decide +kernel
theorem dX4_low_208 : decode cX4_low 208 = .ok (.lmul, 1) := by decide +kernel
theorem dX4_low_209 : decode cX4_low 209 = .ok (.lstore 9, 2) := by decide +kernel
theorem dX4_low_211 : decode cX4_low 211 = .ok (.aload_n 0, 1) := by decide +kernel
theorem dX4_low_212 : decode cX4_low 212 = .ok (.lload 5, 2) := by decide +kernel
theorem dX4_low_214 : decode cX4_low 214 = .ok (.lload 7, 2) := by decide +kernel
theorem dX4_low_216 : decode cX4_low 216 = .ok (.invokestatic 241, 3) := by decide +kernel
theorem dX4_low_219 : decode cX4_low 219 = .ok (.lload 9, 2) := by decide +kernel
theorem dX4_low_221 : decode cX4_low 221 = .ok (.bipush 63, 2) := by decide +kernel
theorem dX4_low_223 : decode cX4_low 223 = .ok (.lshr, 1) := by decide +kernel
theorem dX4_low_224 : decode cX4_low 224 = .ok (.lcmp, 1) := by decide +kernel
theorem dX4_low_225 : decode cX4_low 225 = .ok (.ifCond .eq 7, 3) := by decide +kernel
theorem dX4_low_228 : decode cX4_low 228 = .ok (.iconst 1, 1) := by decide +kernel
theorem dX4_low_229 : decode cX4_low 229 = .ok (.goto 4, 3) := by decide +kernel
theorem dX4_low_232 : decode cX4_low 232 = .ok (.iconst 0, 1) := by decide +kernel
theorem dX4_low_233 : decode cX4_low 233 = .ok (.invokevirtual 245, 3) := by decide +kernel
theorem dX4_low_236 : decode cX4_low 236 = .ok (.goto 479, 3) := by decide +kernel
theorem dX4_low_239 : decode cX4_low 239 = .ok (.lload 5, 2) := by decide +kernel
theorem dX4_low_241 : decode cX4_low 241 = .ok (.lload 7, 2) := by decide +kernel
theorem dX4_low_243 : decode cX4_low 243 = .ok (.lmul, 1) := by decide +kernel
theorem dX4_low_244 : decode cX4_low 244 = .ok (.lstore 9, 2) := by decide +kernel
theorem dX4_low_246 : decode cX4_low 246 = .ok (.aload_n 0, 1) := by decide +kernel
theorem dX4_low_247 : decode cX4_low 247 = .ok (.getfield 13, 3) := by decide +kernel
theorem dX4_low_250 : decode cX4_low 250 = .ok (.iconst 3, 1) := by decide +kernel
theorem dX4_low_251 : decode cX4_low 251 = .ok (.lload 5, 2) := by decide +kernel
theorem dX4_low_253 : decode cX4_low 253 = .ok (.lload 7, 2) := by decide +kernel
theorem dX4_low_255 : decode cX4_low 255 = .ok (.invokestatic 241, 3) := by decide +kernel
theorem dX4_low_258 : decode cX4_low 258 = .ok (.lload 5, 2) := by decide +kernel
theorem dX4_low_260 : decode cX4_low 260 = .ok (.bipush 63, 2) := by decide +kernel
theorem dX4_low_262 : decode cX4_low 262 = .ok (.lshr, 1) := by decide +kernel
theorem dX4_low_263 : decode cX4_low 263 = .ok (.lload 7, 2) := by decide +kernel
theorem dX4_low_265 : decode cX4_low 265 = .ok (.land, 1) := by decide +kernel
theorem dX4_low_266 : decode cX4_low 266 = .ok (.ladd, 1) := by decide +kernel
theorem dX4_low_267 : decode cX4_low 267 = .ok (.lload 7, 2) := by decide +kernel
theorem dX4_low_269 : decode cX4_low 269 = .ok (.bipush 63, 2) := by decide +kernel
theorem dX4_low_271 : decode cX4_low 271 = .ok (.lshr, 1) := by decide +kernel
theorem dX4_low_272 : decode cX4_low 272 = .ok (.lload 5, 2) := by decide +kernel
theorem dX4_low_274 : decode cX4_low 274 = .ok (.land, 1) := by decide +kernel
theorem dX4_low_275 : decode cX4_low 275 = .ok (.ladd, 1) := by decide +kernel
theorem dX4_low_276 : decode cX4_low 276 = .ok (.lastore, 1) := by decide +kernel
theorem dX4_low_277 : decode cX4_low 277 = .ok (.goto 438, 3) := by decide +kernel
theorem dX4_low_280 : decode cX4_low 280 = .ok (.aload_n 0, 1) := by decide +kernel
theorem dX4_low_281 : decode cX4_low 281 = .ok (.lload 5, 2) := by decide +kernel
theorem dX4_low_283 : decode cX4_low 283 = .ok (.lload 7, 2) := by decide +kernel
theorem dX4_low_285 : decode cX4_low 285 = .ok (.invokevirtual 249, 3) := by decide +kernel
theorem dX4_low_288 : decode cX4_low 288 = .ok (.lstore 9, 2) := by decide +kernel
theorem dX4_low_290 : decode cX4_low 290 = .ok (.goto 425, 3) := by decide +kernel
theorem dX4_low_293 : decode cX4_low 293 = .ok (.aload_n 0, 1) := by decide +kernel
theorem dX4_low_294 : decode cX4_low 294 = .ok (.lload 5, 2) := by decide +kernel
theorem dX4_low_296 : decode cX4_low 296 = .ok (.lload 7, 2) := by decide +kernel
theorem dX4_low_298 : decode cX4_low 298 = .ok (.invokevirtual 252, 3) := by decide +kernel
theorem dX4_low_301 : decode cX4_low 301 = .ok (.lstore 9, 2) := by decide +kernel
theorem dX4_low_303 : decode cX4_low 303 = .ok (.goto 412, 3) := by decide +kernel
theorem dX4_low_306 : decode cX4_low 306 = .ok (.lload 5, 2) := by decide +kernel
theorem dX4_low_308 : decode cX4_low 308 = .ok (.lload 7, 2) := by decide +kernel
theorem dX4_low_310 : decode cX4_low 310 = .ok (.ladd, 1) := by decide +kernel
theorem dX4_low_311 : decode cX4_low 311 = .ok (.lstore 9, 2) := by decide +kernel
theorem dX4_low_313 : decode cX4_low 313 = .ok (.aload_n 0, 1) := by decide +kernel
theorem dX4_low_314 : decode cX4_low 314 = .ok (.lload 5, 2) := by decide +kernel
theorem dX4_low_316 : decode cX4_low 316 = .ok (.lload 9, 2) := by decide +kernel
theorem dX4_low_318 : decode cX4_low 318 = .ok (.lxor, 1) := by decide +kernel
theorem dX4_low_319 : decode cX4_low 319 = .ok (.lload 7, 2) := by decide +kernel
theorem dX4_low_321 : decode cX4_low 321 = .ok (.lload 9, 2) := by decide +kernel
theorem dX4_low_323 : decode cX4_low 323 = .ok (.lxor, 1) := by decide +kernel
theorem dX4_low_324 : decode cX4_low 324 = .ok (.land, 1) := by decide +kernel
theorem dX4_low_325 : decode cX4_low 325 = .ok (.lconst 0, 1) := by decide +kernel
theorem dX4_low_326 : decode cX4_low 326 = .ok (.lcmp, 1) := by decide +kernel
theorem dX4_low_327 : decode cX4_low 327 = .ok (.ifCond .ge 7, 3) := by decide +kernel
theorem dX4_low_330 : decode cX4_low 330 = .ok (.iconst 1, 1) := by decide +kernel
theorem dX4_low_331 : decode cX4_low 331 = .ok (.goto 4, 3) := by decide +kernel
theorem dX4_low_334 : decode cX4_low 334 = .ok (.iconst 0, 1) := by decide +kernel
theorem dX4_low_335 : decode cX4_low 335 = .ok (.invokevirtual 245, 3) := by decide +kernel
theorem dX4_low_338 : decode cX4_low 338 = .ok (.goto 377, 3) := by decide +kernel
theorem dX4_low_341 : decode cX4_low 341 = .ok (.lload 5, 2) := by decide +kernel
theorem dX4_low_343 : decode cX4_low 343 = .ok (.lload 7, 2) := by decide +kernel
theorem dX4_low_345 : decode cX4_low 345 = .ok (.ladd, 1) := by decide +kernel
theorem dX4_low_346 : decode cX4_low 346 = .ok (.lstore 9, 2) := by decide +kernel
theorem dX4_low_348 : decode cX4_low 348 = .ok (.goto 367, 3) := by decide +kernel
theorem dX4_low_351 : decode cX4_low 351 = .ok (.lload 5, 2) := by decide +kernel
theorem dX4_low_353 : decode cX4_low 353 = .ok (.lload 7, 2) := by decide +kernel
theorem dX4_low_355 : decode cX4_low 355 = .ok (.lsub, 1) := by decide +kernel
theorem dX4_low_356 : decode cX4_low 356 = .ok (.lstore 9, 2) := by decide +kernel
theorem dX4_low_358 : decode cX4_low 358 = .ok (.aload_n 0, 1) := by decide +kernel
theorem dX4_low_359 : decode cX4_low 359 = .ok (.lload 5, 2) := by decide +kernel
theorem dX4_low_361 : decode cX4_low 361 = .ok (.lload 7, 2) := by decide +kernel
theorem dX4_low_363 : decode cX4_low 363 = .ok (.lxor, 1) := by decide +kernel
theorem dX4_low_364 : decode cX4_low 364 = .ok (.lload 5, 2) := by decide +kernel
theorem dX4_low_366 : decode cX4_low 366 = .ok (.lload 9, 2) := by decide +kernel
theorem dX4_low_368 : decode cX4_low 368 = .ok (.lxor, 1) := by decide +kernel
theorem dX4_low_369 : decode cX4_low 369 = .ok (.land, 1) := by decide +kernel
theorem dX4_low_370 : decode cX4_low 370 = .ok (.lconst 0, 1) := by decide +kernel
theorem dX4_low_371 : decode cX4_low 371 = .ok (.lcmp, 1) := by decide +kernel
theorem dX4_low_372 : decode cX4_low 372 = .ok (.ifCond .ge 7, 3) := by decide +kernel
theorem dX4_low_375 : decode cX4_low 375 = .ok (.iconst 1, 1) := by decide +kernel
theorem dX4_low_376 : decode cX4_low 376 = .ok (.goto 4, 3) := by decide +kernel
theorem dX4_low_379 : decode cX4_low 379 = .ok (.iconst 0, 1) := by decide +kernel
theorem dX4_low_380 : decode cX4_low 380 = .ok (.invokevirtual 245, 3) := by decide +kernel
theorem dX4_low_383 : decode cX4_low 383 = .ok (.goto 332, 3) := by decide +kernel
theorem dX4_low_386 : decode cX4_low 386 = .ok (.lload 5, 2) := by decide +kernel
theorem dX4_low_388 : decode cX4_low 388 = .ok (.lload 7, 2) := by decide +kernel
theorem dX4_low_390 : decode cX4_low 390 = .ok (.lsub, 1) := by decide +kernel
theorem dX4_low_391 : decode cX4_low 391 = .ok (.lstore 9, 2) := by decide +kernel
theorem dX4_low_393 : decode cX4_low 393 = .ok (.goto 322, 3) := by decide +kernel
theorem dX4_low_396 : decode cX4_low 396 = .ok (.lload 5, 2) := by decide +kernel
theorem dX4_low_398 : decode cX4_low 398 = .ok (.ldc2_w 255, 3) := by decide +kernel
theorem dX4_low_401 : decode cX4_low 401 = .ok (.lmul, 1) := by decide +kernel
theorem dX4_low_402 : decode cX4_low 402 = .ok (.lload 7, 2) := by decide +kernel
theorem dX4_low_404 : decode cX4_low 404 = .ok (.ladd, 1) := by decide +kernel
theorem dX4_low_405 : decode cX4_low 405 = .ok (.lstore 9, 2) := by decide +kernel
theorem dX4_low_407 : decode cX4_low 407 = .ok (.goto 308, 3) := by decide +kernel
theorem dX4_low_410 : decode cX4_low 410 = .ok (.lload 5, 2) := by decide +kernel
theorem dX4_low_412 : decode cX4_low 412 = .ok (.ldc2_w 223, 3) := by decide +kernel
theorem dX4_low_415 : decode cX4_low 415 = .ok (.lmul, 1) := by decide +kernel
theorem dX4_low_416 : decode cX4_low 416 = .ok (.lload 7, 2) := by decide +kernel
theorem dX4_low_418 : decode cX4_low 418 = .ok (.ladd, 1) := by decide +kernel
theorem dX4_low_419 : decode cX4_low 419 = .ok (.lstore 9, 2) := by decide +kernel
theorem dX4_low_421 : decode cX4_low 421 = .ok (.goto 294, 3) := by decide +kernel
theorem dX4_low_424 : decode cX4_low 424 = .ok (.lload 5, 2) := by decide +kernel
theorem dX4_low_426 : decode cX4_low 426 = .ok (.ldc2_w 257, 3) := by decide +kernel
theorem dX4_low_429 : decode cX4_low 429 = .ok (.lmul, 1) := by decide +kernel
theorem dX4_low_430 : decode cX4_low 430 = .ok (.lload 7, 2) := by decide +kernel
theorem dX4_low_432 : decode cX4_low 432 = .ok (.ladd, 1) := by decide +kernel
theorem dX4_low_433 : decode cX4_low 433 = .ok (.lstore 9, 2) := by decide +kernel
theorem dX4_low_435 : decode cX4_low 435 = .ok (.goto 280, 3) := by decide +kernel
theorem dX4_low_438 : decode cX4_low 438 = .ok (.lload 5, 2) := by decide +kernel
theorem dX4_low_440 : decode cX4_low 440 = .ok (.ldc2_w 259, 3) := by decide +kernel
theorem dX4_low_443 : decode cX4_low 443 = .ok (.lmul, 1) := by decide +kernel
theorem dX4_low_444 : decode cX4_low 444 = .ok (.lload 7, 2) := by decide +kernel
theorem dX4_low_446 : decode cX4_low 446 = .ok (.ladd, 1) := by decide +kernel
theorem dX4_low_447 : decode cX4_low 447 = .ok (.lstore 9, 2) := by decide +kernel
theorem dX4_low_449 : decode cX4_low 449 = .ok (.goto 266, 3) := by decide +kernel
theorem dX4_low_452 : decode cX4_low 452 = .ok (.lload 5, 2) := by decide +kernel
theorem dX4_low_454 : decode cX4_low 454 = .ok (.lload 7, 2) := by decide +kernel
theorem dX4_low_456 : decode cX4_low 456 = .ok (.lcmp, 1) := by decide +kernel
theorem dX4_low_457 : decode cX4_low 457 = .ok (.ifCond .ge 9, 3) := by decide +kernel
theorem dX4_low_460 : decode cX4_low 460 = .ok (.ldc2_w 261, 3) := by decide +kernel
theorem dX4_low_463 : decode cX4_low 463 = .ok (.goto 16, 3) := by decide +kernel
theorem dX4_low_466 : decode cX4_low 466 = .ok (.lload 5, 2) := by decide +kernel
theorem dX4_low_468 : decode cX4_low 468 = .ok (.lload 7, 2) := by decide +kernel
theorem dX4_low_470 : decode cX4_low 470 = .ok (.lcmp, 1) := by decide +kernel
theorem dX4_low_471 : decode cX4_low 471 = .ok (.ifCond .ne 7, 3) := by decide +kernel
theorem dX4_low_474 : decode cX4_low 474 = .ok (.lconst 0, 1) := by decide +kernel
theorem dX4_low_475 : decode cX4_low 475 = .ok (.goto 4, 3) := by decide +kernel
theorem dX4_low_478 : decode cX4_low 478 = .ok (.lconst 1, 1) := by decide +kernel
theorem dX4_low_479 : decode cX4_low 479 = .ok (.lstore 9, 2) := by decide +kernel
theorem dX4_low_481 : decode cX4_low 481 = .ok (.goto 234, 3) := by decide +kernel
theorem dX4_low_484 : decode cX4_low 484 = .ok (.lload 7, 2) := by decide +kernel
theorem dX4_low_486 : decode cX4_low 486 = .ok (.lload 5, 2) := by decide +kernel
theorem dX4_low_488 : decode cX4_low 488 = .ok (.invokestatic 263, 3) := by decide +kernel
theorem dX4_low_491 : decode cX4_low 491 = .ok (.ifCond .eq 9, 3) := by decide +kernel
theorem dX4_low_494 : decode cX4_low 494 = .ok (.ldc2_w 261, 3) := by decide +kernel
theorem dX4_low_497 : decode cX4_low 497 = .ok (.goto 16, 3) := by decide +kernel
theorem dX4_low_500 : decode cX4_low 500 = .ok (.lload 5, 2) := by decide +kernel
theorem dX4_low_502 : decode cX4_low 502 = .ok (.lload 7, 2) := by decide +kernel
theorem dX4_low_504 : decode cX4_low 504 = .ok (.lcmp, 1) := by decide +kernel
theorem dX4_low_505 : decode cX4_low 505 = .ok (.ifCond .ne 7, 3) := by decide +kernel
theorem dX4_low_508 : decode cX4_low 508 = .ok (.lconst 0, 1) := by decide +kernel
theorem dX4_low_509 : decode cX4_low 509 = .ok (.goto 4, 3) := by decide +kernel
theorem dX4_low_512 : decode cX4_low 512 = .ok (.lconst 1, 1) := by decide +kernel
theorem dX4_low_513 : decode cX4_low 513 = .ok (.lstore 9, 2) := by decide +kernel
theorem dX4_low_515 : decode cX4_low 515 = .ok (.goto 200, 3) := by decide +kernel
theorem dX4_low_518 : decode cX4_low 518 = .ok (.iload_n 3, 1) := by decide +kernel
theorem dX4_low_519 : decode cX4_low 519 = .ok (.i2l, 1) := by decide +kernel
theorem dX4_low_520 : decode cX4_low 520 = .ok (.lload 7, 2) := by decide +kernel
theorem dX4_low_522 : decode cX4_low 522 = .ok (.lsub, 1) := by decide +kernel
theorem dX4_low_523 : decode cX4_low 523 = .ok (.lstore 9, 2) := by decide +kernel
theorem dX4_low_525 : decode cX4_low 525 = .ok (.aload_n 0, 1) := by decide +kernel
theorem dX4_low_526 : decode cX4_low 526 = .ok (.iload_n 3, 1) := by decide +kernel
theorem dX4_low_527 : decode cX4_low 527 = .ok (.i2l, 1) := by decide +kernel
theorem dX4_low_528 : decode cX4_low 528 = .ok (.lload 7, 2) := by decide +kernel
theorem dX4_low_530 : decode cX4_low 530 = .ok (.lxor, 1) := by decide +kernel
theorem dX4_low_531 : decode cX4_low 531 = .ok (.iload_n 3, 1) := by decide +kernel
theorem dX4_low_532 : decode cX4_low 532 = .ok (.i2l, 1) := by decide +kernel
theorem dX4_low_533 : decode cX4_low 533 = .ok (.lload 9, 2) := by decide +kernel
theorem dX4_low_535 : decode cX4_low 535 = .ok (.lxor, 1) := by decide +kernel
theorem dX4_low_536 : decode cX4_low 536 = .ok (.land, 1) := by decide +kernel
theorem dX4_low_537 : decode cX4_low 537 = .ok (.lconst 0, 1) := by decide +kernel
theorem dX4_low_538 : decode cX4_low 538 = .ok (.lcmp, 1) := by decide +kernel
theorem dX4_low_539 : decode cX4_low 539 = .ok (.ifCond .ge 7, 3) := by decide +kernel
theorem dX4_low_542 : decode cX4_low 542 = .ok (.iconst 1, 1) := by decide +kernel
theorem dX4_low_543 : decode cX4_low 543 = .ok (.goto 4, 3) := by decide +kernel
theorem dX4_low_546 : decode cX4_low 546 = .ok (.iconst 0, 1) := by decide +kernel
theorem dX4_low_547 : decode cX4_low 547 = .ok (.invokevirtual 245, 3) := by decide +kernel
theorem dX4_low_550 : decode cX4_low 550 = .ok (.goto 165, 3) := by decide +kernel
theorem dX4_low_553 : decode cX4_low 553 = .ok (.iload_n 3, 1) := by decide +kernel
theorem dX4_low_554 : decode cX4_low 554 = .ok (.i2l, 1) := by decide +kernel
theorem dX4_low_555 : decode cX4_low 555 = .ok (.lload 7, 2) := by decide +kernel
theorem dX4_low_557 : decode cX4_low 557 = .ok (.lsub, 1) := by decide +kernel
theorem dX4_low_558 : decode cX4_low 558 = .ok (.lstore 9, 2) := by decide +kernel
theorem dX4_low_560 : decode cX4_low 560 = .ok (.goto 155, 3) := by decide +kernel
theorem dX4_low_563 : decode cX4_low 563 = .ok (.lload 7, 2) := by decide +kernel
theorem dX4_low_565 : decode cX4_low 565 = .ok (.ldc2_w 267, 3) := by decide +kernel
theorem dX4_low_568 : decode cX4_low 568 = .ok (.invokestatic 263, 3) := by decide +kernel
theorem dX4_low_571 : decode cX4_low 571 = .ok (.ifCond .eq 7, 3) := by decide +kernel
theorem dX4_low_574 : decode cX4_low 574 = .ok (.lconst 0, 1) := by decide +kernel
theorem dX4_low_575 : decode cX4_low 575 = .ok (.goto 9, 3) := by decide +kernel
theorem dX4_low_578 : decode cX4_low 578 = .ok (.lload 5, 2) := by decide +kernel
theorem dX4_low_580 : decode cX4_low 580 = .ok (.lload 7, 2) := by decide +kernel
theorem dX4_low_582 : decode cX4_low 582 = .ok (.l2i, 1) := by decide +kernel
theorem dX4_low_583 : decode cX4_low 583 = .ok (.lshl, 1) := by decide +kernel
theorem dX4_low_584 : decode cX4_low 584 = .ok (.lstore 9, 2) := by decide +kernel
theorem dX4_low_586 : decode cX4_low 586 = .ok (.aload_n 0, 1) := by decide +kernel
theorem dX4_low_587 : decode cX4_low 587 = .ok (.lload 7, 2) := by decide +kernel
theorem dX4_low_589 : decode cX4_low 589 = .ok (.ldc2_w 267, 3) := by decide +kernel
theorem dX4_low_592 : decode cX4_low 592 = .ok (.invokestatic 263, 3) := by decide +kernel
theorem dX4_low_595 : decode cX4_low 595 = .ok (.ifCond .eq 18, 3) := by decide +kernel
theorem dX4_low_598 : decode cX4_low 598 = .ok (.lload 5, 2) := by decide +kernel
theorem dX4_low_600 : decode cX4_low 600 = .ok (.lconst 0, 1) := by decide +kernel
theorem dX4_low_601 : decode cX4_low 601 = .ok (.lcmp, 1) := by decide +kernel
theorem dX4_low_602 : decode cX4_low 602 = .ok (.ifCond .eq 7, 3) := by decide +kernel
theorem dX4_low_605 : decode cX4_low 605 = .ok (.iconst 1, 1) := by decide +kernel
theorem dX4_low_606 : decode cX4_low 606 = .ok (.goto 24, 3) := by decide +kernel
theorem dX4_low_609 : decode cX4_low 609 = .ok (.iconst 0, 1) := by decide +kernel
theorem dX4_low_610 : decode cX4_low 610 = .ok (.goto 20, 3) := by decide +kernel
theorem dX4_low_613 : decode cX4_low 613 = .ok (.lload 9, 2) := by decide +kernel
theorem dX4_low_615 : decode cX4_low 615 = .ok (.lload 7, 2) := by decide +kernel
theorem dX4_low_617 : decode cX4_low 617 = .ok (.l2i, 1) := by decide +kernel
theorem dX4_low_618 : decode cX4_low 618 = .ok (.lshr, 1) := by decide +kernel
theorem dX4_low_619 : decode cX4_low 619 = .ok (.lload 5, 2) := by decide +kernel
theorem dX4_low_621 : decode cX4_low 621 = .ok (.lcmp, 1) := by decide +kernel
theorem dX4_low_622 : decode cX4_low 622 = .ok (.ifCond .eq 7, 3) := by decide +kernel
theorem dX4_low_625 : decode cX4_low 625 = .ok (.iconst 1, 1) := by decide +kernel
theorem dX4_low_626 : decode cX4_low 626 = .ok (.goto 4, 3) := by decide +kernel
theorem dX4_low_629 : decode cX4_low 629 = .ok (.iconst 0, 1) := by decide +kernel
theorem dX4_low_630 : decode cX4_low 630 = .ok (.invokevirtual 245, 3) := by decide +kernel
theorem dX4_low_633 : decode cX4_low 633 = .ok (.goto 82, 3) := by decide +kernel
theorem dX4_low_636 : decode cX4_low 636 = .ok (.lload 7, 2) := by decide +kernel
theorem dX4_low_638 : decode cX4_low 638 = .ok (.ldc2_w 267, 3) := by decide +kernel
theorem dX4_low_641 : decode cX4_low 641 = .ok (.invokestatic 263, 3) := by decide +kernel
theorem dX4_low_644 : decode cX4_low 644 = .ok (.ifCond .eq 7, 3) := by decide +kernel
theorem dX4_low_647 : decode cX4_low 647 = .ok (.lconst 0, 1) := by decide +kernel
theorem dX4_low_648 : decode cX4_low 648 = .ok (.goto 9, 3) := by decide +kernel
theorem dX4_low_651 : decode cX4_low 651 = .ok (.lload 5, 2) := by decide +kernel
theorem dX4_low_653 : decode cX4_low 653 = .ok (.lload 7, 2) := by decide +kernel
theorem dX4_low_655 : decode cX4_low 655 = .ok (.l2i, 1) := by decide +kernel
theorem dX4_low_656 : decode cX4_low 656 = .ok (.lshl, 1) := by decide +kernel
theorem dX4_low_657 : decode cX4_low 657 = .ok (.lstore 9, 2) := by decide +kernel
theorem dX4_low_659 : decode cX4_low 659 = .ok (.goto 56, 3) := by decide +kernel
theorem dX4_low_662 : decode cX4_low 662 = .ok (.lload 7, 2) := by decide +kernel
theorem dX4_low_664 : decode cX4_low 664 = .ok (.ldc2_w 267, 3) := by decide +kernel
theorem dX4_low_667 : decode cX4_low 667 = .ok (.invokestatic 263, 3) := by decide +kernel
theorem dX4_low_670 : decode cX4_low 670 = .ok (.ifCond .eq 11, 3) := by decide +kernel
theorem dX4_low_673 : decode cX4_low 673 = .ok (.lload 5, 2) := by decide +kernel
theorem dX4_low_675 : decode cX4_low 675 = .ok (.bipush 63, 2) := by decide +kernel
theorem dX4_low_677 : decode cX4_low 677 = .ok (.lshr, 1) := by decide +kernel
theorem dX4_low_678 : decode cX4_low 678 = .ok (.goto 9, 3) := by decide +kernel
theorem dX4_low_681 : decode cX4_low 681 = .ok (.lload 5, 2) := by decide +kernel
theorem dX4_low_683 : decode cX4_low 683 = .ok (.lload 7, 2) := by decide +kernel
theorem dX4_low_685 : decode cX4_low 685 = .ok (.l2i, 1) := by decide +kernel
theorem dX4_low_686 : decode cX4_low 686 = .ok (.lshr, 1) := by decide +kernel
theorem dX4_low_687 : decode cX4_low 687 = .ok (.lstore 9, 2) := by decide +kernel
theorem dX4_low_689 : decode cX4_low 689 = .ok (.goto 26, 3) := by decide +kernel
theorem dX4_low_692 : decode cX4_low 692 = .ok (.lload 7, 2) := by decide +kernel
theorem dX4_low_694 : decode cX4_low 694 = .ok (.ldc2_w 267, 3) := by decide +kernel
theorem dX4_low_697 : decode cX4_low 697 = .ok (.invokestatic 263, 3) := by decide +kernel
theorem dX4_low_700 : decode cX4_low 700 = .ok (.ifCond .eq 7, 3) := by decide +kernel
theorem dX4_low_703 : decode cX4_low 703 = .ok (.lconst 0, 1) := by decide +kernel
theorem dX4_low_704 : decode cX4_low 704 = .ok (.goto 9, 3) := by decide +kernel
theorem dX4_low_707 : decode cX4_low 707 = .ok (.lload 5, 2) := by decide +kernel
theorem dX4_low_709 : decode cX4_low 709 = .ok (.lload 7, 2) := by decide +kernel
theorem dX4_low_711 : decode cX4_low 711 = .ok (.l2i, 1) := by decide +kernel
theorem dX4_low_712 : decode cX4_low 712 = .ok (.lushr, 1) := by decide +kernel
theorem dX4_low_713 : decode cX4_low 713 = .ok (.lstore 9, 2) := by decide +kernel
theorem dX4_low_715 : decode cX4_low 715 = .ok (.aload_n 0, 1) := by decide +kernel
theorem dX4_low_716 : decode cX4_low 716 = .ok (.iload_n 2, 1) := by decide +kernel
theorem dX4_low_717 : decode cX4_low 717 = .ok (.lload 9, 2) := by decide +kernel
theorem dX4_low_719 : decode cX4_low 719 = .ok (.invokevirtual 269, 3) := by decide +kernel
theorem dX4_low_722 : decode cX4_low 722 = .ok (.ireturn, 1) := by decide +kernel
theorem dX4_upper_0 : decode cX4_upper 0 = .ok (.lload_n 0, 1) := by decide +kernel
theorem dX4_upper_1 : decode cX4_upper 1 = .ok (.ldc2_w 273, 3) := by decide +kernel
theorem dX4_upper_4 : decode cX4_upper 4 = .ok (.land, 1) := by decide +kernel
theorem dX4_upper_5 : decode cX4_upper 5 = .ok (.lstore 4, 2) := by decide +kernel
theorem dX4_upper_7 : decode cX4_upper 7 = .ok (.lload_n 2, 1) := by decide +kernel
theorem dX4_upper_8 : decode cX4_upper 8 = .ok (.ldc2_w 273, 3) := by decide +kernel
theorem dX4_upper_11 : decode cX4_upper 11 = .ok (.land, 1) := by decide +kernel
theorem dX4_upper_12 : decode cX4_upper 12 = .ok (.lstore 6, 2) := by decide +kernel
theorem dX4_upper_14 : decode cX4_upper 14 = .ok (.lload_n 0, 1) := by decide +kernel
theorem dX4_upper_15 : decode cX4_upper 15 = .ok (.bipush 32, 2) := by decide +kernel
theorem dX4_upper_17 : decode cX4_upper 17 = .ok (.lshr, 1) := by decide +kernel
theorem dX4_upper_18 : decode cX4_upper 18 = .ok (.lstore 8, 2) := by decide +kernel
theorem dX4_upper_20 : decode cX4_upper 20 = .ok (.lload_n 2, 1) := by decide +kernel
theorem dX4_upper_21 : decode cX4_upper 21 = .ok (.bipush 32, 2) := by decide +kernel
theorem dX4_upper_23 : decode cX4_upper 23 = .ok (.lshr, 1) := by decide +kernel
theorem dX4_upper_24 : decode cX4_upper 24 = .ok (.lstore 10, 2) := by decide +kernel
theorem dX4_upper_26 : decode cX4_upper 26 = .ok (.lload 8, 2) := by decide +kernel
theorem dX4_upper_28 : decode cX4_upper 28 = .ok (.lload 6, 2) := by decide +kernel
theorem dX4_upper_30 : decode cX4_upper 30 = .ok (.lmul, 1) := by decide +kernel
theorem dX4_upper_31 : decode cX4_upper 31 = .ok (.lload 4, 2) := by decide +kernel
theorem dX4_upper_33 : decode cX4_upper 33 = .ok (.lload 6, 2) := by decide +kernel
theorem dX4_upper_35 : decode cX4_upper 35 = .ok (.lmul, 1) := by decide +kernel
theorem dX4_upper_36 : decode cX4_upper 36 = .ok (.bipush 32, 2) := by decide +kernel
theorem dX4_upper_38 : decode cX4_upper 38 = .ok (.lushr, 1) := by decide +kernel
theorem dX4_upper_39 : decode cX4_upper 39 = .ok (.ladd, 1) := by decide +kernel
theorem dX4_upper_40 : decode cX4_upper 40 = .ok (.lstore 12, 2) := by decide +kernel
theorem dX4_upper_42 : decode cX4_upper 42 = .ok (.lload 12, 2) := by decide +kernel
theorem dX4_upper_44 : decode cX4_upper 44 = .ok (.ldc2_w 273, 3) := by decide +kernel
theorem dX4_upper_47 : decode cX4_upper 47 = .ok (.land, 1) := by decide +kernel
theorem dX4_upper_48 : decode cX4_upper 48 = .ok (.lload 4, 2) := by decide +kernel
theorem dX4_upper_50 : decode cX4_upper 50 = .ok (.lload 10, 2) := by decide +kernel
theorem dX4_upper_52 : decode cX4_upper 52 = .ok (.lmul, 1) := by decide +kernel
theorem dX4_upper_53 : decode cX4_upper 53 = .ok (.ladd, 1) := by decide +kernel
theorem dX4_upper_54 : decode cX4_upper 54 = .ok (.lstore 14, 2) := by decide +kernel
theorem dX4_upper_56 : decode cX4_upper 56 = .ok (.lload 8, 2) := by decide +kernel
theorem dX4_upper_58 : decode cX4_upper 58 = .ok (.lload 10, 2) := by decide +kernel
theorem dX4_upper_60 : decode cX4_upper 60 = .ok (.lmul, 1) := by decide +kernel
theorem dX4_upper_61 : decode cX4_upper 61 = .ok (.lload 12, 2) := by decide +kernel
theorem dX4_upper_63 : decode cX4_upper 63 = .ok (.bipush 32, 2) := by decide +kernel
theorem dX4_upper_65 : decode cX4_upper 65 = .ok (.lshr, 1) := by decide +kernel
theorem dX4_upper_66 : decode cX4_upper 66 = .ok (.ladd, 1) := by decide +kernel
theorem dX4_upper_67 : decode cX4_upper 67 = .ok (.lload 14, 2) := by decide +kernel
theorem dX4_upper_69 : decode cX4_upper 69 = .ok (.bipush 32, 2) := by decide +kernel
theorem dX4_upper_71 : decode cX4_upper 71 = .ok (.lshr, 1) := by decide +kernel
theorem dX4_upper_72 : decode cX4_upper 72 = .ok (.ladd, 1) := by decide +kernel
theorem dX4_upper_73 : decode cX4_upper 73 = .ok (.lreturn, 1) := by decide +kernel
set_option maxRecDepth 20000 in
theorem ggX4_quotient_X4_over : GoodIn wsX4_quotient wsX4_over := goodIn_r _ [9, 1, 10, 11, 12, 13, 14, 15, 16, 17, 18, 19, 20, 21, 22, 23, 24, 25, 26, 27] rfl (by decide +kernel)
set_option maxRecDepth 20000 in
theorem gX4_quotient_X4_over : GoodIn wsX4_quotient (wsV RX4 245 RX4 yX4_over wsX4_over) := goodIn_app (goodIn_of _ (by decide +kernel)) ggX4_quotient_X4_over
theorem dX4_quotient_0 : decode cX4_quotient 0 = .ok (.lload_n 3, 1) := by decide +kernel
theorem dX4_quotient_1 : decode cX4_quotient 1 = .ok (.lconst 0, 1) := by decide +kernel
theorem dX4_quotient_2 : decode cX4_quotient 2 = .ok (.lcmp, 1) := by decide +kernel
theorem dX4_quotient_3 : decode cX4_quotient 3 = .ok (.ifCond .ne 26, 3) := by decide +kernel
theorem dX4_quotient_6 : decode cX4_quotient 6 = .ok (.aload_n 0, 1) := by decide +kernel
theorem dX4_quotient_7 : decode cX4_quotient 7 = .ok (.getfield 13, 3) := by decide +kernel
theorem dX4_quotient_10 : decode cX4_quotient 10 = .ok (.bipush 6, 2) := by decide +kernel
theorem dX4_quotient_12 : decode cX4_quotient 12 = .ok (.lload_n 1, 1) := by decide +kernel
theorem dX4_quotient_13 : decode cX4_quotient 13 = .ok (.lastore, 1) := by decide +kernel
theorem dX4_quotient_14 : decode cX4_quotient 14 = .ok (.aload_n 0, 1) := by decide +kernel
theorem dX4_quotient_15 : decode cX4_quotient 15 = .ok (.getfield 13, 3) := by decide +kernel
theorem dX4_quotient_18 : decode cX4_quotient 18 = .ok (.bipush 7, 2) := by decide +kernel
theorem dX4_quotient_20 : decode cX4_quotient 20 = .ok (.dup2, 1) := by decide +kernel
theorem dX4_quotient_21 : decode cX4_quotient 21 = .ok (.laload, 1) := by decide +kernel
theorem dX4_quotient_22 : decode cX4_quotient 22 = .ok (.ldc2_w 275, 3) := by decide +kernel
theorem dX4_quotient_25 : decode cX4_quotient 25 = .ok (.lor, 1) := by decide +kernel
theorem dX4_quotient_26 : decode cX4_quotient 26 = .ok (.lastore, 1) := by decide +kernel
theorem dX4_quotient_27 : decode cX4_quotient 27 = .ok (.lconst 0, 1) := by decide +kernel
theorem dX4_quotient_28 : decode cX4_quotient 28 = .ok (.lreturn, 1) := by decide +kernel
theorem dX4_quotient_29 : decode cX4_quotient 29 = .ok (.aload_n 0, 1) := by decide +kernel
theorem dX4_quotient_30 : decode cX4_quotient 30 = .ok (.lload_n 1, 1) := by decide +kernel
theorem dX4_quotient_31 : decode cX4_quotient 31 = .ok (.ldc2_w 160, 3) := by decide +kernel
theorem dX4_quotient_34 : decode cX4_quotient 34 = .ok (.lcmp, 1) := by decide +kernel
theorem dX4_quotient_35 : decode cX4_quotient 35 = .ok (.ifCond .ne 15, 3) := by decide +kernel
theorem dX4_quotient_38 : decode cX4_quotient 38 = .ok (.lload_n 3, 1) := by decide +kernel
theorem dX4_quotient_39 : decode cX4_quotient 39 = .ok (.ldc2_w 261, 3) := by decide +kernel
theorem dX4_quotient_42 : decode cX4_quotient 42 = .ok (.lcmp, 1) := by decide +kernel
theorem dX4_quotient_43 : decode cX4_quotient 43 = .ok (.ifCond .ne 7, 3) := by decide +kernel
theorem dX4_quotient_46 : decode cX4_quotient 46 = .ok (.iconst 1, 1) := by decide +kernel
theorem dX4_quotient_47 : decode cX4_quotient 47 = .ok (.goto 4, 3) := by decide +kernel
theorem dX4_quotient_50 : decode cX4_quotient 50 = .ok (.iconst 0, 1) := by decide +kernel
theorem dX4_quotient_51 : decode cX4_quotient 51 = .ok (.invokevirtual 245, 3) := by decide +kernel
theorem dX4_quotient_54 : decode cX4_quotient 54 = .ok (.lload_n 1, 1) := by decide +kernel
theorem dX4_quotient_55 : decode cX4_quotient 55 = .ok (.lload_n 3, 1) := by decide +kernel
theorem dX4_quotient_56 : decode cX4_quotient 56 = .ok (.ldiv, 1) := by decide +kernel
theorem dX4_quotient_57 : decode cX4_quotient 57 = .ok (.lstore 5, 2) := by decide +kernel
theorem dX4_quotient_59 : decode cX4_quotient 59 = .ok (.lload_n 1, 1) := by decide +kernel
theorem dX4_quotient_60 : decode cX4_quotient 60 = .ok (.lload_n 3, 1) := by decide +kernel
theorem dX4_quotient_61 : decode cX4_quotient 61 = .ok (.lrem, 1) := by decide +kernel
theorem dX4_quotient_62 : decode cX4_quotient 62 = .ok (.lconst 0, 1) := by decide +kernel
theorem dX4_quotient_63 : decode cX4_quotient 63 = .ok (.lcmp, 1) := by decide +kernel
theorem dX4_quotient_64 : decode cX4_quotient 64 = .ok (.ifCond .eq 36, 3) := by decide +kernel
theorem dX4_quotient_67 : decode cX4_quotient 67 = .ok (.lload_n 1, 1) := by decide +kernel
theorem dX4_quotient_68 : decode cX4_quotient 68 = .ok (.lload_n 3, 1) := by decide +kernel
theorem dX4_quotient_69 : decode cX4_quotient 69 = .ok (.lrem, 1) := by decide +kernel
theorem dX4_quotient_70 : decode cX4_quotient 70 = .ok (.lconst 0, 1) := by decide +kernel
theorem dX4_quotient_71 : decode cX4_quotient 71 = .ok (.lcmp, 1) := by decide +kernel
theorem dX4_quotient_72 : decode cX4_quotient 72 = .ok (.ifCond .ge 7, 3) := by decide +kernel
theorem dX4_quotient_75 : decode cX4_quotient 75 = .ok (.iconst 1, 1) := by decide +kernel
theorem dX4_quotient_76 : decode cX4_quotient 76 = .ok (.goto 4, 3) := by decide +kernel
theorem dX4_quotient_79 : decode cX4_quotient 79 = .ok (.iconst 0, 1) := by decide +kernel
theorem dX4_quotient_80 : decode cX4_quotient 80 = .ok (.lload_n 3, 1) := by decide +kernel
theorem dX4_quotient_81 : decode cX4_quotient 81 = .ok (.lconst 0, 1) := by decide +kernel
theorem dX4_quotient_82 : decode cX4_quotient 82 = .ok (.lcmp, 1) := by decide +kernel
theorem dX4_quotient_83 : decode cX4_quotient 83 = .ok (.ifCond .ge 7, 3) := by decide +kernel
theorem dX4_quotient_86 : decode cX4_quotient 86 = .ok (.iconst 1, 1) := by decide +kernel
theorem dX4_quotient_87 : decode cX4_quotient 87 = .ok (.goto 4, 3) := by decide +kernel
theorem dX4_quotient_90 : decode cX4_quotient 90 = .ok (.iconst 0, 1) := by decide +kernel
theorem dX4_quotient_91 : decode cX4_quotient 91 = .ok (.if_icmp .eq 9, 3) := by decide +kernel
theorem dX4_quotient_94 : decode cX4_quotient 94 = .ok (.lload 5, 2) := by decide +kernel
theorem dX4_quotient_96 : decode cX4_quotient 96 = .ok (.lconst 1, 1) := by decide +kernel
theorem dX4_quotient_97 : decode cX4_quotient 97 = .ok (.lsub, 1) := by decide +kernel
theorem dX4_quotient_98 : decode cX4_quotient 98 = .ok (.lstore 5, 2) := by decide +kernel
theorem dX4_quotient_100 : decode cX4_quotient 100 = .ok (.aload_n 0, 1) := by decide +kernel
theorem dX4_quotient_101 : decode cX4_quotient 101 = .ok (.getfield 13, 3) := by decide +kernel
theorem dX4_quotient_104 : decode cX4_quotient 104 = .ok (.bipush 6, 2) := by decide +kernel
theorem dX4_quotient_106 : decode cX4_quotient 106 = .ok (.lload_n 1, 1) := by decide +kernel
theorem dX4_quotient_107 : decode cX4_quotient 107 = .ok (.lload_n 3, 1) := by decide +kernel
theorem dX4_quotient_108 : decode cX4_quotient 108 = .ok (.lload 5, 2) := by decide +kernel
theorem dX4_quotient_110 : decode cX4_quotient 110 = .ok (.lmul, 1) := by decide +kernel
theorem dX4_quotient_111 : decode cX4_quotient 111 = .ok (.lsub, 1) := by decide +kernel
theorem dX4_quotient_112 : decode cX4_quotient 112 = .ok (.lastore, 1) := by decide +kernel
theorem dX4_quotient_113 : decode cX4_quotient 113 = .ok (.lload 5, 2) := by decide +kernel
theorem dX4_quotient_115 : decode cX4_quotient 115 = .ok (.lreturn, 1) := by decide +kernel
set_option maxRecDepth 20000 in
theorem ggX4_quotientOf_X4_above : GoodIn wsX4_quotientOf wsX4_above := goodIn_r _ [5, 6] rfl (by decide +kernel)
set_option maxRecDepth 20000 in
theorem gX4_quotientOf_X4_above : GoodIn wsX4_quotientOf (va_wsS RX4 263 yX4_above wsX4_above) := goodIn_app (goodIn_of _ (by decide +kernel)) ggX4_quotientOf_X4_above
theorem dX4_quotientOf_0 : decode cX4_quotientOf 0 = .ok (.lload_n 3, 1) := by decide +kernel
theorem dX4_quotientOf_1 : decode cX4_quotientOf 1 = .ok (.aload_n 0, 1) := by decide +kernel
theorem dX4_quotientOf_2 : decode cX4_quotientOf 2 = .ok (.getfield 13, 3) := by decide +kernel
theorem dX4_quotientOf_5 : decode cX4_quotientOf 5 = .ok (.iconst 1, 1) := by decide +kernel
theorem dX4_quotientOf_6 : decode cX4_quotientOf 6 = .ok (.laload, 1) := by decide +kernel
theorem dX4_quotientOf_7 : decode cX4_quotientOf 7 = .ok (.invokestatic 263, 3) := by decide +kernel
theorem dX4_quotientOf_10 : decode cX4_quotientOf 10 = .ok (.ifCond .ne 18, 3) := by decide +kernel
theorem dX4_quotientOf_13 : decode cX4_quotientOf 13 = .ok (.aload_n 0, 1) := by decide +kernel
theorem dX4_quotientOf_14 : decode cX4_quotientOf 14 = .ok (.getfield 13, 3) := by decide +kernel
theorem dX4_quotientOf_17 : decode cX4_quotientOf 17 = .ok (.bipush 6, 2) := by decide +kernel
theorem dX4_quotientOf_19 : decode cX4_quotientOf 19 = .ok (.lload_n 1, 1) := by decide +kernel
theorem dX4_quotientOf_20 : decode cX4_quotientOf 20 = .ok (.lastore, 1) := by decide +kernel
theorem dX4_quotientOf_21 : decode cX4_quotientOf 21 = .ok (.aload_n 0, 1) := by decide +kernel
theorem dX4_quotientOf_22 : decode cX4_quotientOf 22 = .ok (.getfield 13, 3) := by decide +kernel
theorem dX4_quotientOf_25 : decode cX4_quotientOf 25 = .ok (.iconst 1, 1) := by decide +kernel
theorem dX4_quotientOf_26 : decode cX4_quotientOf 26 = .ok (.laload, 1) := by decide +kernel
theorem dX4_quotientOf_27 : decode cX4_quotientOf 27 = .ok (.lreturn, 1) := by decide +kernel
theorem dX4_quotientOf_28 : decode cX4_quotientOf 28 = .ok (.aload_n 0, 1) := by decide +kernel
theorem dX4_quotientOf_29 : decode cX4_quotientOf 29 = .ok (.getfield 13, 3) := by decide +kernel
theorem dX4_quotientOf_32 : decode cX4_quotientOf 32 = .ok (.iconst 1, 1) := by decide +kernel
theorem dX4_quotientOf_33 : decode cX4_quotientOf 33 = .ok (.laload, 1) := by decide +kernel
theorem dX4_quotientOf_34 : decode cX4_quotientOf 34 = .ok (.lstore 5, 2) := by decide +kernel
theorem dX4_quotientOf_36 : decode cX4_quotientOf 36 = .ok (.lconst 0, 1) := by decide +kernel
theorem dX4_quotientOf_37 : decode cX4_quotientOf 37 = .ok (.lstore 7, 2) := by decide +kernel
theorem dX4_quotientOf_39 : decode cX4_quotientOf 39 = .ok (.bipush 63, 2) := by decide +kernel
theorem dX4_quotientOf_41 : decode cX4_quotientOf 41 = .ok (.istore 9, 2) := by decide +kernel
theorem dX4_quotientOf_43 : decode cX4_quotientOf 43 = .ok (.iload 9, 2) := by decide +kernel
theorem dX4_quotientOf_45 : decode cX4_quotientOf 45 = .ok (.ifCond .lt 71, 3) := by decide +kernel
theorem dX4_quotientOf_48 : decode cX4_quotientOf 48 = .ok (.lload 5, 2) := by decide +kernel
theorem dX4_quotientOf_50 : decode cX4_quotientOf 50 = .ok (.lconst 0, 1) := by decide +kernel
theorem dX4_quotientOf_51 : decode cX4_quotientOf 51 = .ok (.lcmp, 1) := by decide +kernel
theorem dX4_quotientOf_52 : decode cX4_quotientOf 52 = .ok (.ifCond .ge 7, 3) := by decide +kernel
theorem dX4_quotientOf_55 : decode cX4_quotientOf 55 = .ok (.iconst 1, 1) := by decide +kernel
theorem dX4_quotientOf_56 : decode cX4_quotientOf 56 = .ok (.goto 4, 3) := by decide +kernel
theorem dX4_quotientOf_59 : decode cX4_quotientOf 59 = .ok (.iconst 0, 1) := by decide +kernel
theorem dX4_quotientOf_60 : decode cX4_quotientOf 60 = .ok (.istore 10, 2) := by decide +kernel
theorem dX4_quotientOf_62 : decode cX4_quotientOf 62 = .ok (.lload 5, 2) := by decide +kernel
theorem dX4_quotientOf_64 : decode cX4_quotientOf 64 = .ok (.iconst 1, 1) := by decide +kernel
theorem dX4_quotientOf_65 : decode cX4_quotientOf 65 = .ok (.lshl, 1) := by decide +kernel
theorem dX4_quotientOf_66 : decode cX4_quotientOf 66 = .ok (.lload_n 1, 1) := by decide +kernel
theorem dX4_quotientOf_67 : decode cX4_quotientOf 67 = .ok (.iload 9, 2) := by decide +kernel
theorem dX4_quotientOf_69 : decode cX4_quotientOf 69 = .ok (.lushr, 1) := by decide +kernel
theorem dX4_quotientOf_70 : decode cX4_quotientOf 70 = .ok (.lconst 1, 1) := by decide +kernel
theorem dX4_quotientOf_71 : decode cX4_quotientOf 71 = .ok (.land, 1) := by decide +kernel
theorem dX4_quotientOf_72 : decode cX4_quotientOf 72 = .ok (.lor, 1) := by decide +kernel
theorem dX4_quotientOf_73 : decode cX4_quotientOf 73 = .ok (.lstore 5, 2) := by decide +kernel
theorem dX4_quotientOf_75 : decode cX4_quotientOf 75 = .ok (.lload 7, 2) := by decide +kernel
