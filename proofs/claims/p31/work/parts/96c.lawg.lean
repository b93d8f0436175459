theorem dL_arePinsSo_358 : decode cL_arePinsSo 358 = .ok (.iload_n 1, 1) := by decide +kernel
theorem dL_arePinsSo_359 : decode cL_arePinsSo 359 = .ok (.iload_n 2, 1) := by decide +kernel
theorem dL_arePinsSo_360 : decode cL_arePinsSo 360 = .ok (.iload_n 3, 1) := by decide +kernel
theorem dL_arePinsSo_361 : decode cL_arePinsSo 361 = .ok (.invokevirtual 81, 3) := by decide +kernel
theorem dL_arePinsSo_364 : decode cL_arePinsSo 364 = .ok (.iload 11, 2) := by decide +kernel
theorem dL_arePinsSo_366 : decode cL_arePinsSo 366 = .ok (.if_icmp .ne 91, 3) := by decide +kernel
theorem dL_arePinsSo_369 : decode cL_arePinsSo 369 = .ok (.aload_n 0, 1) := by decide +kernel
theorem dL_arePinsSo_370 : decode cL_arePinsSo 370 = .ok (.iload_n 1, 1) := by decide +kernel
theorem dL_arePinsSo_371 : decode cL_arePinsSo 371 = .ok (.iconst 0, 1) := by decide +kernel
theorem dL_arePinsSo_372 : decode cL_arePinsSo 372 = .ok (.invokevirtual 84, 3) := by decide +kernel
theorem dL_arePinsSo_375 : decode cL_arePinsSo 375 = .ok (.iload 4, 2) := by decide +kernel
theorem dL_arePinsSo_377 : decode cL_arePinsSo 377 = .ok (.if_icmp .ne 80, 3) := by decide +kernel
theorem dL_arePinsSo_380 : decode cL_arePinsSo 380 = .ok (.aload_n 0, 1) := by decide +kernel
theorem dL_arePinsSo_381 : decode cL_arePinsSo 381 = .ok (.iload_n 1, 1) := by decide +kernel
theorem dL_arePinsSo_382 : decode cL_arePinsSo 382 = .ok (.iconst 1, 1) := by decide +kernel
theorem dL_arePinsSo_383 : decode cL_arePinsSo 383 = .ok (.invokevirtual 84, 3) := by decide +kernel
theorem dL_arePinsSo_386 : decode cL_arePinsSo 386 = .ok (.iload 4, 2) := by decide +kernel
theorem dL_arePinsSo_388 : decode cL_arePinsSo 388 = .ok (.if_icmp .ne 69, 3) := by decide +kernel
theorem dL_arePinsSo_391 : decode cL_arePinsSo 391 = .ok (.aload_n 0, 1) := by decide +kernel
theorem dL_arePinsSo_392 : decode cL_arePinsSo 392 = .ok (.iload_n 1, 1) := by decide +kernel
theorem dL_arePinsSo_393 : decode cL_arePinsSo 393 = .ok (.iconst 2, 1) := by decide +kernel
theorem dL_arePinsSo_394 : decode cL_arePinsSo 394 = .ok (.invokevirtual 84, 3) := by decide +kernel
theorem dL_arePinsSo_397 : decode cL_arePinsSo 397 = .ok (.iload 6, 2) := by decide +kernel
theorem dL_arePinsSo_399 : decode cL_arePinsSo 399 = .ok (.if_icmp .ne 58, 3) := by decide +kernel
theorem dL_arePinsSo_402 : decode cL_arePinsSo 402 = .ok (.aload_n 0, 1) := by decide +kernel
theorem dL_arePinsSo_403 : decode cL_arePinsSo 403 = .ok (.iload_n 1, 1) := by decide +kernel
theorem dL_arePinsSo_404 : decode cL_arePinsSo 404 = .ok (.iconst 3, 1) := by decide +kernel
theorem dL_arePinsSo_405 : decode cL_arePinsSo 405 = .ok (.invokevirtual 84, 3) := by decide +kernel
theorem dL_arePinsSo_408 : decode cL_arePinsSo 408 = .ok (.iload 7, 2) := by decide +kernel
theorem dL_arePinsSo_410 : decode cL_arePinsSo 410 = .ok (.if_icmp .ne 47, 3) := by decide +kernel
theorem dL_arePinsSo_413 : decode cL_arePinsSo 413 = .ok (.aload_n 0, 1) := by decide +kernel
theorem dL_arePinsSo_414 : decode cL_arePinsSo 414 = .ok (.iload_n 1, 1) := by decide +kernel
theorem dL_arePinsSo_415 : decode cL_arePinsSo 415 = .ok (.iconst 4, 1) := by decide +kernel
theorem dL_arePinsSo_416 : decode cL_arePinsSo 416 = .ok (.invokevirtual 84, 3) := by decide +kernel
theorem dL_arePinsSo_419 : decode cL_arePinsSo 419 = .ok (.iload 5, 2) := by decide +kernel
theorem dL_arePinsSo_421 : decode cL_arePinsSo 421 = .ok (.if_icmp .ne 36, 3) := by decide +kernel
theorem dL_arePinsSo_424 : decode cL_arePinsSo 424 = .ok (.aload_n 0, 1) := by decide +kernel
theorem dL_arePinsSo_425 : decode cL_arePinsSo 425 = .ok (.iconst 0, 1) := by decide +kernel
theorem dL_arePinsSo_426 : decode cL_arePinsSo 426 = .ok (.iconst 0, 1) := by decide +kernel
theorem dL_arePinsSo_427 : decode cL_arePinsSo 427 = .ok (.invokevirtual 84, 3) := by decide +kernel
theorem dL_arePinsSo_430 : decode cL_arePinsSo 430 = .ok (.aload_n 0, 1) := by decide +kernel
theorem dL_arePinsSo_431 : decode cL_arePinsSo 431 = .ok (.iconst 1, 1) := by decide +kernel
theorem dL_arePinsSo_432 : decode cL_arePinsSo 432 = .ok (.iconst 0, 1) := by decide +kernel
theorem dL_arePinsSo_433 : decode cL_arePinsSo 433 = .ok (.invokevirtual 84, 3) := by decide +kernel
theorem dL_arePinsSo_436 : decode cL_arePinsSo 436 = .ok (.iadd, 1) := by decide +kernel
theorem dL_arePinsSo_437 : decode cL_arePinsSo 437 = .ok (.aload_n 0, 1) := by decide +kernel
theorem dL_arePinsSo_438 : decode cL_arePinsSo 438 = .ok (.iconst 2, 1) := by decide +kernel
theorem dL_arePinsSo_439 : decode cL_arePinsSo 439 = .ok (.iconst 0, 1) := by decide +kernel
theorem dL_arePinsSo_440 : decode cL_arePinsSo 440 = .ok (.invokevirtual 84, 3) := by decide +kernel
theorem dL_arePinsSo_443 : decode cL_arePinsSo 443 = .ok (.iadd, 1) := by decide +kernel
theorem dL_arePinsSo_444 : decode cL_arePinsSo 444 = .ok (.aload_n 0, 1) := by decide +kernel
theorem dL_arePinsSo_445 : decode cL_arePinsSo 445 = .ok (.bipush 10, 2) := by decide +kernel
theorem dL_arePinsSo_447 : decode cL_arePinsSo 447 = .ok (.invokevirtual 63, 3) := by decide +kernel
theorem dL_arePinsSo_450 : decode cL_arePinsSo 450 = .ok (.if_icmp .ne 7, 3) := by decide +kernel
theorem dL_arePinsSo_453 : decode cL_arePinsSo 453 = .ok (.iconst 1, 1) := by decide +kernel
theorem dL_arePinsSo_454 : decode cL_arePinsSo 454 = .ok (.goto 4, 3) := by decide +kernel
theorem dL_arePinsSo_457 : decode cL_arePinsSo 457 = .ok (.iconst 0, 1) := by decide +kernel
theorem dL_arePinsSo_458 : decode cL_arePinsSo 458 = .ok (.ireturn, 1) := by decide +kernel
set_option maxRecDepth 20000 in
theorem ggL_areTeethSo_X2_tooth : GoodIn wsL_areTeethSo wsX2_tooth := goodIn_ca (goodIn_ca (goodIn_r _ [5, 6, 7, 8, 9, 10, 11, 12, 4, 13, 14, 15, 16, 17, 18, 19, 20, 21, 22, 23, 24, 25, 26, 27, 28, 29, 30, 31, 32, 33, 34, 35, 36, 37, 38, 39, 40, 41, 42, 43, 44, 45, 46, 47, 48, 49, 146, 147, 148, 149, 150, 151, 152, 153, 154, 155, 156, 157, 158, 159, 160, 161, 162, 163, 164, 165, 166, 167, 168, 169, 170, 171, 172] rfl (by decide +kernel)) (goodIn_sub (fun _ h => List.mem_cons_of_mem _ (List.mem_append_left _ (List.mem_append_right _ h))) (by decide +kernel))) (goodIn_sub (fun _ h => List.mem_cons_of_mem _ (List.mem_append_right _ h)) (by decide +kernel))
set_option maxRecDepth 20000 in
theorem gL_areTeethSo_X2_tooth : GoodIn wsL_areTeethSo (wsV RL 69 RX2 yX2_tooth wsX2_tooth) := goodIn_app (goodIn_r _ [1, 2, 3, 4] rfl (by decide +kernel)) ggL_areTeethSo_X2_tooth
set_option maxRecDepth 20000 in
theorem ggL_areTeethSo_X2_count : GoodIn wsL_areTeethSo wsX2_count := goodIn_ca (goodIn_r _ [53, 8, 9, 11, 12, 4, 13, 54, 55, 56, 57, 58, 10, 59, 60, 61, 17, 62, 63, 21, 64, 65, 27, 66, 67, 68, 69, 70, 71, 72, 73, 74, 22, 23, 24, 25, 26, 28, 29, 30, 31, 75, 76, 77, 78, 36, 79, 80, 81, 82, 83, 84, 85, 86, 87, 88, 89, 90, 91, 92, 93, 45, 46, 47, 48, 49, 94, 95, 96, 97, 146, 147, 148, 149, 150, 151, 152, 153, 154, 155, 156, 157, 158, 159, 160, 161, 162, 163, 164, 165, 166, 167, 168, 169, 170, 171, 172] rfl (by decide +kernel)) (goodIn_sub (fun _ h => List.mem_cons_of_mem _ (List.mem_append_right _ h)) (by decide +kernel))
set_option maxRecDepth 20000 in
theorem gL_areTeethSo_X2_count : GoodIn wsL_areTeethSo (wsV RL 63 RX2 yX2_count wsX2_count) := goodIn_app (goodIn_r _ [50, 51, 52, 4] rfl (by decide +kernel)) ggL_areTeethSo_X2_count
set_option maxRecDepth 20000 in
theorem ggL_areTeethSo_X2_next : GoodIn wsL_areTeethSo wsX2_next := goodIn_ca (goodIn_r _ [101, 6, 7, 10, 102, 103, 4, 104, 11, 12, 13, 105, 106, 107, 17, 108, 109, 110, 111, 94, 95, 96, 97, 41, 42, 43, 44, 45, 46, 47, 48, 49, 146, 147, 148, 149, 150, 151, 152, 153, 154, 155, 156, 157, 158, 159, 160, 161, 162, 163, 164, 165, 166, 167, 168, 169, 170, 171, 172] rfl (by decide +kernel)) (goodIn_sub (fun _ h => List.mem_cons_of_mem _ (List.mem_append_left _ (List.mem_append_right _ h))) (by decide +kernel))
set_option maxRecDepth 20000 in
theorem gL_areTeethSo_X2_next : GoodIn wsL_areTeethSo (wsV RL 78 RX2 yX2_next wsX2_next) := goodIn_app (goodIn_r _ [98, 99, 100, 4] rfl (by decide +kernel)) ggL_areTeethSo_X2_next
set_option maxRecDepth 20000 in
theorem ggL_areTeethSo_X2_note : GoodIn wsL_areTeethSo wsX2_note := goodIn_ca (goodIn_r _ [115, 8, 9, 10, 11, 12, 4, 13, 116, 117, 118, 17, 119, 67, 120, 121, 30, 122, 123, 124, 125, 126, 127, 128, 129, 130, 131, 94, 95, 96, 97, 132, 133, 134, 135, 136, 146, 147, 148, 149, 150, 151, 152, 153, 154, 155, 156, 157, 158, 159, 160, 161, 162, 163, 164, 165, 166, 167, 168, 169, 170, 171, 172] rfl (by decide +kernel)) (goodIn_sub (fun _ h => List.mem_cons_of_mem _ (List.mem_append_right _ h)) (by decide +kernel))
set_option maxRecDepth 20000 in
theorem gL_areTeethSo_X2_note : GoodIn wsL_areTeethSo (wsV RL 72 RX2 yX2_note wsX2_note) := goodIn_app (goodIn_r _ [112, 113, 114, 4] rfl (by decide +kernel)) ggL_areTeethSo_X2_note
set_option maxRecDepth 20000 in
theorem ggL_areTeethSo_X2_clean : GoodIn wsL_areTeethSo wsX2_clean := goodIn_r _ [140, 141, 142, 143, 4, 144, 10, 145, 29, 30, 31, 146, 147, 148, 149, 150, 151, 152, 153, 154, 155, 156, 157, 158, 159, 160, 161, 162, 163, 164, 165, 166, 167, 168, 169, 170, 171, 172] rfl (by decide +kernel)
set_option maxRecDepth 20000 in
theorem gL_areTeethSo_X2_clean : GoodIn wsL_areTeethSo (wsV RL 59 RX2 yX2_clean wsX2_clean) := goodIn_app (goodIn_r _ [137, 138, 139, 4] rfl (by decide +kernel)) ggL_areTeethSo_X2_clean
theorem dL_areTeethSo_0 : decode cL_areTeethSo 0 = .ok (.iconst 0, 1) := by decide +kernel
theorem dL_areTeethSo_1 : decode cL_areTeethSo 1 = .ok (.istore_n 1, 1) := by decide +kernel
theorem dL_areTeethSo_2 : decode cL_areTeethSo 2 = .ok (.iconst 0, 1) := by decide +kernel
theorem dL_areTeethSo_3 : decode cL_areTeethSo 3 = .ok (.istore_n 2, 1) := by decide +kernel
theorem dL_areTeethSo_4 : decode cL_areTeethSo 4 = .ok (.iconst 0, 1) := by decide +kernel
theorem dL_areTeethSo_5 : decode cL_areTeethSo 5 = .ok (.istore_n 3, 1) := by decide +kernel
theorem dL_areTeethSo_6 : decode cL_areTeethSo 6 = .ok (.iconst 1, 1) := by decide +kernel
theorem dL_areTeethSo_7 : decode cL_areTeethSo 7 = .ok (.istore 4, 2) := by decide +kernel
theorem dL_areTeethSo_9 : decode cL_areTeethSo 9 = .ok (.iconst 0, 1) := by decide +kernel
theorem dL_areTeethSo_10 : decode cL_areTeethSo 10 = .ok (.istore 5, 2) := by decide +kernel
theorem dL_areTeethSo_12 : decode cL_areTeethSo 12 = .ok (.iload 5, 2) := by decide +kernel
theorem dL_areTeethSo_14 : decode cL_areTeethSo 14 = .ok (.bipush 12, 2) := by decide +kernel
theorem dL_areTeethSo_16 : decode cL_areTeethSo 16 = .ok (.if_icmp .ge 217, 3) := by decide +kernel
theorem dL_areTeethSo_19 : decode cL_areTeethSo 19 = .ok (.iload_n 1, 1) := by decide +kernel
theorem dL_areTeethSo_20 : decode cL_areTeethSo 20 = .ok (.aload_n 0, 1) := by decide +kernel
theorem dL_areTeethSo_21 : decode cL_areTeethSo 21 = .ok (.iload 5, 2) := by decide +kernel
theorem dL_areTeethSo_23 : decode cL_areTeethSo 23 = .ok (.iconst 3, 1) := by decide +kernel
theorem dL_areTeethSo_24 : decode cL_areTeethSo 24 = .ok (.invokevirtual 69, 3) := by decide +kernel
theorem dL_areTeethSo_27 : decode cL_areTeethSo 27 = .ok (.iadd, 1) := by decide +kernel
theorem dL_areTeethSo_28 : decode cL_areTeethSo 28 = .ok (.istore_n 1, 1) := by decide +kernel
theorem dL_areTeethSo_29 : decode cL_areTeethSo 29 = .ok (.iload_n 2, 1) := by decide +kernel
theorem dL_areTeethSo_30 : decode cL_areTeethSo 30 = .ok (.aload_n 0, 1) := by decide +kernel
theorem dL_areTeethSo_31 : decode cL_areTeethSo 31 = .ok (.iload 5, 2) := by decide +kernel
theorem dL_areTeethSo_33 : decode cL_areTeethSo 33 = .ok (.iconst 0, 1) := by decide +kernel
theorem dL_areTeethSo_34 : decode cL_areTeethSo 34 = .ok (.invokevirtual 69, 3) := by decide +kernel
theorem dL_areTeethSo_37 : decode cL_areTeethSo 37 = .ok (.ifCond .le 7, 3) := by decide +kernel
theorem dL_areTeethSo_40 : decode cL_areTeethSo 40 = .ok (.iconst 1, 1) := by decide +kernel
theorem dL_areTeethSo_41 : decode cL_areTeethSo 41 = .ok (.goto 4, 3) := by decide +kernel
theorem dL_areTeethSo_44 : decode cL_areTeethSo 44 = .ok (.iconst 0, 1) := by decide +kernel
theorem dL_areTeethSo_45 : decode cL_areTeethSo 45 = .ok (.iadd, 1) := by decide +kernel
theorem dL_areTeethSo_46 : decode cL_areTeethSo 46 = .ok (.istore_n 2, 1) := by decide +kernel
theorem dL_areTeethSo_47 : decode cL_areTeethSo 47 = .ok (.iload_n 3, 1) := by decide +kernel
theorem dL_areTeethSo_48 : decode cL_areTeethSo 48 = .ok (.aload_n 0, 1) := by decide +kernel
theorem dL_areTeethSo_49 : decode cL_areTeethSo 49 = .ok (.iload 5, 2) := by decide +kernel
theorem dL_areTeethSo_51 : decode cL_areTeethSo 51 = .ok (.iconst 2, 1) := by decide +kernel
theorem dL_areTeethSo_52 : decode cL_areTeethSo 52 = .ok (.invokevirtual 69, 3) := by decide +kernel
theorem dL_areTeethSo_55 : decode cL_areTeethSo 55 = .ok (.iadd, 1) := by decide +kernel
theorem dL_areTeethSo_56 : decode cL_areTeethSo 56 = .ok (.istore_n 3, 1) := by decide +kernel
theorem dL_areTeethSo_57 : decode cL_areTeethSo 57 = .ok (.aload_n 0, 1) := by decide +kernel
theorem dL_areTeethSo_58 : decode cL_areTeethSo 58 = .ok (.iload 5, 2) := by decide +kernel
theorem dL_areTeethSo_60 : decode cL_areTeethSo 60 = .ok (.iconst 4, 1) := by decide +kernel
theorem dL_areTeethSo_61 : decode cL_areTeethSo 61 = .ok (.invokevirtual 69, 3) := by decide +kernel
theorem dL_areTeethSo_64 : decode cL_areTeethSo 64 = .ok (.istore 6, 2) := by decide +kernel
theorem dL_areTeethSo_66 : decode cL_areTeethSo 66 = .ok (.aload_n 0, 1) := by decide +kernel
theorem dL_areTeethSo_67 : decode cL_areTeethSo 67 = .ok (.iconst 1, 1) := by decide +kernel
theorem dL_areTeethSo_68 : decode cL_areTeethSo 68 = .ok (.invokevirtual 63, 3) := by decide +kernel
theorem dL_areTeethSo_71 : decode cL_areTeethSo 71 = .ok (.istore 7, 2) := by decide +kernel
theorem dL_areTeethSo_73 : decode cL_areTeethSo 73 = .ok (.iload 4, 2) := by decide +kernel
theorem dL_areTeethSo_75 : decode cL_areTeethSo 75 = .ok (.ifCond .eq 149, 3) := by decide +kernel
theorem dL_areTeethSo_78 : decode cL_areTeethSo 78 = .ok (.aload_n 0, 1) := by decide +kernel
theorem dL_areTeethSo_79 : decode cL_areTeethSo 79 = .ok (.iload 5, 2) := by decide +kernel
theorem dL_areTeethSo_81 : decode cL_areTeethSo 81 = .ok (.iconst 0, 1) := by decide +kernel
theorem dL_areTeethSo_82 : decode cL_areTeethSo 82 = .ok (.invokevirtual 69, 3) := by decide +kernel
theorem dL_areTeethSo_85 : decode cL_areTeethSo 85 = .ok (.ifCond .lt 139, 3) := by decide +kernel
theorem dL_areTeethSo_88 : decode cL_areTeethSo 88 = .ok (.aload_n 0, 1) := by decide +kernel
theorem dL_areTeethSo_89 : decode cL_areTeethSo 89 = .ok (.iload 5, 2) := by decide +kernel
theorem dL_areTeethSo_91 : decode cL_areTeethSo 91 = .ok (.iconst 0, 1) := by decide +kernel
theorem dL_areTeethSo_92 : decode cL_areTeethSo 92 = .ok (.invokevirtual 69, 3) := by decide +kernel
theorem dL_areTeethSo_95 : decode cL_areTeethSo 95 = .ok (.bipush 90, 2) := by decide +kernel
theorem dL_areTeethSo_97 : decode cL_areTeethSo 97 = .ok (.if_icmp .gt 127, 3) := by decide +kernel
theorem dL_areTeethSo_100 : decode cL_areTeethSo 100 = .ok (.aload_n 0, 1) := by decide +kernel
theorem dL_areTeethSo_101 : decode cL_areTeethSo 101 = .ok (.iload 5, 2) := by decide +kernel
theorem dL_areTeethSo_103 : decode cL_areTeethSo 103 = .ok (.iconst 1, 1) := by decide +kernel
theorem dL_areTeethSo_104 : decode cL_areTeethSo 104 = .ok (.invokevirtual 69, 3) := by decide +kernel
theorem dL_areTeethSo_107 : decode cL_areTeethSo 107 = .ok (.ifCond .lt 117, 3) := by decide +kernel
theorem dL_areTeethSo_110 : decode cL_areTeethSo 110 = .ok (.aload_n 0, 1) := by decide +kernel
theorem dL_areTeethSo_111 : decode cL_areTeethSo 111 = .ok (.iload 5, 2) := by decide +kernel
theorem dL_areTeethSo_113 : decode cL_areTeethSo 113 = .ok (.iconst 1, 1) := by decide +kernel
theorem dL_areTeethSo_114 : decode cL_areTeethSo 114 = .ok (.invokevirtual 69, 3) := by decide +kernel
theorem dL_areTeethSo_117 : decode cL_areTeethSo 117 = .ok (.bipush 10, 2) := by decide +kernel
theorem dL_areTeethSo_119 : decode cL_areTeethSo 119 = .ok (.if_icmp .ge 105, 3) := by decide +kernel
theorem dL_areTeethSo_122 : decode cL_areTeethSo 122 = .ok (.aload_n 0, 1) := by decide +kernel
theorem dL_areTeethSo_123 : decode cL_areTeethSo 123 = .ok (.iload 5, 2) := by decide +kernel
theorem dL_areTeethSo_125 : decode cL_areTeethSo 125 = .ok (.iconst 2, 1) := by decide +kernel
theorem dL_areTeethSo_126 : decode cL_areTeethSo 126 = .ok (.invokevirtual 69, 3) := by decide +kernel
theorem dL_areTeethSo_129 : decode cL_areTeethSo 129 = .ok (.ifCond .eq 13, 3) := by decide +kernel
theorem dL_areTeethSo_132 : decode cL_areTeethSo 132 = .ok (.aload_n 0, 1) := by decide +kernel
theorem dL_areTeethSo_133 : decode cL_areTeethSo 133 = .ok (.iload 5, 2) := by decide +kernel
theorem dL_areTeethSo_135 : decode cL_areTeethSo 135 = .ok (.iconst 0, 1) := by decide +kernel
theorem dL_areTeethSo_136 : decode cL_areTeethSo 136 = .ok (.invokevirtual 69, 3) := by decide +kernel
theorem dL_areTeethSo_139 : decode cL_areTeethSo 139 = .ok (.ifCond .ne 85, 3) := by decide +kernel
theorem dL_areTeethSo_142 : decode cL_areTeethSo 142 = .ok (.iload 6, 2) := by decide +kernel
theorem dL_areTeethSo_144 : decode cL_areTeethSo 144 = .ok (.ifCond .le 7, 3) := by decide +kernel
theorem dL_areTeethSo_147 : decode cL_areTeethSo 147 = .ok (.iconst 1, 1) := by decide +kernel
theorem dL_areTeethSo_148 : decode cL_areTeethSo 148 = .ok (.goto 4, 3) := by decide +kernel
theorem dL_areTeethSo_151 : decode cL_areTeethSo 151 = .ok (.iconst 0, 1) := by decide +kernel
theorem dL_areTeethSo_152 : decode cL_areTeethSo 152 = .ok (.aload_n 0, 1) := by decide +kernel
theorem dL_areTeethSo_153 : decode cL_areTeethSo 153 = .ok (.iload 7, 2) := by decide +kernel
theorem dL_areTeethSo_155 : decode cL_areTeethSo 155 = .ok (.iload 5, 2) := by decide +kernel
theorem dL_areTeethSo_157 : decode cL_areTeethSo 157 = .ok (.iconst 0, 1) := by decide +kernel
theorem dL_areTeethSo_158 : decode cL_areTeethSo 158 = .ok (.invokevirtual 78, 3) := by decide +kernel
theorem dL_areTeethSo_161 : decode cL_areTeethSo 161 = .ok (.ifCond .lt 7, 3) := by decide +kernel
theorem dL_areTeethSo_164 : decode cL_areTeethSo 164 = .ok (.iconst 1, 1) := by decide +kernel
theorem dL_areTeethSo_165 : decode cL_areTeethSo 165 = .ok (.goto 4, 3) := by decide +kernel
theorem dL_areTeethSo_168 : decode cL_areTeethSo 168 = .ok (.iconst 0, 1) := by decide +kernel
theorem dL_areTeethSo_169 : decode cL_areTeethSo 169 = .ok (.if_icmp .ne 55, 3) := by decide +kernel
theorem dL_areTeethSo_172 : decode cL_areTeethSo 172 = .ok (.iload 6, 2) := by decide +kernel
theorem dL_areTeethSo_174 : decode cL_areTeethSo 174 = .ok (.bipush 32, 2) := by decide +kernel
theorem dL_areTeethSo_176 : decode cL_areTeethSo 176 = .ok (.if_icmp .gt 48, 3) := by decide +kernel
theorem dL_areTeethSo_179 : decode cL_areTeethSo 179 = .ok (.iload 6, 2) := by decide +kernel
theorem dL_areTeethSo_181 : decode cL_areTeethSo 181 = .ok (.bipush 32, 2) := by decide +kernel
theorem dL_areTeethSo_183 : decode cL_areTeethSo 183 = .ok (.if_icmp .lt 37, 3) := by decide +kernel
theorem dL_areTeethSo_186 : decode cL_areTeethSo 186 = .ok (.aload_n 0, 1) := by decide +kernel
theorem dL_areTeethSo_187 : decode cL_areTeethSo 187 = .ok (.iload 7, 2) := by decide +kernel
theorem dL_areTeethSo_189 : decode cL_areTeethSo 189 = .ok (.iload 5, 2) := by decide +kernel
theorem dL_areTeethSo_191 : decode cL_areTeethSo 191 = .ok (.iconst 0, 1) := by decide +kernel
theorem dL_areTeethSo_192 : decode cL_areTeethSo 192 = .ok (.invokevirtual 78, 3) := by decide +kernel
theorem dL_areTeethSo_195 : decode cL_areTeethSo 195 = .ok (.aload_n 0, 1) := by decide +kernel
theorem dL_areTeethSo_196 : decode cL_areTeethSo 196 = .ok (.iload 7, 2) := by decide +kernel
theorem dL_areTeethSo_198 : decode cL_areTeethSo 198 = .ok (.iload 5, 2) := by decide +kernel
theorem dL_areTeethSo_200 : decode cL_areTeethSo 200 = .ok (.aload_n 0, 1) := by decide +kernel
theorem dL_areTeethSo_201 : decode cL_areTeethSo 201 = .ok (.iload 7, 2) := by decide +kernel
theorem dL_areTeethSo_203 : decode cL_areTeethSo 203 = .ok (.iload 5, 2) := by decide +kernel
theorem dL_areTeethSo_205 : decode cL_areTeethSo 205 = .ok (.iconst 0, 1) := by decide +kernel
theorem dL_areTeethSo_206 : decode cL_areTeethSo 206 = .ok (.invokevirtual 78, 3) := by decide +kernel
theorem dL_areTeethSo_209 : decode cL_areTeethSo 209 = .ok (.iconst 1, 1) := by decide +kernel
theorem dL_areTeethSo_210 : decode cL_areTeethSo 210 = .ok (.iadd, 1) := by decide +kernel
theorem dL_areTeethSo_211 : decode cL_areTeethSo 211 = .ok (.bipush 32, 2) := by decide +kernel
theorem dL_areTeethSo_213 : decode cL_areTeethSo 213 = .ok (.irem, 1) := by decide +kernel
theorem dL_areTeethSo_214 : decode cL_areTeethSo 214 = .ok (.invokevirtual 78, 3) := by decide +kernel
theorem dL_areTeethSo_217 : decode cL_areTeethSo 217 = .ok (.if_icmp .ne 7, 3) := by decide +kernel
theorem dL_areTeethSo_220 : decode cL_areTeethSo 220 = .ok (.iconst 1, 1) := by decide +kernel
theorem dL_areTeethSo_221 : decode cL_areTeethSo 221 = .ok (.goto 4, 3) := by decide +kernel
theorem dL_areTeethSo_224 : decode cL_areTeethSo 224 = .ok (.iconst 0, 1) := by decide +kernel
theorem dL_areTeethSo_225 : decode cL_areTeethSo 225 = .ok (.istore 4, 2) := by decide +kernel
theorem dL_areTeethSo_227 : decode cL_areTeethSo 227 = .ok (.iinc 5 1, 3) := by decide +kernel
theorem dL_areTeethSo_230 : decode cL_areTeethSo 230 = .ok (.goto (-218), 3) := by decide +kernel
theorem dL_areTeethSo_233 : decode cL_areTeethSo 233 = .ok (.iconst 0, 1) := by decide +kernel
theorem dL_areTeethSo_234 : decode cL_areTeethSo 234 = .ok (.istore 5, 2) := by decide +kernel
theorem dL_areTeethSo_236 : decode cL_areTeethSo 236 = .ok (.iload 5, 2) := by decide +kernel
theorem dL_areTeethSo_238 : decode cL_areTeethSo 238 = .ok (.bipush 24, 2) := by decide +kernel
theorem dL_areTeethSo_240 : decode cL_areTeethSo 240 = .ok (.if_icmp .ge 125, 3) := by decide +kernel
theorem dL_areTeethSo_243 : decode cL_areTeethSo 243 = .ok (.iload 5, 2) := by decide +kernel
theorem dL_areTeethSo_245 : decode cL_areTeethSo 245 = .ok (.iload_n 1, 1) := by decide +kernel
theorem dL_areTeethSo_246 : decode cL_areTeethSo 246 = .ok (.if_icmp .ge 7, 3) := by decide +kernel
theorem dL_areTeethSo_249 : decode cL_areTeethSo 249 = .ok (.iconst 1, 1) := by decide +kernel
theorem dL_areTeethSo_250 : decode cL_areTeethSo 250 = .ok (.goto 4, 3) := by decide +kernel
theorem dL_areTeethSo_253 : decode cL_areTeethSo 253 = .ok (.iconst 0, 1) := by decide +kernel
theorem dL_areTeethSo_254 : decode cL_areTeethSo 254 = .ok (.istore 6, 2) := by decide +kernel
theorem dL_areTeethSo_256 : decode cL_areTeethSo 256 = .ok (.iload 4, 2) := by decide +kernel
theorem dL_areTeethSo_258 : decode cL_areTeethSo 258 = .ok (.ifCond .eq 98, 3) := by decide +kernel
theorem dL_areTeethSo_261 : decode cL_areTeethSo 261 = .ok (.iload 6, 2) := by decide +kernel
theorem dL_areTeethSo_263 : decode cL_areTeethSo 263 = .ok (.ifCond .eq 67, 3) := by decide +kernel
theorem dL_areTeethSo_266 : decode cL_areTeethSo 266 = .ok (.aload_n 0, 1) := by decide +kernel
theorem dL_areTeethSo_267 : decode cL_areTeethSo 267 = .ok (.iload 5, 2) := by decide +kernel
theorem dL_areTeethSo_269 : decode cL_areTeethSo 269 = .ok (.iconst 0, 1) := by decide +kernel
theorem dL_areTeethSo_270 : decode cL_areTeethSo 270 = .ok (.invokevirtual 72, 3) := by decide +kernel
theorem dL_areTeethSo_273 : decode cL_areTeethSo 273 = .ok (.ifCond .lt 83, 3) := by decide +kernel
theorem dL_areTeethSo_276 : decode cL_areTeethSo 276 = .ok (.aload_n 0, 1) := by decide +kernel
theorem dL_areTeethSo_277 : decode cL_areTeethSo 277 = .ok (.iload 5, 2) := by decide +kernel
theorem dL_areTeethSo_279 : decode cL_areTeethSo 279 = .ok (.iconst 0, 1) := by decide +kernel
theorem dL_areTeethSo_280 : decode cL_areTeethSo 280 = .ok (.invokevirtual 72, 3) := by decide +kernel
theorem dL_areTeethSo_283 : decode cL_areTeethSo 283 = .ok (.bipush 12, 2) := by decide +kernel
theorem dL_areTeethSo_285 : decode cL_areTeethSo 285 = .ok (.if_icmp .ge 71, 3) := by decide +kernel
theorem dL_areTeethSo_288 : decode cL_areTeethSo 288 = .ok (.aload_n 0, 1) := by decide +kernel
theorem dL_areTeethSo_289 : decode cL_areTeethSo 289 = .ok (.iload 5, 2) := by decide +kernel
theorem dL_areTeethSo_291 : decode cL_areTeethSo 291 = .ok (.iconst 1, 1) := by decide +kernel
theorem dL_areTeethSo_292 : decode cL_areTeethSo 292 = .ok (.invokevirtual 72, 3) := by decide +kernel
theorem dL_areTeethSo_295 : decode cL_areTeethSo 295 = .ok (.aload_n 0, 1) := by decide +kernel
theorem dL_areTeethSo_296 : decode cL_areTeethSo 296 = .ok (.iconst 4, 1) := by decide +kernel
theorem dL_areTeethSo_297 : decode cL_areTeethSo 297 = .ok (.invokevirtual 63, 3) := by decide +kernel
theorem dL_areTeethSo_300 : decode cL_areTeethSo 300 = .ok (.if_icmp .gt 56, 3) := by decide +kernel
theorem dL_areTeethSo_303 : decode cL_areTeethSo 303 = .ok (.iload 5, 2) := by decide +kernel
theorem dL_areTeethSo_305 : decode cL_areTeethSo 305 = .ok (.ifCond .eq 47, 3) := by decide +kernel
theorem dL_areTeethSo_308 : decode cL_areTeethSo 308 = .ok (.aload_n 0, 1) := by decide +kernel
theorem dL_areTeethSo_309 : decode cL_areTeethSo 309 = .ok (.iload 5, 2) := by decide +kernel
theorem dL_areTeethSo_311 : decode cL_areTeethSo 311 = .ok (.iconst 1, 1) := by decide +kernel
theorem dL_areTeethSo_312 : decode cL_areTeethSo 312 = .ok (.invokevirtual 72, 3) := by decide +kernel
theorem dL_areTeethSo_315 : decode cL_areTeethSo 315 = .ok (.aload_n 0, 1) := by decide +kernel
theorem dL_areTeethSo_316 : decode cL_areTeethSo 316 = .ok (.iload 5, 2) := by decide +kernel
theorem dL_areTeethSo_318 : decode cL_areTeethSo 318 = .ok (.iconst 1, 1) := by decide +kernel
theorem dL_areTeethSo_319 : decode cL_areTeethSo 319 = .ok (.isub, 1) := by decide +kernel
theorem dL_areTeethSo_320 : decode cL_areTeethSo 320 = .ok (.iconst 1, 1) := by decide +kernel
theorem dL_areTeethSo_321 : decode cL_areTeethSo 321 = .ok (.invokevirtual 72, 3) := by decide +kernel
theorem dL_areTeethSo_324 : decode cL_areTeethSo 324 = .ok (.if_icmp .gt 32, 3) := by decide +kernel
theorem dL_areTeethSo_327 : decode cL_areTeethSo 327 = .ok (.goto 25, 3) := by decide +kernel
theorem dL_areTeethSo_330 : decode cL_areTeethSo 330 = .ok (.aload_n 0, 1) := by decide +kernel
theorem dL_areTeethSo_331 : decode cL_areTeethSo 331 = .ok (.iload 5, 2) := by decide +kernel
theorem dL_areTeethSo_333 : decode cL_areTeethSo 333 = .ok (.iconst 0, 1) := by decide +kernel
theorem dL_areTeethSo_334 : decode cL_areTeethSo 334 = .ok (.invokevirtual 72, 3) := by decide +kernel
theorem dL_areTeethSo_337 : decode cL_areTeethSo 337 = .ok (.iconst (-1), 1) := by decide +kernel
theorem dL_areTeethSo_338 : decode cL_areTeethSo 338 = .ok (.if_icmp .ne 18, 3) := by decide +kernel
theorem dL_areTeethSo_341 : decode cL_areTeethSo 341 = .ok (.aload_n 0, 1) := by decide +kernel
theorem dL_areTeethSo_342 : decode cL_areTeethSo 342 = .ok (.iload 5, 2) := by decide +kernel
theorem dL_areTeethSo_344 : decode cL_areTeethSo 344 = .ok (.iconst 1, 1) := by decide +kernel
theorem dL_areTeethSo_345 : decode cL_areTeethSo 345 = .ok (.invokevirtual 72, 3) := by decide +kernel
theorem dL_areTeethSo_348 : decode cL_areTeethSo 348 = .ok (.iconst (-1), 1) := by decide +kernel
theorem dL_areTeethSo_349 : decode cL_areTeethSo 349 = .ok (.if_icmp .ne 7, 3) := by decide +kernel
theorem dL_areTeethSo_352 : decode cL_areTeethSo 352 = .ok (.iconst 1, 1) := by decide +kernel
theorem dL_areTeethSo_353 : decode cL_areTeethSo 353 = .ok (.goto 4, 3) := by decide +kernel
theorem dL_areTeethSo_356 : decode cL_areTeethSo 356 = .ok (.iconst 0, 1) := by decide +kernel
theorem dL_areTeethSo_357 : decode cL_areTeethSo 357 = .ok (.istore 4, 2) := by decide +kernel
theorem dL_areTeethSo_359 : decode cL_areTeethSo 359 = .ok (.iinc 5 1, 3) := by decide +kernel
theorem dL_areTeethSo_362 : decode cL_areTeethSo 362 = .ok (.goto (-126), 3) := by decide +kernel
theorem dL_areTeethSo_365 : decode cL_areTeethSo 365 = .ok (.iload_n 1, 1) := by decide +kernel
theorem dL_areTeethSo_366 : decode cL_areTeethSo 366 = .ok (.aload_n 0, 1) := by decide +kernel
theorem dL_areTeethSo_367 : decode cL_areTeethSo 367 = .ok (.bipush 7, 2) := by decide +kernel
theorem dL_areTeethSo_369 : decode cL_areTeethSo 369 = .ok (.invokevirtual 63, 3) := by decide +kernel
theorem dL_areTeethSo_372 : decode cL_areTeethSo 372 = .ok (.if_icmp .le 14, 3) := by decide +kernel
theorem dL_areTeethSo_375 : decode cL_areTeethSo 375 = .ok (.iload_n 1, 1) := by decide +kernel
theorem dL_areTeethSo_376 : decode cL_areTeethSo 376 = .ok (.aload_n 0, 1) := by decide +kernel
theorem dL_areTeethSo_377 : decode cL_areTeethSo 377 = .ok (.bipush 7, 2) := by decide +kernel
theorem dL_areTeethSo_379 : decode cL_areTeethSo 379 = .ok (.invokevirtual 63, 3) := by decide +kernel
theorem dL_areTeethSo_382 : decode cL_areTeethSo 382 = .ok (.isub, 1) := by decide +kernel
theorem dL_areTeethSo_383 : decode cL_areTeethSo 383 = .ok (.goto 4, 3) := by decide +kernel
theorem dL_areTeethSo_386 : decode cL_areTeethSo 386 = .ok (.iconst 0, 1) := by decide +kernel
theorem dL_areTeethSo_387 : decode cL_areTeethSo 387 = .ok (.istore 5, 2) := by decide +kernel
theorem dL_areTeethSo_389 : decode cL_areTeethSo 389 = .ok (.iload_n 1, 1) := by decide +kernel
theorem dL_areTeethSo_390 : decode cL_areTeethSo 390 = .ok (.ifCond .ne 7, 3) := by decide +kernel
theorem dL_areTeethSo_393 : decode cL_areTeethSo 393 = .ok (.dconst 1, 1) := by decide +kernel
theorem dL_areTeethSo_394 : decode cL_areTeethSo 394 = .ok (.goto 11, 3) := by decide +kernel
theorem dL_areTeethSo_397 : decode cL_areTeethSo 397 = .ok (.iload 5, 2) := by decide +kernel
theorem dL_areTeethSo_399 : decode cL_areTeethSo 399 = .ok (.i2d, 1) := by decide +kernel
theorem dL_areTeethSo_400 : decode cL_areTeethSo 400 = .ok (.dconst 1, 1) := by decide +kernel
theorem dL_areTeethSo_401 : decode cL_areTeethSo 401 = .ok (.dmul, 1) := by decide +kernel
theorem dL_areTeethSo_402 : decode cL_areTeethSo 402 = .ok (.iload_n 1, 1) := by decide +kernel
theorem dL_areTeethSo_403 : decode cL_areTeethSo 403 = .ok (.i2d, 1) := by decide +kernel
theorem dL_areTeethSo_404 : decode cL_areTeethSo 404 = .ok (.ddiv, 1) := by decide +kernel
theorem dL_areTeethSo_405 : decode cL_areTeethSo 405 = .ok (.dstore 6, 2) := by decide +kernel
theorem dL_areTeethSo_407 : decode cL_areTeethSo 407 = .ok (.iload 4, 2) := by decide +kernel
theorem dL_areTeethSo_409 : decode cL_areTeethSo 409 = .ok (.ifCond .eq 97, 3) := by decide +kernel
theorem dL_areTeethSo_412 : decode cL_areTeethSo 412 = .ok (.iload_n 1, 1) := by decide +kernel
theorem dL_areTeethSo_413 : decode cL_areTeethSo 413 = .ok (.aload_n 0, 1) := by decide +kernel
theorem dL_areTeethSo_414 : decode cL_areTeethSo 414 = .ok (.bipush 6, 2) := by decide +kernel
theorem dL_areTeethSo_416 : decode cL_areTeethSo 416 = .ok (.invokevirtual 63, 3) := by decide +kernel
theorem dL_areTeethSo_419 : decode cL_areTeethSo 419 = .ok (.if_icmp .ne 87, 3) := by decide +kernel
theorem dL_areTeethSo_422 : decode cL_areTeethSo 422 = .ok (.iload_n 2, 1) := by decide +kernel
theorem dL_areTeethSo_423 : decode cL_areTeethSo 423 = .ok (.aload_n 0, 1) := by decide +kernel
theorem dL_areTeethSo_424 : decode cL_areTeethSo 424 = .ok (.bipush 8, 2) := by decide +kernel
theorem dL_areTeethSo_426 : decode cL_areTeethSo 426 = .ok (.invokevirtual 63, 3) := by decide +kernel
theorem dL_areTeethSo_429 : decode cL_areTeethSo 429 = .ok (.if_icmp .ne 77, 3) := by decide +kernel
theorem dL_areTeethSo_432 : decode cL_areTeethSo 432 = .ok (.iload_n 3, 1) := by decide +kernel
theorem dL_areTeethSo_433 : decode cL_areTeethSo 433 = .ok (.aload_n 0, 1) := by decide +kernel
theorem dL_areTeethSo_434 : decode cL_areTeethSo 434 = .ok (.bipush 9, 2) := by decide +kernel
theorem dL_areTeethSo_436 : decode cL_areTeethSo 436 = .ok (.invokevirtual 63, 3) := by decide +kernel
theorem dL_areTeethSo_439 : decode cL_areTeethSo 439 = .ok (.if_icmp .ne 67, 3) := by decide +kernel
theorem dL_areTeethSo_442 : decode cL_areTeethSo 442 = .ok (.aload_n 0, 1) := by decide +kernel
theorem dL_areTeethSo_443 : decode cL_areTeethSo 443 = .ok (.bipush 11, 2) := by decide +kernel
theorem dL_areTeethSo_445 : decode cL_areTeethSo 445 = .ok (.invokevirtual 63, 3) := by decide +kernel
theorem dL_areTeethSo_448 : decode cL_areTeethSo 448 = .ok (.aload_n 0, 1) := by decide +kernel
theorem dL_areTeethSo_449 : decode cL_areTeethSo 449 = .ok (.iconst 5, 1) := by decide +kernel
theorem dL_areTeethSo_450 : decode cL_areTeethSo 450 = .ok (.invokevirtual 63, 3) := by decide +kernel
theorem dL_areTeethSo_453 : decode cL_areTeethSo 453 = .ok (.if_icmp .lt 53, 3) := by decide +kernel
theorem dL_areTeethSo_456 : decode cL_areTeethSo 456 = .ok (.aload_n 0, 1) := by decide +kernel
theorem dL_areTeethSo_457 : decode cL_areTeethSo 457 = .ok (.bipush 11, 2) := by decide +kernel
theorem dL_areTeethSo_459 : decode cL_areTeethSo 459 = .ok (.invokevirtual 63, 3) := by decide +kernel
theorem dL_areTeethSo_462 : decode cL_areTeethSo 462 = .ok (.aload_n 0, 1) := by decide +kernel
theorem dL_areTeethSo_463 : decode cL_areTeethSo 463 = .ok (.bipush 6, 2) := by decide +kernel
theorem dL_areTeethSo_465 : decode cL_areTeethSo 465 = .ok (.invokevirtual 63, 3) := by decide +kernel
theorem dL_areTeethSo_468 : decode cL_areTeethSo 468 = .ok (.aload_n 0, 1) := by decide +kernel
theorem dL_areTeethSo_469 : decode cL_areTeethSo 469 = .ok (.iconst 5, 1) := by decide +kernel
theorem dL_areTeethSo_470 : decode cL_areTeethSo 470 = .ok (.invokevirtual 63, 3) := by decide +kernel
theorem dL_areTeethSo_473 : decode cL_areTeethSo 473 = .ok (.iadd, 1) := by decide +kernel
theorem dL_areTeethSo_474 : decode cL_areTeethSo 474 = .ok (.if_icmp .lt 32, 3) := by decide +kernel
theorem dL_areTeethSo_477 : decode cL_areTeethSo 477 = .ok (.aload_n 0, 1) := by decide +kernel
theorem dL_areTeethSo_478 : decode cL_areTeethSo 478 = .ok (.iconst 4, 1) := by decide +kernel
theorem dL_areTeethSo_479 : decode cL_areTeethSo 479 = .ok (.invokevirtual 63, 3) := by decide +kernel
theorem dL_areTeethSo_482 : decode cL_areTeethSo 482 = .ok (.iconst 2, 1) := by decide +kernel
theorem dL_areTeethSo_483 : decode cL_areTeethSo 483 = .ok (.aload_n 0, 1) := by decide +kernel
theorem dL_areTeethSo_484 : decode cL_areTeethSo 484 = .ok (.iconst 5, 1) := by decide +kernel
theorem dL_areTeethSo_485 : decode cL_areTeethSo 485 = .ok (.invokevirtual 63, 3) := by decide +kernel
theorem dL_areTeethSo_488 : decode cL_areTeethSo 488 = .ok (.imul, 1) := by decide +kernel
theorem dL_areTeethSo_489 : decode cL_areTeethSo 489 = .ok (.if_icmp .lt 17, 3) := by decide +kernel
theorem dL_areTeethSo_492 : decode cL_areTeethSo 492 = .ok (.aload_n 0, 1) := by decide +kernel
theorem dL_areTeethSo_493 : decode cL_areTeethSo 493 = .ok (.invokevirtual 59, 3) := by decide +kernel
theorem dL_areTeethSo_496 : decode cL_areTeethSo 496 = .ok (.dload 6, 2) := by decide +kernel
theorem dL_areTeethSo_498 : decode cL_areTeethSo 498 = .ok (.dcmp .l, 1) := by decide +kernel
theorem dL_areTeethSo_499 : decode cL_areTeethSo 499 = .ok (.ifCond .ne 7, 3) := by decide +kernel
theorem dL_areTeethSo_502 : decode cL_areTeethSo 502 = .ok (.iconst 1, 1) := by decide +kernel
theorem dL_areTeethSo_503 : decode cL_areTeethSo 503 = .ok (.goto 4, 3) := by decide +kernel
theorem dL_areTeethSo_506 : decode cL_areTeethSo 506 = .ok (.iconst 0, 1) := by decide +kernel
theorem dL_areTeethSo_507 : decode cL_areTeethSo 507 = .ok (.ireturn, 1) := by decide +kernel
set_option maxRecDepth 20000 in
theorem ggL_isStepSo_X2_count : GoodIn wsL_isStepSo wsX2_count := goodIn_ca (goodIn_r _ [5, 6, 7, 8, 9, 4, 10, 11, 12, 13, 14, 15, 16, 17, 18, 19, 20, 21, 22, 23, 24, 25, 26, 27, 28, 29, 30, 31, 32, 33, 34, 35, 36, 37, 38, 39, 40, 41, 42, 43, 44, 45, 46, 47, 48, 49, 50, 51, 52, 53, 54, 55, 56, 57, 58, 59, 60, 61, 62, 63, 64, 65, 66, 67, 68, 69, 70, 71, 72, 73, 208, 209, 210, 211, 212, 213, 214, 215, 216, 217, 218, 219, 220, 221, 222, 223, 224, 225, 226, 227, 228, 229, 230, 231, 232, 233, 234] rfl (by decide +kernel)) (goodIn_sub (fun _ h => List.mem_cons_of_mem _ (List.mem_append_left _ (List.mem_append_left _ (List.mem_append_right _ h)))) (by decide +kernel))
set_option maxRecDepth 20000 in
theorem gL_isStepSo_X2_count : GoodIn wsL_isStepSo (wsV RL 63 RX2 yX2_count wsX2_count) := goodIn_app (goodIn_r _ [1, 2, 3, 4] rfl (by decide +kernel)) ggL_isStepSo_X2_count
set_option maxRecDepth 20000 in
theorem ggL_isStepSo_X2_chord : GoodIn wsL_isStepSo wsX2_chord := goodIn_ca (goodIn_r _ [77, 78, 79, 16, 8, 9, 4, 10, 80, 66, 67, 20, 68, 69, 208, 209, 210, 211, 212, 213, 214, 215, 216, 217, 218, 219, 220, 221, 222, 223, 224, 225, 226, 227, 228, 229, 230, 231, 232, 233, 234] rfl (by decide +kernel)) (goodIn_sub (fun _ h => List.mem_cons_of_mem _ (List.mem_append_left _ (List.mem_append_right _ h))) (by decide +kernel))
set_option maxRecDepth 20000 in
theorem gL_isStepSo_X2_chord : GoodIn wsL_isStepSo (wsV RL 66 RX2 yX2_chord wsX2_chord) := goodIn_app (goodIn_r _ [74, 75, 76, 4] rfl (by decide +kernel)) ggL_isStepSo_X2_chord
set_option maxRecDepth 20000 in
theorem ggL_isStepSo_X2_tooth : GoodIn wsL_isStepSo wsX2_tooth := goodIn_ca (goodIn_ca (goodIn_r _ [84, 78, 79, 6, 7, 16, 8, 9, 4, 10, 85, 86, 87, 20, 88, 89, 90, 23, 36, 37, 38, 39, 40, 26, 41, 42, 43, 44, 91, 92, 93, 94, 49, 95, 96, 97, 98, 99, 100, 101, 102, 65, 66, 67, 68, 69, 208, 209, 210, 211, 212, 213, 214, 215, 216, 217, 218, 219, 220, 221, 222, 223, 224, 225, 226, 227, 228, 229, 230, 231, 232, 233, 234] rfl (by decide +kernel)) (goodIn_sub (fun _ h => List.mem_cons_of_mem _ (List.mem_append_left _ (List.mem_append_right _ h))) (by decide +kernel))) (goodIn_sub (fun _ h => List.mem_cons_of_mem _ (List.mem_append_left _ (List.mem_append_left _ (List.mem_append_right _ h)))) (by decide +kernel))
set_option maxRecDepth 20000 in
theorem gL_isStepSo_X2_tooth : GoodIn wsL_isStepSo (wsV RL 69 RX2 yX2_tooth wsX2_tooth) := goodIn_app (goodIn_r _ [81, 82, 83, 4] rfl (by decide +kernel)) ggL_isStepSo_X2_tooth
set_option maxRecDepth 20000 in
theorem ggL_isStepSo_X2_ifPlayed : GoodIn wsL_isStepSo wsX2_ifPlayed := goodIn_ca (goodIn_r _ [106, 6, 7, 16, 107, 108, 4, 109, 8, 9, 10, 110, 111, 112, 113, 114, 115, 116, 117, 20, 118, 69, 119, 120, 121, 122, 40, 89, 90, 123, 124, 31, 49, 22, 23, 24, 25, 26, 27, 28, 29, 30, 125, 126, 127, 128, 129, 130, 131, 132, 41, 42, 43, 44, 133, 134, 135, 70, 71, 72, 73, 136, 137, 138, 139, 65, 66, 67, 68, 140, 141, 142, 143, 50, 51, 52, 53, 54, 55, 56, 144, 145, 146, 147, 36, 37, 38, 39, 148, 149, 150, 151, 91, 92, 93, 94, 152, 153, 154, 155, 156, 157, 158, 159, 160, 46, 47, 48, 208, 209, 210, 211, 212, 213, 214, 215, 216, 217, 218, 219, 220, 221, 222, 223, 224, 225, 226, 227, 228, 229, 230, 231, 232, 233, 234] rfl (by decide +kernel)) (goodIn_sub (fun _ h => List.mem_cons_of_mem _ (List.mem_append_left _ (List.mem_append_left _ (List.mem_append_right _ h)))) (by decide +kernel))
set_option maxRecDepth 20000 in
theorem gL_isStepSo_X2_ifPlayed : GoodIn wsL_isStepSo (wsV RL 87 RX2 yX2_ifPlayed wsX2_ifPlayed) := goodIn_app (goodIn_r _ [103, 104, 105, 4] rfl (by decide +kernel)) ggL_isStepSo_X2_ifPlayed
set_option maxRecDepth 20000 in
theorem ggL_isStepSo_X2_windFor : GoodIn wsL_isStepSo wsX2_windFor := goodIn_ca (goodIn_r _ [164, 6, 7, 16, 107, 108, 4, 109, 165, 166, 167, 20, 168, 22, 23, 133, 134, 135, 70, 71, 72, 73, 136, 137, 138, 139, 31, 140, 141, 142, 143, 49, 65, 66, 67, 68, 69, 50, 51, 52, 53, 54, 55, 56, 208, 209, 210, 211, 212, 213, 214, 215, 216, 217, 218, 219, 220, 221, 222, 223, 224, 225, 226, 227, 228, 229, 230, 231, 232, 233, 234] rfl (by decide +kernel)) (goodIn_sub (fun _ h => List.mem_cons_of_mem _ (List.mem_append_left _ (List.mem_append_left _ (List.mem_append_right _ h)))) (by decide +kernel))
set_option maxRecDepth 20000 in
theorem gL_isStepSo_X2_windFor : GoodIn wsL_isStepSo (wsV RL 90 RX2 yX2_windFor wsX2_windFor) := goodIn_app (goodIn_r _ [161, 162, 163, 4] rfl (by decide +kernel)) ggL_isStepSo_X2_windFor
