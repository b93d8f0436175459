set_option maxRecDepth 20000 in
theorem ggX2_init_X1_init : GoodIn wsX2_init wsX1_init := goodIn_r _ [22, 23, 2, 3, 24, 25, 26, 27, 28, 29, 30, 31, 32, 33, 34, 35, 36, 37, 38, 39, 40, 41, 50, 51, 52, 53, 54, 55, 56, 57, 58, 59, 60, 61, 62, 63, 64, 65, 66] rfl (by decide +kernel)
set_option maxRecDepth 20000 in
theorem gX2_init_X1_init_n11 : GoodIn wsX2_init (wsX1_init) := ggX2_init_X1_init
set_option maxRecDepth 20000 in
theorem ggX2_init_X0_init : GoodIn wsX2_init wsX0_init := goodIn_r _ [43, 44, 2, 3, 45, 46, 47, 48, 49, 77, 78, 79, 80, 81] rfl (by decide +kernel)
set_option maxRecDepth 20000 in
theorem gX2_init_X0_init_n46 : GoodIn wsX2_init (wsX0_init) := ggX2_init_X0_init
theorem dX2_init_0 : decode cX2_init 0 = .ok (.aload_n 0, 1) := by decide +kernel
theorem dX2_init_1 : decode cX2_init 1 = .ok (.invokespecial 3, 3) := by decide +kernel
theorem dX2_init_4 : decode cX2_init 4 = .ok (.aload_n 0, 1) := by decide +kernel
theorem dX2_init_5 : decode cX2_init 5 = .ok (.new 9, 3) := by decide +kernel
theorem dX2_init_8 : decode cX2_init 8 = .ok (.dup, 1) := by decide +kernel
theorem dX2_init_9 : decode cX2_init 9 = .ok (.invokespecial 11, 3) := by decide +kernel
theorem dX2_init_12 : decode cX2_init 12 = .ok (.putfield 12, 3) := by decide +kernel
theorem dX2_init_15 : decode cX2_init 15 = .ok (.aload_n 0, 1) := by decide +kernel
theorem dX2_init_16 : decode cX2_init 16 = .ok (.new 9, 3) := by decide +kernel
theorem dX2_init_19 : decode cX2_init 19 = .ok (.dup, 1) := by decide +kernel
theorem dX2_init_20 : decode cX2_init 20 = .ok (.invokespecial 11, 3) := by decide +kernel
theorem dX2_init_23 : decode cX2_init 23 = .ok (.putfield 16, 3) := by decide +kernel
theorem dX2_init_26 : decode cX2_init 26 = .ok (.aload_n 0, 1) := by decide +kernel
theorem dX2_init_27 : decode cX2_init 27 = .ok (.new 9, 3) := by decide +kernel
theorem dX2_init_30 : decode cX2_init 30 = .ok (.dup, 1) := by decide +kernel
theorem dX2_init_31 : decode cX2_init 31 = .ok (.invokespecial 11, 3) := by decide +kernel
theorem dX2_init_34 : decode cX2_init 34 = .ok (.putfield 19, 3) := by decide +kernel
theorem dX2_init_37 : decode cX2_init 37 = .ok (.aload_n 0, 1) := by decide +kernel
theorem dX2_init_38 : decode cX2_init 38 = .ok (.iconst 0, 1) := by decide +kernel
theorem dX2_init_39 : decode cX2_init 39 = .ok (.putfield 22, 3) := by decide +kernel
theorem dX2_init_42 : decode cX2_init 42 = .ok (.aload_n 0, 1) := by decide +kernel
theorem dX2_init_43 : decode cX2_init 43 = .ok (.bipush 6, 2) := by decide +kernel
theorem dX2_init_45 : decode cX2_init 45 = .ok (.anewarray 9, 3) := by decide +kernel
theorem dX2_init_48 : decode cX2_init 48 = .ok (.putfield 26, 3) := by decide +kernel
theorem dX2_init_51 : decode cX2_init 51 = .ok (.aload_n 0, 1) := by decide +kernel
theorem dX2_init_52 : decode cX2_init 52 = .ok (.iconst 0, 1) := by decide +kernel
theorem dX2_init_53 : decode cX2_init 53 = .ok (.putfield 30, 3) := by decide +kernel
theorem dX2_init_56 : decode cX2_init 56 = .ok (.aload_n 0, 1) := by decide +kernel
theorem dX2_init_57 : decode cX2_init 57 = .ok (.iconst 0, 1) := by decide +kernel
theorem dX2_init_58 : decode cX2_init 58 = .ok (.putfield 34, 3) := by decide +kernel
theorem dX2_init_61 : decode cX2_init 61 = .ok (.aload_n 0, 1) := by decide +kernel
theorem dX2_init_62 : decode cX2_init 62 = .ok (.bipush 60, 2) := by decide +kernel
theorem dX2_init_64 : decode cX2_init 64 = .ok (.newarray .char, 2) := by decide +kernel
theorem dX2_init_66 : decode cX2_init 66 = .ok (.putfield 37, 3) := by decide +kernel
theorem dX2_init_69 : decode cX2_init 69 = .ok (.aload_n 0, 1) := by decide +kernel
theorem dX2_init_70 : decode cX2_init 70 = .ok (.iconst 0, 1) := by decide +kernel
theorem dX2_init_71 : decode cX2_init 71 = .ok (.putfield 41, 3) := by decide +kernel
theorem dX2_init_74 : decode cX2_init 74 = .ok (.aload_n 0, 1) := by decide +kernel
theorem dX2_init_75 : decode cX2_init 75 = .ok (.new 44, 3) := by decide +kernel
theorem dX2_init_78 : decode cX2_init 78 = .ok (.dup, 1) := by decide +kernel
theorem dX2_init_79 : decode cX2_init 79 = .ok (.invokespecial 46, 3) := by decide +kernel
theorem dX2_init_82 : decode cX2_init 82 = .ok (.putfield 47, 3) := by decide +kernel
theorem dX2_init_85 : decode cX2_init 85 = .ok (.iconst 0, 1) := by decide +kernel
theorem dX2_init_86 : decode cX2_init 86 = .ok (.istore_n 1, 1) := by decide +kernel
theorem dX2_init_87 : decode cX2_init 87 = .ok (.iload_n 1, 1) := by decide +kernel
theorem dX2_init_88 : decode cX2_init 88 = .ok (.bipush 6, 2) := by decide +kernel
theorem dX2_init_90 : decode cX2_init 90 = .ok (.if_icmp .ge 22, 3) := by decide +kernel
theorem dX2_init_93 : decode cX2_init 93 = .ok (.aload_n 0, 1) := by decide +kernel
theorem dX2_init_94 : decode cX2_init 94 = .ok (.getfield 26, 3) := by decide +kernel
theorem dX2_init_97 : decode cX2_init 97 = .ok (.iload_n 1, 1) := by decide +kernel
theorem dX2_init_98 : decode cX2_init 98 = .ok (.new 9, 3) := by decide +kernel
theorem dX2_init_101 : decode cX2_init 101 = .ok (.dup, 1) := by decide +kernel
theorem dX2_init_102 : decode cX2_init 102 = .ok (.invokespecial 11, 3) := by decide +kernel
theorem dX2_init_105 : decode cX2_init 105 = .ok (.aastore, 1) := by decide +kernel
theorem dX2_init_106 : decode cX2_init 106 = .ok (.iinc 1 1, 3) := by decide +kernel
theorem dX2_init_109 : decode cX2_init 109 = .ok (.goto (-22), 3) := by decide +kernel
theorem dX2_init_112 : decode cX2_init 112 = .ok (.return_, 1) := by decide +kernel
set_option maxRecDepth 20000 in
theorem ggX2_pin_X2_isPlace : GoodIn wsX2_pin wsX2_isPlace := goodIn_r _ [9, 10, 11, 8, 12] rfl (by decide +kernel)
set_option maxRecDepth 20000 in
theorem gX2_pin_X2_isPlace : GoodIn wsX2_pin (va_wsS RX2 51 yX2_isPlace wsX2_isPlace) := goodIn_app (goodIn_r _ [6, 7, 8] rfl (by decide +kernel)) ggX2_pin_X2_isPlace
set_option maxRecDepth 20000 in
theorem ggX2_pin_X1_hindrance : GoodIn wsX2_pin wsX1_hindrance := goodIn_r _ [17, 18, 19, 20, 21, 16, 22, 23, 24, 25, 26, 27, 28, 29, 30, 31, 32, 33, 34, 35, 36, 37, 38, 39, 40, 41, 90, 91, 92, 93, 94, 95, 96, 97, 98, 99, 100, 101, 102, 103, 104, 105, 106] rfl (by decide +kernel)
set_option maxRecDepth 20000 in
theorem gX2_pin_X1_hindrance : GoodIn wsX2_pin (wsV RX2 62 RX1 yX1_hindrance wsX1_hindrance) := goodIn_app (goodIn_r _ [13, 14, 15, 16] rfl (by decide +kernel)) ggX2_pin_X1_hindrance
set_option maxRecDepth 20000 in
theorem ggX2_pin_X2_saveState : GoodIn wsX2_pin wsX2_saveState := goodIn_r _ [45, 46, 47, 48, 5, 49, 50, 51, 16, 52, 27, 53, 54, 55, 56, 57, 58, 59, 60, 61, 18, 62, 63, 64, 65, 66, 67, 68, 69, 70, 71, 80, 81, 82, 83, 84, 85, 86, 87, 88, 89, 90, 91, 92, 93, 94, 95, 96, 97, 98, 99, 100, 101, 102, 103, 104, 105, 106] rfl (by decide +kernel)
set_option maxRecDepth 20000 in
theorem gX2_pin_X2_saveState : GoodIn wsX2_pin (wsV RX2 71 RX2 yX2_saveState wsX2_saveState) := goodIn_app (goodIn_r _ [42, 43, 44, 8] rfl (by decide +kernel)) ggX2_pin_X2_saveState
set_option maxRecDepth 20000 in
theorem ggX2_pin_X1_putPin : GoodIn wsX2_pin wsX1_putPin := goodIn_r _ [75, 27, 90, 91, 92, 93, 94, 95, 96, 97, 98, 99, 100, 101, 102, 103, 104, 105, 106] rfl (by decide +kernel)
set_option maxRecDepth 20000 in
theorem gX2_pin_X1_putPin : GoodIn wsX2_pin (wsV RX2 74 RX1 yX1_putPin wsX1_putPin) := goodIn_app (goodIn_r _ [72, 73, 74, 16] rfl (by decide +kernel)) ggX2_pin_X1_putPin
set_option maxRecDepth 20000 in
theorem ggX2_pin_X1_pinsOf : GoodIn wsX2_pin wsX1_pinsOf := goodIn_r _ [79, 23, 24, 25, 16, 26, 27, 35, 36, 37, 38, 39, 40, 41, 90, 91, 92, 93, 94, 95, 96, 97, 98, 99, 100, 101, 102, 103, 104, 105, 106] rfl (by decide +kernel)
set_option maxRecDepth 20000 in
theorem gX2_pin_X1_pinsOf : GoodIn wsX2_pin (wsV RX2 78 RX1 yX1_pinsOf wsX1_pinsOf) := goodIn_app (goodIn_r _ [76, 77, 78, 16] rfl (by decide +kernel)) ggX2_pin_X1_pinsOf
theorem dX2_pin_0 : decode cX2_pin 0 = .ok (.iload_n 1, 1) := by decide +kernel
theorem dX2_pin_1 : decode cX2_pin 1 = .ok (.iload_n 2, 1) := by decide +kernel
theorem dX2_pin_2 : decode cX2_pin 2 = .ok (.iload_n 3, 1) := by decide +kernel
theorem dX2_pin_3 : decode cX2_pin 3 = .ok (.invokestatic 51, 3) := by decide +kernel
theorem dX2_pin_6 : decode cX2_pin 6 = .ok (.ifCond .ne 13, 3) := by decide +kernel
theorem dX2_pin_9 : decode cX2_pin 9 = .ok (.new 55, 3) := by decide +kernel
theorem dX2_pin_12 : decode cX2_pin 12 = .ok (.dup, 1) := by decide +kernel
theorem dX2_pin_13 : decode cX2_pin 13 = .ok (.ldc 57, 2) := by decide +kernel
theorem dX2_pin_15 : decode cX2_pin 15 = .ok (.invokespecial 59, 3) := by decide +kernel
theorem dX2_pin_18 : decode cX2_pin 18 = .ok (.athrow, 1) := by decide +kernel
theorem dX2_pin_19 : decode cX2_pin 19 = .ok (.aload_n 0, 1) := by decide +kernel
theorem dX2_pin_20 : decode cX2_pin 20 = .ok (.getfield 12, 3) := by decide +kernel
theorem dX2_pin_23 : decode cX2_pin 23 = .ok (.iload_n 1, 1) := by decide +kernel
theorem dX2_pin_24 : decode cX2_pin 24 = .ok (.iload_n 2, 1) := by decide +kernel
theorem dX2_pin_25 : decode cX2_pin 25 = .ok (.iload_n 3, 1) := by decide +kernel
theorem dX2_pin_26 : decode cX2_pin 26 = .ok (.invokevirtual 62, 3) := by decide +kernel
theorem dX2_pin_29 : decode cX2_pin 29 = .ok (.ifCond .eq 13, 3) := by decide +kernel
theorem dX2_pin_32 : decode cX2_pin 32 = .ok (.new 66, 3) := by decide +kernel
theorem dX2_pin_35 : decode cX2_pin 35 = .ok (.dup, 1) := by decide +kernel
theorem dX2_pin_36 : decode cX2_pin 36 = .ok (.ldc 68, 2) := by decide +kernel
theorem dX2_pin_38 : decode cX2_pin 38 = .ok (.invokespecial 70, 3) := by decide +kernel
theorem dX2_pin_41 : decode cX2_pin 41 = .ok (.athrow, 1) := by decide +kernel
theorem dX2_pin_42 : decode cX2_pin 42 = .ok (.aload_n 0, 1) := by decide +kernel
theorem dX2_pin_43 : decode cX2_pin 43 = .ok (.invokevirtual 71, 3) := by decide +kernel
theorem dX2_pin_46 : decode cX2_pin 46 = .ok (.aload_n 0, 1) := by decide +kernel
theorem dX2_pin_47 : decode cX2_pin 47 = .ok (.getfield 12, 3) := by decide +kernel
theorem dX2_pin_50 : decode cX2_pin 50 = .ok (.iload_n 1, 1) := by decide +kernel
theorem dX2_pin_51 : decode cX2_pin 51 = .ok (.iload_n 2, 1) := by decide +kernel
theorem dX2_pin_52 : decode cX2_pin 52 = .ok (.iload_n 3, 1) := by decide +kernel
theorem dX2_pin_53 : decode cX2_pin 53 = .ok (.invokevirtual 74, 3) := by decide +kernel
theorem dX2_pin_56 : decode cX2_pin 56 = .ok (.aload_n 0, 1) := by decide +kernel
theorem dX2_pin_57 : decode cX2_pin 57 = .ok (.getfield 12, 3) := by decide +kernel
theorem dX2_pin_60 : decode cX2_pin 60 = .ok (.iload_n 1, 1) := by decide +kernel
theorem dX2_pin_61 : decode cX2_pin 61 = .ok (.invokevirtual 78, 3) := by decide +kernel
theorem dX2_pin_64 : decode cX2_pin 64 = .ok (.ireturn, 1) := by decide +kernel
set_option maxRecDepth 20000 in
theorem ggX2_pull_X2_isPlace : GoodIn wsX2_pull wsX2_isPlace := goodIn_r _ [9, 10, 11, 8, 12] rfl (by decide +kernel)
set_option maxRecDepth 20000 in
theorem gX2_pull_X2_isPlace : GoodIn wsX2_pull (va_wsS RX2 51 yX2_isPlace wsX2_isPlace) := goodIn_app (goodIn_r _ [6, 7, 8] rfl (by decide +kernel)) ggX2_pull_X2_isPlace
set_option maxRecDepth 20000 in
theorem ggX2_pull_X2_isBelow : GoodIn wsX2_pull wsX2_isBelow := goodIn_r _ [12] rfl (by decide +kernel)
set_option maxRecDepth 20000 in
theorem gX2_pull_X2_isBelow : GoodIn wsX2_pull (va_wsS RX2 82 yX2_isBelow wsX2_isBelow) := goodIn_app (goodIn_r _ [10, 11, 8] rfl (by decide +kernel)) ggX2_pull_X2_isBelow
set_option maxRecDepth 20000 in
theorem ggX2_pull_X2_saveState : GoodIn wsX2_pull wsX2_saveState := goodIn_r _ [16, 17, 18, 19, 5, 20, 21, 22, 23, 24, 25, 26, 27, 28, 29, 30, 31, 32, 33, 34, 35, 36, 37, 38, 39, 40, 41, 42, 43, 44, 45, 58, 59, 60, 61, 62, 63, 64, 65, 66, 67, 68, 69, 70, 71, 72, 73, 74, 75, 76, 77, 78, 79, 80, 81, 82, 83, 84] rfl (by decide +kernel)
set_option maxRecDepth 20000 in
theorem gX2_pull_X2_saveState : GoodIn wsX2_pull (wsV RX2 71 RX2 yX2_saveState wsX2_saveState) := goodIn_app (goodIn_r _ [13, 14, 15, 8] rfl (by decide +kernel)) ggX2_pull_X2_saveState
set_option maxRecDepth 20000 in
theorem ggX2_pull_X1_takeRange : GoodIn wsX2_pull wsX1_takeRange := goodIn_r _ [49, 25, 50, 51, 52, 23, 53, 54, 55, 56, 57, 68, 69, 70, 71, 72, 73, 74, 75, 76, 77, 78, 79, 80, 81, 82, 83, 84] rfl (by decide +kernel)
set_option maxRecDepth 20000 in
theorem gX2_pull_X1_takeRange : GoodIn wsX2_pull (wsV RX2 91 RX1 yX1_takeRange wsX1_takeRange) := goodIn_app (goodIn_r _ [46, 47, 48, 23] rfl (by decide +kernel)) ggX2_pull_X1_takeRange
theorem dX2_pull_0 : decode cX2_pull 0 = .ok (.iload_n 1, 1) := by decide +kernel
theorem dX2_pull_1 : decode cX2_pull 1 = .ok (.iload_n 2, 1) := by decide +kernel
theorem dX2_pull_2 : decode cX2_pull 2 = .ok (.iload_n 3, 1) := by decide +kernel
theorem dX2_pull_3 : decode cX2_pull 3 = .ok (.invokestatic 51, 3) := by decide +kernel
theorem dX2_pull_6 : decode cX2_pull 6 = .ok (.ifCond .eq 13, 3) := by decide +kernel
theorem dX2_pull_9 : decode cX2_pull 9 = .ok (.iload 4, 2) := by decide +kernel
theorem dX2_pull_11 : decode cX2_pull 11 = .ok (.bipush 32, 2) := by decide +kernel
theorem dX2_pull_13 : decode cX2_pull 13 = .ok (.invokestatic 82, 3) := by decide +kernel
theorem dX2_pull_16 : decode cX2_pull 16 = .ok (.ifCond .ne 13, 3) := by decide +kernel
theorem dX2_pull_19 : decode cX2_pull 19 = .ok (.new 55, 3) := by decide +kernel
theorem dX2_pull_22 : decode cX2_pull 22 = .ok (.dup, 1) := by decide +kernel
theorem dX2_pull_23 : decode cX2_pull 23 = .ok (.ldc 57, 2) := by decide +kernel
theorem dX2_pull_25 : decode cX2_pull 25 = .ok (.invokespecial 59, 3) := by decide +kernel
theorem dX2_pull_28 : decode cX2_pull 28 = .ok (.athrow, 1) := by decide +kernel
theorem dX2_pull_29 : decode cX2_pull 29 = .ok (.iload 4, 2) := by decide +kernel
theorem dX2_pull_31 : decode cX2_pull 31 = .ok (.iload_n 3, 1) := by decide +kernel
theorem dX2_pull_32 : decode cX2_pull 32 = .ok (.if_icmp .ge 13, 3) := by decide +kernel
theorem dX2_pull_35 : decode cX2_pull 35 = .ok (.new 86, 3) := by decide +kernel
theorem dX2_pull_38 : decode cX2_pull 38 = .ok (.dup, 1) := by decide +kernel
theorem dX2_pull_39 : decode cX2_pull 39 = .ok (.ldc 88, 2) := by decide +kernel
theorem dX2_pull_41 : decode cX2_pull 41 = .ok (.invokespecial 90, 3) := by decide +kernel
theorem dX2_pull_44 : decode cX2_pull 44 = .ok (.athrow, 1) := by decide +kernel
theorem dX2_pull_45 : decode cX2_pull 45 = .ok (.aload_n 0, 1) := by decide +kernel
theorem dX2_pull_46 : decode cX2_pull 46 = .ok (.invokevirtual 71, 3) := by decide +kernel
theorem dX2_pull_49 : decode cX2_pull 49 = .ok (.aload_n 0, 1) := by decide +kernel
theorem dX2_pull_50 : decode cX2_pull 50 = .ok (.getfield 12, 3) := by decide +kernel
theorem dX2_pull_53 : decode cX2_pull 53 = .ok (.iload_n 1, 1) := by decide +kernel
theorem dX2_pull_54 : decode cX2_pull 54 = .ok (.iload_n 2, 1) := by decide +kernel
theorem dX2_pull_55 : decode cX2_pull 55 = .ok (.iload_n 3, 1) := by decide +kernel
theorem dX2_pull_56 : decode cX2_pull 56 = .ok (.iload 4, 2) := by decide +kernel
theorem dX2_pull_58 : decode cX2_pull 58 = .ok (.invokevirtual 91, 3) := by decide +kernel
theorem dX2_pull_61 : decode cX2_pull 61 = .ok (.ireturn, 1) := by decide +kernel
set_option maxRecDepth 20000 in
theorem ggX2_copy_X2_isBelow : GoodIn wsX2_copy wsX2_isBelow := goodIn_r _ [9] rfl (by decide +kernel)
set_option maxRecDepth 20000 in
theorem gX2_copy_X2_isBelow : GoodIn wsX2_copy (va_wsS RX2 82 yX2_isBelow wsX2_isBelow) := goodIn_app (goodIn_r _ [6, 7, 8] rfl (by decide +kernel)) ggX2_copy_X2_isBelow
set_option maxRecDepth 20000 in
theorem ggX2_copy_X2_isWithin : GoodIn wsX2_copy wsX2_isWithin := goodIn_r _ [12] rfl (by decide +kernel)
set_option maxRecDepth 20000 in
theorem gX2_copy_X2_isWithin : GoodIn wsX2_copy (va_wsS RX2 97 yX2_isWithin wsX2_isWithin) := goodIn_app (goodIn_r _ [10, 11, 8] rfl (by decide +kernel)) ggX2_copy_X2_isWithin
set_option maxRecDepth 20000 in
theorem ggX2_copy_X2_saveState : GoodIn wsX2_copy wsX2_saveState := goodIn_r _ [16, 17, 18, 19, 5, 20, 21, 22, 23, 24, 25, 26, 27, 28, 29, 30, 31, 32, 33, 34, 35, 36, 37, 38, 39, 40, 41, 42, 43, 44, 45, 72, 73, 74, 75, 76, 77, 78, 79, 80, 81, 82, 83, 84, 85, 86, 87, 88, 89, 90, 91, 92, 93, 94, 95, 96, 97, 98] rfl (by decide +kernel)
set_option maxRecDepth 20000 in
theorem gX2_copy_X2_saveState : GoodIn wsX2_copy (wsV RX2 71 RX2 yX2_saveState wsX2_saveState) := goodIn_app (goodIn_r _ [13, 14, 15, 8] rfl (by decide +kernel)) ggX2_copy_X2_saveState
set_option maxRecDepth 20000 in
theorem ggX2_copy_X1_replaceTune : GoodIn wsX2_copy wsX1_replaceTune := goodIn_r _ [49, 25, 50, 51, 52, 23, 53, 54, 55, 56, 57, 58, 59, 60, 82, 83, 84, 85, 86, 87, 88, 89, 90, 91, 92, 93, 94, 95, 96, 97, 98] rfl (by decide +kernel)
set_option maxRecDepth 20000 in
theorem gX2_copy_X1_replaceTune : GoodIn wsX2_copy (wsV RX2 102 RX1 yX1_replaceTune wsX1_replaceTune) := goodIn_app (goodIn_r _ [46, 47, 48, 23] rfl (by decide +kernel)) ggX2_copy_X1_replaceTune
set_option maxRecDepth 20000 in
theorem ggX2_copy_X1_pinsOf : GoodIn wsX2_copy wsX1_pinsOf := goodIn_r _ [64, 50, 51, 52, 23, 53, 25, 65, 66, 67, 68, 69, 70, 71, 82, 83, 84, 85, 86, 87, 88, 89, 90, 91, 92, 93, 94, 95, 96, 97, 98] rfl (by decide +kernel)
set_option maxRecDepth 20000 in
theorem gX2_copy_X1_pinsOf : GoodIn wsX2_copy (wsV RX2 78 RX1 yX1_pinsOf wsX1_pinsOf) := goodIn_app (goodIn_r _ [61, 62, 63, 23] rfl (by decide +kernel)) ggX2_copy_X1_pinsOf
theorem dX2_copy_0 : decode cX2_copy 0 = .ok (.iload_n 1, 1) := by decide +kernel
theorem dX2_copy_1 : decode cX2_copy 1 = .ok (.iconst 3, 1) := by decide +kernel
theorem dX2_copy_2 : decode cX2_copy 2 = .ok (.invokestatic 82, 3) := by decide +kernel
theorem dX2_copy_5 : decode cX2_copy 5 = .ok (.ifCond .eq 11, 3) := by decide +kernel
theorem dX2_copy_8 : decode cX2_copy 8 = .ok (.iload_n 2, 1) := by decide +kernel
theorem dX2_copy_9 : decode cX2_copy 9 = .ok (.iconst 3, 1) := by decide +kernel
theorem dX2_copy_10 : decode cX2_copy 10 = .ok (.invokestatic 82, 3) := by decide +kernel
theorem dX2_copy_13 : decode cX2_copy 13 = .ok (.ifCond .ne 13, 3) := by decide +kernel
theorem dX2_copy_16 : decode cX2_copy 16 = .ok (.new 55, 3) := by decide +kernel
theorem dX2_copy_19 : decode cX2_copy 19 = .ok (.dup, 1) := by decide +kernel
theorem dX2_copy_20 : decode cX2_copy 20 = .ok (.ldc 95, 2) := by decide +kernel
theorem dX2_copy_22 : decode cX2_copy 22 = .ok (.invokespecial 59, 3) := by decide +kernel
theorem dX2_copy_25 : decode cX2_copy 25 = .ok (.athrow, 1) := by decide +kernel
theorem dX2_copy_26 : decode cX2_copy 26 = .ok (.iload_n 1, 1) := by decide +kernel
theorem dX2_copy_27 : decode cX2_copy 27 = .ok (.iload_n 2, 1) := by decide +kernel
theorem dX2_copy_28 : decode cX2_copy 28 = .ok (.if_icmp .eq 26, 3) := by decide +kernel
theorem dX2_copy_31 : decode cX2_copy 31 = .ok (.iload_n 3, 1) := by decide +kernel
theorem dX2_copy_32 : decode cX2_copy 32 = .ok (.bipush (-31), 2) := by decide +kernel
theorem dX2_copy_34 : decode cX2_copy 34 = .ok (.bipush 31, 2) := by decide +kernel
theorem dX2_copy_36 : decode cX2_copy 36 = .ok (.invokestatic 97, 3) := by decide +kernel
theorem dX2_copy_39 : decode cX2_copy 39 = .ok (.ifCond .eq 15, 3) := by decide +kernel
theorem dX2_copy_42 : decode cX2_copy 42 = .ok (.iload 4, 2) := by decide +kernel
theorem dX2_copy_44 : decode cX2_copy 44 = .ok (.bipush (-11), 2) := by decide +kernel
theorem dX2_copy_46 : decode cX2_copy 46 = .ok (.bipush 11, 2) := by decide +kernel
theorem dX2_copy_48 : decode cX2_copy 48 = .ok (.invokestatic 97, 3) := by decide +kernel
theorem dX2_copy_51 : decode cX2_copy 51 = .ok (.ifCond .ne 13, 3) := by decide +kernel
theorem dX2_copy_54 : decode cX2_copy 54 = .ok (.new 86, 3) := by decide +kernel
theorem dX2_copy_57 : decode cX2_copy 57 = .ok (.dup, 1) := by decide +kernel
theorem dX2_copy_58 : decode cX2_copy 58 = .ok (.ldc 100, 2) := by decide +kernel
theorem dX2_copy_60 : decode cX2_copy 60 = .ok (.invokespecial 90, 3) := by decide +kernel
theorem dX2_copy_63 : decode cX2_copy 63 = .ok (.athrow, 1) := by decide +kernel
theorem dX2_copy_64 : decode cX2_copy 64 = .ok (.aload_n 0, 1) := by decide +kernel
theorem dX2_copy_65 : decode cX2_copy 65 = .ok (.invokevirtual 71, 3) := by decide +kernel
theorem dX2_copy_68 : decode cX2_copy 68 = .ok (.aload_n 0, 1) := by decide +kernel
theorem dX2_copy_69 : decode cX2_copy 69 = .ok (.getfield 12, 3) := by decide +kernel
theorem dX2_copy_72 : decode cX2_copy 72 = .ok (.iload_n 1, 1) := by decide +kernel
theorem dX2_copy_73 : decode cX2_copy 73 = .ok (.iload_n 2, 1) := by decide +kernel
theorem dX2_copy_74 : decode cX2_copy 74 = .ok (.iload_n 3, 1) := by decide +kernel
theorem dX2_copy_75 : decode cX2_copy 75 = .ok (.iload 4, 2) := by decide +kernel
theorem dX2_copy_77 : decode cX2_copy 77 = .ok (.invokevirtual 102, 3) := by decide +kernel
theorem dX2_copy_80 : decode cX2_copy 80 = .ok (.aload_n 0, 1) := by decide +kernel
theorem dX2_copy_81 : decode cX2_copy 81 = .ok (.getfield 12, 3) := by decide +kernel
theorem dX2_copy_84 : decode cX2_copy 84 = .ok (.iload_n 2, 1) := by decide +kernel
theorem dX2_copy_85 : decode cX2_copy 85 = .ok (.invokevirtual 78, 3) := by decide +kernel
theorem dX2_copy_88 : decode cX2_copy 88 = .ok (.ireturn, 1) := by decide +kernel
set_option maxRecDepth 20000 in
theorem ggX2_wind_X2_isWithin : GoodIn wsX2_wind wsX2_isWithin := goodIn_r _ [11] rfl (by decide +kernel)
set_option maxRecDepth 20000 in
theorem gX2_wind_X2_isWithin : GoodIn wsX2_wind (va_wsS RX2 97 yX2_isWithin wsX2_isWithin) := goodIn_app (goodIn_r _ [8, 9, 10] rfl (by decide +kernel)) ggX2_wind_X2_isWithin
set_option maxRecDepth 20000 in
theorem ggX2_wind_X2_saveState : GoodIn wsX2_wind wsX2_saveState := goodIn_r _ [15, 16, 17, 18, 3, 19, 20, 21, 22, 23, 24, 25, 26, 27, 28, 29, 30, 31, 32, 33, 34, 35, 36, 37, 38, 39, 40, 41, 42, 43, 44, 45, 46, 47, 48, 49, 50, 51, 52, 53, 54, 55, 56, 57, 58, 59, 60, 61, 62, 63, 64, 65, 66, 67, 68, 69, 70, 71] rfl (by decide +kernel)
set_option maxRecDepth 20000 in
theorem gX2_wind_X2_saveState : GoodIn wsX2_wind (wsV RX2 71 RX2 yX2_saveState wsX2_saveState) := goodIn_app (goodIn_r _ [12, 13, 14, 10] rfl (by decide +kernel)) ggX2_wind_X2_saveState
theorem dX2_wind_0 : decode cX2_wind 0 = .ok (.iload_n 1, 1) := by decide +kernel
theorem dX2_wind_1 : decode cX2_wind 1 = .ok (.iconst 1, 1) := by decide +kernel
theorem dX2_wind_2 : decode cX2_wind 2 = .ok (.sipush 400, 3) := by decide +kernel
theorem dX2_wind_5 : decode cX2_wind 5 = .ok (.invokestatic 97, 3) := by decide +kernel
theorem dX2_wind_8 : decode cX2_wind 8 = .ok (.ifCond .ne 13, 3) := by decide +kernel
theorem dX2_wind_11 : decode cX2_wind 11 = .ok (.new 86, 3) := by decide +kernel
theorem dX2_wind_14 : decode cX2_wind 14 = .ok (.dup, 1) := by decide +kernel
theorem dX2_wind_15 : decode cX2_wind 15 = .ok (.ldc 106, 2) := by decide +kernel
theorem dX2_wind_17 : decode cX2_wind 17 = .ok (.invokespecial 90, 3) := by decide +kernel
theorem dX2_wind_20 : decode cX2_wind 20 = .ok (.athrow, 1) := by decide +kernel
theorem dX2_wind_21 : decode cX2_wind 21 = .ok (.aload_n 0, 1) := by decide +kernel
theorem dX2_wind_22 : decode cX2_wind 22 = .ok (.invokevirtual 71, 3) := by decide +kernel
theorem dX2_wind_25 : decode cX2_wind 25 = .ok (.aload_n 0, 1) := by decide +kernel
theorem dX2_wind_26 : decode cX2_wind 26 = .ok (.getfield 12, 3) := by decide +kernel
theorem dX2_wind_29 : decode cX2_wind 29 = .ok (.sipush 400, 3) := by decide +kernel
theorem dX2_wind_32 : decode cX2_wind 32 = .ok (.aload_n 0, 1) := by decide +kernel
theorem dX2_wind_33 : decode cX2_wind 33 = .ok (.getfield 12, 3) := by decide +kernel
theorem dX2_wind_36 : decode cX2_wind 36 = .ok (.getfield 108, 3) := by decide +kernel
theorem dX2_wind_39 : decode cX2_wind 39 = .ok (.iload_n 1, 1) := by decide +kernel
theorem dX2_wind_40 : decode cX2_wind 40 = .ok (.iadd, 1) := by decide +kernel
theorem dX2_wind_41 : decode cX2_wind 41 = .ok (.invokestatic 111, 3) := by decide +kernel
theorem dX2_wind_44 : decode cX2_wind 44 = .ok (.putfield 108, 3) := by decide +kernel
theorem dX2_wind_47 : decode cX2_wind 47 = .ok (.aload_n 0, 1) := by decide +kernel
theorem dX2_wind_48 : decode cX2_wind 48 = .ok (.getfield 12, 3) := by decide +kernel
theorem dX2_wind_51 : decode cX2_wind 51 = .ok (.getfield 108, 3) := by decide +kernel
theorem dX2_wind_54 : decode cX2_wind 54 = .ok (.ireturn, 1) := by decide +kernel
set_option maxRecDepth 20000 in
theorem ggX2_vanes_X2_isWithin : GoodIn wsX2_vanes wsX2_isWithin := goodIn_r _ [7] rfl (by decide +kernel)
set_option maxRecDepth 20000 in
theorem gX2_vanes_X2_isWithin : GoodIn wsX2_vanes (va_wsS RX2 97 yX2_isWithin wsX2_isWithin) := goodIn_app (goodIn_r _ [4, 5, 6] rfl (by decide +kernel)) ggX2_vanes_X2_isWithin
set_option maxRecDepth 20000 in
theorem ggX2_vanes_X2_saveState : GoodIn wsX2_vanes wsX2_saveState := goodIn_r _ [11, 12, 13, 14, 3, 15, 16, 17, 18, 19, 20, 21, 22, 23, 24, 25, 26, 27, 28, 29, 30, 31, 32, 33, 34, 35, 36, 37, 38, 39, 40, 41, 42, 43, 44, 45, 46, 47, 48, 49, 50, 51, 52, 53, 54, 55, 56, 57, 58, 59, 60, 61, 62, 63, 64, 65, 66, 67] rfl (by decide +kernel)
set_option maxRecDepth 20000 in
theorem gX2_vanes_X2_saveState : GoodIn wsX2_vanes (wsV RX2 71 RX2 yX2_saveState wsX2_saveState) := goodIn_app (goodIn_r _ [8, 9, 10, 6] rfl (by decide +kernel)) ggX2_vanes_X2_saveState
theorem dX2_vanes_0 : decode cX2_vanes 0 = .ok (.iload_n 1, 1) := by decide +kernel
theorem dX2_vanes_1 : decode cX2_vanes 1 = .ok (.iconst 1, 1) := by decide +kernel
theorem dX2_vanes_2 : decode cX2_vanes 2 = .ok (.bipush 9, 2) := by decide +kernel
theorem dX2_vanes_4 : decode cX2_vanes 4 = .ok (.invokestatic 97, 3) := by decide +kernel
theorem dX2_vanes_7 : decode cX2_vanes 7 = .ok (.ifCond .ne 13, 3) := by decide +kernel
theorem dX2_vanes_10 : decode cX2_vanes 10 = .ok (.new 86, 3) := by decide +kernel
theorem dX2_vanes_13 : decode cX2_vanes 13 = .ok (.dup, 1) := by decide +kernel
theorem dX2_vanes_14 : decode cX2_vanes 14 = .ok (.ldc 117, 2) := by decide +kernel
theorem dX2_vanes_16 : decode cX2_vanes 16 = .ok (.invokespecial 90, 3) := by decide +kernel
theorem dX2_vanes_19 : decode cX2_vanes 19 = .ok (.athrow, 1) := by decide +kernel
theorem dX2_vanes_20 : decode cX2_vanes 20 = .ok (.aload_n 0, 1) := by decide +kernel
theorem dX2_vanes_21 : decode cX2_vanes 21 = .ok (.invokevirtual 71, 3) := by decide +kernel
theorem dX2_vanes_24 : decode cX2_vanes 24 = .ok (.aload_n 0, 1) := by decide +kernel
theorem dX2_vanes_25 : decode cX2_vanes 25 = .ok (.getfield 12, 3) := by decide +kernel
theorem dX2_vanes_28 : decode cX2_vanes 28 = .ok (.getfield 119, 3) := by decide +kernel
theorem dX2_vanes_31 : decode cX2_vanes 31 = .ok (.istore_n 2, 1) := by decide +kernel
theorem dX2_vanes_32 : decode cX2_vanes 32 = .ok (.aload_n 0, 1) := by decide +kernel
theorem dX2_vanes_33 : decode cX2_vanes 33 = .ok (.getfield 12, 3) := by decide +kernel
theorem dX2_vanes_36 : decode cX2_vanes 36 = .ok (.iload_n 1, 1) := by decide +kernel
theorem dX2_vanes_37 : decode cX2_vanes 37 = .ok (.putfield 119, 3) := by decide +kernel
theorem dX2_vanes_40 : decode cX2_vanes 40 = .ok (.iload_n 2, 1) := by decide +kernel
theorem dX2_vanes_41 : decode cX2_vanes 41 = .ok (.ireturn, 1) := by decide +kernel
set_option maxRecDepth 20000 in
theorem ggX2_shift_X2_isBelow : GoodIn wsX2_shift wsX2_isBelow := goodIn_r _ [7] rfl (by decide +kernel)
set_option maxRecDepth 20000 in
theorem gX2_shift_X2_isBelow : GoodIn wsX2_shift (va_wsS RX2 82 yX2_isBelow wsX2_isBelow) := goodIn_app (goodIn_r _ [4, 5, 6] rfl (by decide +kernel)) ggX2_shift_X2_isBelow
set_option maxRecDepth 20000 in
theorem ggX2_shift_X2_saveState : GoodIn wsX2_shift wsX2_saveState := goodIn_r _ [11, 12, 13, 14, 3, 15, 16, 17, 18, 19, 20, 21, 22, 23, 24, 25, 26, 27, 28, 29, 30, 31, 32, 33, 34, 35, 36, 37, 38, 39, 40, 41, 42, 43, 44, 45, 46, 47, 48, 49, 50, 51, 52, 53, 54, 55, 56, 57, 58, 59, 60, 61, 62, 63, 64, 65, 66, 67] rfl (by decide +kernel)
set_option maxRecDepth 20000 in
theorem gX2_shift_X2_saveState : GoodIn wsX2_shift (wsV RX2 71 RX2 yX2_saveState wsX2_saveState) := goodIn_app (goodIn_r _ [8, 9, 10, 6] rfl (by decide +kernel)) ggX2_shift_X2_saveState
theorem dX2_shift_0 : decode cX2_shift 0 = .ok (.iload_n 1, 1) := by decide +kernel
theorem dX2_shift_1 : decode cX2_shift 1 = .ok (.iconst 3, 1) := by decide +kernel
theorem dX2_shift_2 : decode cX2_shift 2 = .ok (.invokestatic 82, 3) := by decide +kernel
theorem dX2_shift_5 : decode cX2_shift 5 = .ok (.ifCond .ne 13, 3) := by decide +kernel
theorem dX2_shift_8 : decode cX2_shift 8 = .ok (.new 55, 3) := by decide +kernel
theorem dX2_shift_11 : decode cX2_shift 11 = .ok (.dup, 1) := by decide +kernel
theorem dX2_shift_12 : decode cX2_shift 12 = .ok (.ldc 95, 2) := by decide +kernel
theorem dX2_shift_14 : decode cX2_shift 14 = .ok (.invokespecial 59, 3) := by decide +kernel
theorem dX2_shift_17 : decode cX2_shift 17 = .ok (.athrow, 1) := by decide +kernel
theorem dX2_shift_18 : decode cX2_shift 18 = .ok (.aload_n 0, 1) := by decide +kernel
theorem dX2_shift_19 : decode cX2_shift 19 = .ok (.invokevirtual 71, 3) := by decide +kernel
theorem dX2_shift_22 : decode cX2_shift 22 = .ok (.aload_n 0, 1) := by decide +kernel
theorem dX2_shift_23 : decode cX2_shift 23 = .ok (.getfield 12, 3) := by decide +kernel
theorem dX2_shift_26 : decode cX2_shift 26 = .ok (.getfield 122, 3) := by decide +kernel
theorem dX2_shift_29 : decode cX2_shift 29 = .ok (.istore_n 2, 1) := by decide +kernel
theorem dX2_shift_30 : decode cX2_shift 30 = .ok (.aload_n 0, 1) := by decide +kernel
theorem dX2_shift_31 : decode cX2_shift 31 = .ok (.getfield 12, 3) := by decide +kernel
theorem dX2_shift_34 : decode cX2_shift 34 = .ok (.iload_n 1, 1) := by decide +kernel
theorem dX2_shift_35 : decode cX2_shift 35 = .ok (.putfield 122, 3) := by decide +kernel
theorem dX2_shift_38 : decode cX2_shift 38 = .ok (.iload_n 2, 1) := by decide +kernel
theorem dX2_shift_39 : decode cX2_shift 39 = .ok (.ireturn, 1) := by decide +kernel
set_option maxRecDepth 20000 in
theorem ggX2_play_X2_isWithin : GoodIn wsX2_play wsX2_isWithin := goodIn_r _ [7] rfl (by decide +kernel)
set_option maxRecDepth 20000 in
theorem gX2_play_X2_isWithin : GoodIn wsX2_play (va_wsS RX2 97 yX2_isWithin wsX2_isWithin) := goodIn_app (goodIn_r _ [4, 5, 6] rfl (by decide +kernel)) ggX2_play_X2_isWithin
set_option maxRecDepth 20000 in
theorem ggX2_play_X2_saveState : GoodIn wsX2_play wsX2_saveState := goodIn_r _ [11, 12, 13, 14, 3, 15, 16, 17, 18, 19, 20, 21, 22, 23, 24, 25, 26, 27, 28, 29, 30, 31, 32, 33, 34, 35, 36, 37, 38, 39, 40, 99, 100, 101, 102, 103, 104, 105, 106, 107, 108, 109, 110, 111, 112, 113, 114, 115, 116, 117, 118, 119, 120, 121, 122, 123, 124, 125] rfl (by decide +kernel)
set_option maxRecDepth 20000 in
theorem gX2_play_X2_saveState : GoodIn wsX2_play (wsV RX2 71 RX2 yX2_saveState wsX2_saveState) := goodIn_app (goodIn_r _ [8, 9, 10, 6] rfl (by decide +kernel)) ggX2_play_X2_saveState
set_option maxRecDepth 20000 in
theorem ggX2_play_X1_goOnFor : GoodIn wsX2_play wsX1_goOnFor := goodIn_r _ [44, 45, 46, 47, 18, 48, 32, 33, 31, 34, 40, 35, 49, 50, 51, 52, 36, 37, 53, 54, 55, 56, 57, 58, 59, 60, 61, 62, 63, 30, 64, 65, 66, 67, 20, 68, 69, 70, 71, 72, 73, 74, 75, 76, 77, 78, 79, 80, 81, 82, 26, 83, 84, 85, 86, 25, 87, 88, 89, 90, 39, 91, 92, 93, 94, 95, 96, 97, 98, 27, 38, 28, 29, 109, 110, 111, 112, 113, 114, 115, 116, 117, 118, 119, 120, 121, 122, 123, 124, 125] rfl (by decide +kernel)
set_option maxRecDepth 20000 in
theorem gX2_play_X1_goOnFor : GoodIn wsX2_play (wsV RX2 127 RX1 yX1_goOnFor wsX1_goOnFor) := goodIn_app (goodIn_r _ [41, 42, 43, 18] rfl (by decide +kernel)) ggX2_play_X1_goOnFor
theorem dX2_play_0 : decode cX2_play 0 = .ok (.iload_n 1, 1) := by decide +kernel
theorem dX2_play_1 : decode cX2_play 1 = .ok (.iconst 1, 1) := by decide +kernel
theorem dX2_play_2 : decode cX2_play 2 = .ok (.sipush 128, 3) := by decide +kernel
theorem dX2_play_5 : decode cX2_play 5 = .ok (.invokestatic 97, 3) := by decide +kernel
theorem dX2_play_8 : decode cX2_play 8 = .ok (.ifCond .ne 13, 3) := by decide +kernel
theorem dX2_play_11 : decode cX2_play 11 = .ok (.new 86, 3) := by decide +kernel
theorem dX2_play_14 : decode cX2_play 14 = .ok (.dup, 1) := by decide +kernel
theorem dX2_play_15 : decode cX2_play 15 = .ok (.ldc 125, 2) := by decide +kernel
theorem dX2_play_17 : decode cX2_play 17 = .ok (.invokespecial 90, 3) := by decide +kernel
theorem dX2_play_20 : decode cX2_play 20 = .ok (.athrow, 1) := by decide +kernel
theorem dX2_play_21 : decode cX2_play 21 = .ok (.aload_n 0, 1) := by decide +kernel
theorem dX2_play_22 : decode cX2_play 22 = .ok (.invokevirtual 71, 3) := by decide +kernel
theorem dX2_play_25 : decode cX2_play 25 = .ok (.aload_n 0, 1) := by decide +kernel
theorem dX2_play_26 : decode cX2_play 26 = .ok (.getfield 12, 3) := by decide +kernel
theorem dX2_play_29 : decode cX2_play 29 = .ok (.iload_n 1, 1) := by decide +kernel
theorem dX2_play_30 : decode cX2_play 30 = .ok (.invokevirtual 127, 3) := by decide +kernel
theorem dX2_play_33 : decode cX2_play 33 = .ok (.ireturn, 1) := by decide +kernel
set_option maxRecDepth 20000 in
theorem ggX2_mend_X2_isBelow : GoodIn wsX2_mend wsX2_isBelow := goodIn_r _ [7] rfl (by decide +kernel)
set_option maxRecDepth 20000 in
theorem gX2_mend_X2_isBelow : GoodIn wsX2_mend (va_wsS RX2 82 yX2_isBelow wsX2_isBelow) := goodIn_app (goodIn_r _ [4, 5, 6] rfl (by decide +kernel)) ggX2_mend_X2_isBelow
set_option maxRecDepth 20000 in
theorem ggX2_mend_X2_saveState : GoodIn wsX2_mend wsX2_saveState := goodIn_r _ [11, 12, 13, 14, 3, 15, 16, 17, 18, 19, 20, 21, 22, 23, 24, 25, 26, 27, 28, 29, 30, 31, 32, 33, 34, 35, 36, 37, 38, 39, 40, 45, 46, 47, 48, 49, 50, 51, 52, 53, 54, 55, 56, 57, 58, 59, 60, 61, 62, 63, 64, 65, 66, 67, 68, 69, 70, 71] rfl (by decide +kernel)
set_option maxRecDepth 20000 in
theorem gX2_mend_X2_saveState : GoodIn wsX2_mend (wsV RX2 71 RX2 yX2_saveState wsX2_saveState) := goodIn_app (goodIn_r _ [8, 9, 10, 6] rfl (by decide +kernel)) ggX2_mend_X2_saveState
set_option maxRecDepth 20000 in
theorem ggX2_mend_X1_mendTooth : GoodIn wsX2_mend wsX1_mendTooth := goodIn_r _ [44, 26, 31, 25, 36, 55, 56, 57, 58, 59, 60, 61, 62, 63, 64, 65, 66, 67, 68, 69, 70, 71] rfl (by decide +kernel)
set_option maxRecDepth 20000 in
theorem gX2_mend_X1_mendTooth : GoodIn wsX2_mend (wsV RX2 132 RX1 yX1_mendTooth wsX1_mendTooth) := goodIn_app (goodIn_r _ [41, 42, 43, 18] rfl (by decide +kernel)) ggX2_mend_X1_mendTooth
theorem dX2_mend_0 : decode cX2_mend 0 = .ok (.iload_n 1, 1) := by decide +kernel
theorem dX2_mend_1 : decode cX2_mend 1 = .ok (.bipush 12, 2) := by decide +kernel
theorem dX2_mend_3 : decode cX2_mend 3 = .ok (.invokestatic 82, 3) := by decide +kernel
theorem dX2_mend_6 : decode cX2_mend 6 = .ok (.ifCond .ne 13, 3) := by decide +kernel
theorem dX2_mend_9 : decode cX2_mend 9 = .ok (.new 55, 3) := by decide +kernel
theorem dX2_mend_12 : decode cX2_mend 12 = .ok (.dup, 1) := by decide +kernel
theorem dX2_mend_13 : decode cX2_mend 13 = .ok (.ldc 130, 2) := by decide +kernel
theorem dX2_mend_15 : decode cX2_mend 15 = .ok (.invokespecial 59, 3) := by decide +kernel
theorem dX2_mend_18 : decode cX2_mend 18 = .ok (.athrow, 1) := by decide +kernel
theorem dX2_mend_19 : decode cX2_mend 19 = .ok (.aload_n 0, 1) := by decide +kernel
theorem dX2_mend_20 : decode cX2_mend 20 = .ok (.invokevirtual 71, 3) := by decide +kernel
theorem dX2_mend_23 : decode cX2_mend 23 = .ok (.aload_n 0, 1) := by decide +kernel
theorem dX2_mend_24 : decode cX2_mend 24 = .ok (.getfield 12, 3) := by decide +kernel
theorem dX2_mend_27 : decode cX2_mend 27 = .ok (.iload_n 1, 1) := by decide +kernel
theorem dX2_mend_28 : decode cX2_mend 28 = .ok (.invokevirtual 132, 3) := by decide +kernel
theorem dX2_mend_31 : decode cX2_mend 31 = .ok (.ireturn, 1) := by decide +kernel
set_option maxRecDepth 20000 in
theorem ggX2_set_X2_isBelow : GoodIn wsX2_set wsX2_isBelow := goodIn_r _ [11] rfl (by decide +kernel)
set_option maxRecDepth 20000 in
theorem gX2_set_X2_isBelow : GoodIn wsX2_set (va_wsS RX2 82 yX2_isBelow wsX2_isBelow) := goodIn_app (goodIn_r _ [8, 9, 10] rfl (by decide +kernel)) ggX2_set_X2_isBelow
set_option maxRecDepth 20000 in
theorem ggX2_set_X2_isWithin : GoodIn wsX2_set wsX2_isWithin := goodIn_r _ [14] rfl (by decide +kernel)
set_option maxRecDepth 20000 in
theorem gX2_set_X2_isWithin : GoodIn wsX2_set (va_wsS RX2 97 yX2_isWithin wsX2_isWithin) := goodIn_app (goodIn_r _ [12, 13, 10] rfl (by decide +kernel)) ggX2_set_X2_isWithin
set_option maxRecDepth 20000 in
theorem ggX2_set_X2_saveState : GoodIn wsX2_set wsX2_saveState := goodIn_r _ [18, 19, 20, 21, 7, 22, 23, 24, 25, 26, 27, 28, 29, 30, 31, 32, 33, 34, 35, 36, 37, 38, 39, 40, 41, 42, 43, 44, 45, 46, 47, 48, 49, 50, 51, 52, 53, 54, 55, 56, 57, 58, 59, 60, 61, 62, 63, 64, 65, 66, 67, 68, 69, 70, 71, 72, 73, 74] rfl (by decide +kernel)
set_option maxRecDepth 20000 in
theorem gX2_set_X2_saveState : GoodIn wsX2_set (wsV RX2 71 RX2 yX2_saveState wsX2_saveState) := goodIn_app (goodIn_r _ [15, 16, 17, 10] rfl (by decide +kernel)) ggX2_set_X2_saveState
theorem dX2_set_0 : decode cX2_set 0 = .ok (.iload_n 1, 1) := by decide +kernel
theorem dX2_set_1 : decode cX2_set 1 = .ok (.iconst 5, 1) := by decide +kernel
theorem dX2_set_2 : decode cX2_set 2 = .ok (.invokestatic 82, 3) := by decide +kernel
theorem dX2_set_5 : decode cX2_set 5 = .ok (.ifCond .ne 13, 3) := by decide +kernel
theorem dX2_set_8 : decode cX2_set 8 = .ok (.new 55, 3) := by decide +kernel
theorem dX2_set_11 : decode cX2_set 11 = .ok (.dup, 1) := by decide +kernel
theorem dX2_set_12 : decode cX2_set 12 = .ok (.ldc 135, 2) := by decide +kernel
theorem dX2_set_14 : decode cX2_set 14 = .ok (.invokespecial 59, 3) := by decide +kernel
theorem dX2_set_17 : decode cX2_set 17 = .ok (.athrow, 1) := by decide +kernel
theorem dX2_set_18 : decode cX2_set 18 = .ok (.iload_n 2, 1) := by decide +kernel
theorem dX2_set_19 : decode cX2_set 19 = .ok (.getstatic 137, 3) := by decide +kernel
theorem dX2_set_22 : decode cX2_set 22 = .ok (.iload_n 1, 1) := by decide +kernel
theorem dX2_set_23 : decode cX2_set 23 = .ok (.iaload, 1) := by decide +kernel
theorem dX2_set_24 : decode cX2_set 24 = .ok (.getstatic 141, 3) := by decide +kernel
theorem dX2_set_27 : decode cX2_set 27 = .ok (.iload_n 1, 1) := by decide +kernel
theorem dX2_set_28 : decode cX2_set 28 = .ok (.iaload, 1) := by decide +kernel
theorem dX2_set_29 : decode cX2_set 29 = .ok (.invokestatic 97, 3) := by decide +kernel
theorem dX2_set_32 : decode cX2_set 32 = .ok (.ifCond .ne 13, 3) := by decide +kernel
theorem dX2_set_35 : decode cX2_set 35 = .ok (.new 86, 3) := by decide +kernel
theorem dX2_set_38 : decode cX2_set 38 = .ok (.dup, 1) := by decide +kernel
theorem dX2_set_39 : decode cX2_set 39 = .ok (.ldc 144, 2) := by decide +kernel
theorem dX2_set_41 : decode cX2_set 41 = .ok (.invokespecial 90, 3) := by decide +kernel
theorem dX2_set_44 : decode cX2_set 44 = .ok (.athrow, 1) := by decide +kernel
theorem dX2_set_45 : decode cX2_set 45 = .ok (.aload_n 0, 1) := by decide +kernel
theorem dX2_set_46 : decode cX2_set 46 = .ok (.invokevirtual 71, 3) := by decide +kernel
theorem dX2_set_49 : decode cX2_set 49 = .ok (.aload_n 0, 1) := by decide +kernel
theorem dX2_set_50 : decode cX2_set 50 = .ok (.getfield 12, 3) := by decide +kernel
theorem dX2_set_53 : decode cX2_set 53 = .ok (.getfield 146, 3) := by decide +kernel
theorem dX2_set_56 : decode cX2_set 56 = .ok (.iload_n 1, 1) := by decide +kernel
theorem dX2_set_57 : decode cX2_set 57 = .ok (.iaload, 1) := by decide +kernel
theorem dX2_set_58 : decode cX2_set 58 = .ok (.istore_n 3, 1) := by decide +kernel
theorem dX2_set_59 : decode cX2_set 59 = .ok (.aload_n 0, 1) := by decide +kernel
theorem dX2_set_60 : decode cX2_set 60 = .ok (.getfield 12, 3) := by decide +kernel
theorem dX2_set_63 : decode cX2_set 63 = .ok (.getfield 146, 3) := by decide +kernel
theorem dX2_set_66 : decode cX2_set 66 = .ok (.iload_n 1, 1) := by decide +kernel
theorem dX2_set_67 : decode cX2_set 67 = .ok (.iload_n 2, 1) := by decide +kernel
theorem dX2_set_68 : decode cX2_set 68 = .ok (.iastore, 1) := by decide +kernel
theorem dX2_set_69 : decode cX2_set 69 = .ok (.iload_n 3, 1) := by decide +kernel
theorem dX2_set_70 : decode cX2_set 70 = .ok (.ireturn, 1) := by decide +kernel
set_option maxRecDepth 20000 in
theorem ggX2_undo_X1_become : GoodIn wsX2_undo wsX1_become := goodIn_r _ [11, 12, 13, 14, 15, 16, 17, 18, 19, 20, 21, 22, 23, 24, 25, 26, 27, 28, 29, 30, 31, 32, 43, 44, 45, 46, 47, 48, 49, 50, 51, 52, 53, 54, 55, 56, 57, 58, 59] rfl (by decide +kernel)
set_option maxRecDepth 20000 in
theorem gX2_undo_X1_become : GoodIn wsX2_undo (wsV RX2 168 RX1 yX1_become wsX1_become) := goodIn_app (goodIn_r _ [7, 8, 9, 10] rfl (by decide +kernel)) ggX2_undo_X1_become
theorem dX2_undo_0 : decode cX2_undo 0 = .ok (.aload_n 0, 1) := by decide +kernel
theorem dX2_undo_1 : decode cX2_undo 1 = .ok (.getfield 34, 3) := by decide +kernel
theorem dX2_undo_4 : decode cX2_undo 4 = .ok (.ifCond .ne 13, 3) := by decide +kernel
theorem dX2_undo_7 : decode cX2_undo 7 = .ok (.new 66, 3) := by decide +kernel
theorem dX2_undo_10 : decode cX2_undo 10 = .ok (.dup, 1) := by decide +kernel
theorem dX2_undo_11 : decode cX2_undo 11 = .ok (.ldc 166, 2) := by decide +kernel
theorem dX2_undo_13 : decode cX2_undo 13 = .ok (.invokespecial 70, 3) := by decide +kernel
theorem dX2_undo_16 : decode cX2_undo 16 = .ok (.athrow, 1) := by decide +kernel
theorem dX2_undo_17 : decode cX2_undo 17 = .ok (.aload_n 0, 1) := by decide +kernel
theorem dX2_undo_18 : decode cX2_undo 18 = .ok (.dup, 1) := by decide +kernel
theorem dX2_undo_19 : decode cX2_undo 19 = .ok (.getfield 34, 3) := by decide +kernel
theorem dX2_undo_22 : decode cX2_undo 22 = .ok (.iconst 1, 1) := by decide +kernel
theorem dX2_undo_23 : decode cX2_undo 23 = .ok (.isub, 1) := by decide +kernel
theorem dX2_undo_24 : decode cX2_undo 24 = .ok (.putfield 34, 3) := by decide +kernel
theorem dX2_undo_27 : decode cX2_undo 27 = .ok (.aload_n 0, 1) := by decide +kernel
theorem dX2_undo_28 : decode cX2_undo 28 = .ok (.getfield 12, 3) := by decide +kernel
theorem dX2_undo_31 : decode cX2_undo 31 = .ok (.aload_n 0, 1) := by decide +kernel
theorem dX2_undo_32 : decode cX2_undo 32 = .ok (.getfield 26, 3) := by decide +kernel
theorem dX2_undo_35 : decode cX2_undo 35 = .ok (.aload_n 0, 1) := by decide +kernel
theorem dX2_undo_36 : decode cX2_undo 36 = .ok (.getfield 30, 3) := by decide +kernel
theorem dX2_undo_39 : decode cX2_undo 39 = .ok (.aload_n 0, 1) := by decide +kernel
theorem dX2_undo_40 : decode cX2_undo 40 = .ok (.getfield 34, 3) := by decide +kernel
theorem dX2_undo_43 : decode cX2_undo 43 = .ok (.iadd, 1) := by decide +kernel
theorem dX2_undo_44 : decode cX2_undo 44 = .ok (.bipush 6, 2) := by decide +kernel
theorem dX2_undo_46 : decode cX2_undo 46 = .ok (.irem, 1) := by decide +kernel
theorem dX2_undo_47 : decode cX2_undo 47 = .ok (.aaload, 1) := by decide +kernel
theorem dX2_undo_48 : decode cX2_undo 48 = .ok (.invokevirtual 168, 3) := by decide +kernel
theorem dX2_undo_51 : decode cX2_undo 51 = .ok (.aload_n 0, 1) := by decide +kernel
theorem dX2_undo_52 : decode cX2_undo 52 = .ok (.getfield 34, 3) := by decide +kernel
theorem dX2_undo_55 : decode cX2_undo 55 = .ok (.ireturn, 1) := by decide +kernel
set_option maxRecDepth 20000 in
theorem ggX2_whyNot_X2_isPlace : GoodIn wsX2_whyNot wsX2_isPlace := goodIn_r _ [7, 8, 9, 6, 10] rfl (by decide +kernel)
set_option maxRecDepth 20000 in
theorem gX2_whyNot_X2_isPlace : GoodIn wsX2_whyNot (va_wsS RX2 51 yX2_isPlace wsX2_isPlace) := goodIn_app (goodIn_r _ [4, 5, 6] rfl (by decide +kernel)) ggX2_whyNot_X2_isPlace
set_option maxRecDepth 20000 in
theorem ggX2_whyNot_X1_hindrance : GoodIn wsX2_whyNot wsX1_hindrance := goodIn_r _ [15, 16, 17, 18, 19, 14, 20, 21, 22, 23, 24, 25, 26, 27, 28, 29, 30, 31, 32, 33, 34, 35, 36, 37, 38, 39, 50, 51, 52, 53, 54, 55, 56, 57, 58, 59, 60, 61, 62, 63, 64, 65, 66] rfl (by decide +kernel)
set_option maxRecDepth 20000 in
theorem gX2_whyNot_X1_hindrance : GoodIn wsX2_whyNot (wsV RX2 62 RX1 yX1_hindrance wsX1_hindrance) := goodIn_app (goodIn_r _ [11, 12, 13, 14] rfl (by decide +kernel)) ggX2_whyNot_X1_hindrance
theorem dX2_whyNot_0 : decode cX2_whyNot 0 = .ok (.iload_n 1, 1) := by decide +kernel
theorem dX2_whyNot_1 : decode cX2_whyNot 1 = .ok (.iload_n 2, 1) := by decide +kernel
theorem dX2_whyNot_2 : decode cX2_whyNot 2 = .ok (.iload_n 3, 1) := by decide +kernel
theorem dX2_whyNot_3 : decode cX2_whyNot 3 = .ok (.invokestatic 51, 3) := by decide +kernel
theorem dX2_whyNot_6 : decode cX2_whyNot 6 = .ok (.ifCond .ne 13, 3) := by decide +kernel
theorem dX2_whyNot_9 : decode cX2_whyNot 9 = .ok (.new 55, 3) := by decide +kernel
theorem dX2_whyNot_12 : decode cX2_whyNot 12 = .ok (.dup, 1) := by decide +kernel
theorem dX2_whyNot_13 : decode cX2_whyNot 13 = .ok (.ldc 57, 2) := by decide +kernel
theorem dX2_whyNot_15 : decode cX2_whyNot 15 = .ok (.invokespecial 59, 3) := by decide +kernel
theorem dX2_whyNot_18 : decode cX2_whyNot 18 = .ok (.athrow, 1) := by decide +kernel
theorem dX2_whyNot_19 : decode cX2_whyNot 19 = .ok (.aload_n 0, 1) := by decide +kernel
theorem dX2_whyNot_20 : decode cX2_whyNot 20 = .ok (.getfield 12, 3) := by decide +kernel
theorem dX2_whyNot_23 : decode cX2_whyNot 23 = .ok (.iload_n 1, 1) := by decide +kernel
theorem dX2_whyNot_24 : decode cX2_whyNot 24 = .ok (.iload_n 2, 1) := by decide +kernel
theorem dX2_whyNot_25 : decode cX2_whyNot 25 = .ok (.iload_n 3, 1) := by decide +kernel
theorem dX2_whyNot_26 : decode cX2_whyNot 26 = .ok (.invokevirtual 62, 3) := by decide +kernel
theorem dX2_whyNot_29 : decode cX2_whyNot 29 = .ok (.ireturn, 1) := by decide +kernel
set_option maxRecDepth 20000 in
theorem ggX2_next_X2_isPlace : GoodIn wsX2_next wsX2_isPlace := goodIn_r _ [7, 8, 9, 6, 10] rfl (by decide +kernel)
set_option maxRecDepth 20000 in
theorem gX2_next_X2_isPlace : GoodIn wsX2_next (va_wsS RX2 51 yX2_isPlace wsX2_isPlace) := goodIn_app (goodIn_r _ [4, 5, 6] rfl (by decide +kernel)) ggX2_next_X2_isPlace
set_option maxRecDepth 20000 in
theorem ggX2_next_X1_pinFrom : GoodIn wsX2_next wsX1_pinFrom := goodIn_r _ [15, 16, 17, 14, 18, 19, 20, 21, 22, 23, 24, 25, 26, 27, 28, 29, 30, 31, 42, 43, 44, 45, 46, 47, 48, 49, 50, 51, 52, 53, 54, 55, 56, 57, 58] rfl (by decide +kernel)
set_option maxRecDepth 20000 in
theorem gX2_next_X1_pinFrom : GoodIn wsX2_next (wsV RX2 177 RX1 yX1_pinFrom wsX1_pinFrom) := goodIn_app (goodIn_r _ [11, 12, 13, 14] rfl (by decide +kernel)) ggX2_next_X1_pinFrom
theorem dX2_next_0 : decode cX2_next 0 = .ok (.iload_n 1, 1) := by decide +kernel
theorem dX2_next_1 : decode cX2_next 1 = .ok (.iload_n 2, 1) := by decide +kernel
theorem dX2_next_2 : decode cX2_next 2 = .ok (.iload_n 3, 1) := by decide +kernel
theorem dX2_next_3 : decode cX2_next 3 = .ok (.invokestatic 51, 3) := by decide +kernel
theorem dX2_next_6 : decode cX2_next 6 = .ok (.ifCond .ne 13, 3) := by decide +kernel
theorem dX2_next_9 : decode cX2_next 9 = .ok (.new 55, 3) := by decide +kernel
theorem dX2_next_12 : decode cX2_next 12 = .ok (.dup, 1) := by decide +kernel
theorem dX2_next_13 : decode cX2_next 13 = .ok (.ldc 57, 2) := by decide +kernel
theorem dX2_next_15 : decode cX2_next 15 = .ok (.invokespecial 59, 3) := by decide +kernel
theorem dX2_next_18 : decode cX2_next 18 = .ok (.athrow, 1) := by decide +kernel
theorem dX2_next_19 : decode cX2_next 19 = .ok (.aload_n 0, 1) := by decide +kernel
theorem dX2_next_20 : decode cX2_next 20 = .ok (.getfield 12, 3) := by decide +kernel
theorem dX2_next_23 : decode cX2_next 23 = .ok (.iload_n 1, 1) := by decide +kernel
theorem dX2_next_24 : decode cX2_next 24 = .ok (.iload_n 2, 1) := by decide +kernel
theorem dX2_next_25 : decode cX2_next 25 = .ok (.iload_n 3, 1) := by decide +kernel
theorem dX2_next_26 : decode cX2_next 26 = .ok (.invokevirtual 177, 3) := by decide +kernel
theorem dX2_next_29 : decode cX2_next 29 = .ok (.ireturn, 1) := by decide +kernel
set_option maxRecDepth 20000 in
theorem ggX2_tune_X2_isBelow : GoodIn wsX2_tune wsX2_isBelow := goodIn_r _ [9] rfl (by decide +kernel)
set_option maxRecDepth 20000 in
theorem gX2_tune_X2_isBelow : GoodIn wsX2_tune (va_wsS RX2 82 yX2_isBelow wsX2_isBelow) := goodIn_app (goodIn_r _ [6, 7, 8] rfl (by decide +kernel)) ggX2_tune_X2_isBelow
set_option maxRecDepth 20000 in
theorem ggX2_tune_X1_numberOfTune : GoodIn wsX2_tune wsX1_numberOfTune := goodIn_r _ [14, 15, 16, 17, 13, 18, 19, 20, 21, 22, 23, 24, 25, 26, 27, 28, 29, 30, 31, 32, 33, 34, 35, 36, 37, 38, 39, 40, 41, 42, 43, 44, 45, 46, 57, 58, 59, 60, 61, 62, 63, 64, 65, 66, 67, 68, 69, 70, 71, 72, 73] rfl (by decide +kernel)
set_option maxRecDepth 20000 in
theorem gX2_tune_X1_numberOfTune : GoodIn wsX2_tune (wsV RX2 182 RX1 yX1_numberOfTune wsX1_numberOfTune) := goodIn_app (goodIn_r _ [10, 11, 12, 13] rfl (by decide +kernel)) ggX2_tune_X1_numberOfTune
theorem dX2_tune_0 : decode cX2_tune 0 = .ok (.iload_n 1, 1) := by decide +kernel
theorem dX2_tune_1 : decode cX2_tune 1 = .ok (.iconst 3, 1) := by decide +kernel
theorem dX2_tune_2 : decode cX2_tune 2 = .ok (.invokestatic 82, 3) := by decide +kernel
theorem dX2_tune_5 : decode cX2_tune 5 = .ok (.ifCond .ne 13, 3) := by decide +kernel
theorem dX2_tune_8 : decode cX2_tune 8 = .ok (.new 55, 3) := by decide +kernel
theorem dX2_tune_11 : decode cX2_tune 11 = .ok (.dup, 1) := by decide +kernel
theorem dX2_tune_12 : decode cX2_tune 12 = .ok (.ldc 95, 2) := by decide +kernel
theorem dX2_tune_14 : decode cX2_tune 14 = .ok (.invokespecial 59, 3) := by decide +kernel
theorem dX2_tune_17 : decode cX2_tune 17 = .ok (.athrow, 1) := by decide +kernel
theorem dX2_tune_18 : decode cX2_tune 18 = .ok (.iload_n 2, 1) := by decide +kernel
theorem dX2_tune_19 : decode cX2_tune 19 = .ok (.iconst 5, 1) := by decide +kernel
theorem dX2_tune_20 : decode cX2_tune 20 = .ok (.invokestatic 82, 3) := by decide +kernel
theorem dX2_tune_23 : decode cX2_tune 23 = .ok (.ifCond .ne 13, 3) := by decide +kernel
theorem dX2_tune_26 : decode cX2_tune 26 = .ok (.new 86, 3) := by decide +kernel
theorem dX2_tune_29 : decode cX2_tune 29 = .ok (.dup, 1) := by decide +kernel
theorem dX2_tune_30 : decode cX2_tune 30 = .ok (.ldc 180, 2) := by decide +kernel
theorem dX2_tune_32 : decode cX2_tune 32 = .ok (.invokespecial 90, 3) := by decide +kernel
theorem dX2_tune_35 : decode cX2_tune 35 = .ok (.athrow, 1) := by decide +kernel
theorem dX2_tune_36 : decode cX2_tune 36 = .ok (.aload_n 0, 1) := by decide +kernel
theorem dX2_tune_37 : decode cX2_tune 37 = .ok (.getfield 12, 3) := by decide +kernel
theorem dX2_tune_40 : decode cX2_tune 40 = .ok (.iload_n 1, 1) := by decide +kernel
theorem dX2_tune_41 : decode cX2_tune 41 = .ok (.iload_n 2, 1) := by decide +kernel
theorem dX2_tune_42 : decode cX2_tune 42 = .ok (.invokevirtual 182, 3) := by decide +kernel
theorem dX2_tune_45 : decode cX2_tune 45 = .ok (.ireturn, 1) := by decide +kernel
set_option maxRecDepth 20000 in
theorem ggX2_chord_X2_isBelow : GoodIn wsX2_chord wsX2_isBelow := goodIn_r _ [7] rfl (by decide +kernel)
set_option maxRecDepth 20000 in
theorem gX2_chord_X2_isBelow : GoodIn wsX2_chord (va_wsS RX2 82 yX2_isBelow wsX2_isBelow) := goodIn_app (goodIn_r _ [4, 5, 6] rfl (by decide +kernel)) ggX2_chord_X2_isBelow
set_option maxRecDepth 20000 in
theorem ggX2_chord_X1_teethAt : GoodIn wsX2_chord wsX1_teethAt := goodIn_r _ [12, 13, 24, 25, 26, 27, 28, 29, 30, 31, 32, 33, 34, 35, 36, 37, 38, 39, 40] rfl (by decide +kernel)
set_option maxRecDepth 20000 in
theorem gX2_chord_X1_teethAt : GoodIn wsX2_chord (wsV RX2 187 RX1 yX1_teethAt wsX1_teethAt) := goodIn_app (goodIn_r _ [8, 9, 10, 11] rfl (by decide +kernel)) ggX2_chord_X1_teethAt
theorem dX2_chord_0 : decode cX2_chord 0 = .ok (.iload_n 1, 1) := by decide +kernel
theorem dX2_chord_1 : decode cX2_chord 1 = .ok (.iconst 3, 1) := by decide +kernel
theorem dX2_chord_2 : decode cX2_chord 2 = .ok (.invokestatic 82, 3) := by decide +kernel
theorem dX2_chord_5 : decode cX2_chord 5 = .ok (.ifCond .eq 12, 3) := by decide +kernel
theorem dX2_chord_8 : decode cX2_chord 8 = .ok (.iload_n 2, 1) := by decide +kernel
theorem dX2_chord_9 : decode cX2_chord 9 = .ok (.bipush 32, 2) := by decide +kernel
theorem dX2_chord_11 : decode cX2_chord 11 = .ok (.invokestatic 82, 3) := by decide +kernel
theorem dX2_chord_14 : decode cX2_chord 14 = .ok (.ifCond .ne 13, 3) := by decide +kernel
theorem dX2_chord_17 : decode cX2_chord 17 = .ok (.new 55, 3) := by decide +kernel
theorem dX2_chord_20 : decode cX2_chord 20 = .ok (.dup, 1) := by decide +kernel
theorem dX2_chord_21 : decode cX2_chord 21 = .ok (.ldc 185, 2) := by decide +kernel
theorem dX2_chord_23 : decode cX2_chord 23 = .ok (.invokespecial 59, 3) := by decide +kernel
theorem dX2_chord_26 : decode cX2_chord 26 = .ok (.athrow, 1) := by decide +kernel
theorem dX2_chord_27 : decode cX2_chord 27 = .ok (.aload_n 0, 1) := by decide +kernel
theorem dX2_chord_28 : decode cX2_chord 28 = .ok (.getfield 12, 3) := by decide +kernel
theorem dX2_chord_31 : decode cX2_chord 31 = .ok (.iload_n 1, 1) := by decide +kernel
theorem dX2_chord_32 : decode cX2_chord 32 = .ok (.iload_n 2, 1) := by decide +kernel
theorem dX2_chord_33 : decode cX2_chord 33 = .ok (.invokevirtual 187, 3) := by decide +kernel
theorem dX2_chord_36 : decode cX2_chord 36 = .ok (.ireturn, 1) := by decide +kernel
set_option maxRecDepth 20000 in
theorem ggX2_tooth_X2_isBelow : GoodIn wsX2_tooth wsX2_isBelow := goodIn_r _ [9] rfl (by decide +kernel)
set_option maxRecDepth 20000 in
theorem gX2_tooth_X2_isBelow : GoodIn wsX2_tooth (va_wsS RX2 82 yX2_isBelow wsX2_isBelow) := goodIn_app (goodIn_r _ [6, 7, 8] rfl (by decide +kernel)) ggX2_tooth_X2_isBelow
set_option maxRecDepth 20000 in
theorem ggX2_tooth_X1_numberOfTooth : GoodIn wsX2_tooth wsX1_numberOfTooth := goodIn_r _ [14, 15, 16, 17, 18, 19, 20, 13, 21, 22, 23, 24, 25, 26, 27, 28, 29, 30, 31, 32, 33, 34, 35, 36, 37, 38, 39, 40, 41, 42, 43, 44, 45, 56, 57, 58, 59, 60, 61, 62, 63, 64, 65, 66, 67, 68, 69, 70, 71, 72] rfl (by decide +kernel)
set_option maxRecDepth 20000 in
theorem gX2_tooth_X1_numberOfTooth : GoodIn wsX2_tooth (wsV RX2 190 RX1 yX1_numberOfTooth wsX1_numberOfTooth) := goodIn_app (goodIn_r _ [10, 11, 12, 13] rfl (by decide +kernel)) ggX2_tooth_X1_numberOfTooth
theorem dX2_tooth_0 : decode cX2_tooth 0 = .ok (.iload_n 1, 1) := by decide +kernel
theorem dX2_tooth_1 : decode cX2_tooth 1 = .ok (.bipush 12, 2) := by decide +kernel
theorem dX2_tooth_3 : decode cX2_tooth 3 = .ok (.invokestatic 82, 3) := by decide +kernel
theorem dX2_tooth_6 : decode cX2_tooth 6 = .ok (.ifCond .ne 13, 3) := by decide +kernel
theorem dX2_tooth_9 : decode cX2_tooth 9 = .ok (.new 55, 3) := by decide +kernel
theorem dX2_tooth_12 : decode cX2_tooth 12 = .ok (.dup, 1) := by decide +kernel
theorem dX2_tooth_13 : decode cX2_tooth 13 = .ok (.ldc 130, 2) := by decide +kernel
theorem dX2_tooth_15 : decode cX2_tooth 15 = .ok (.invokespecial 59, 3) := by decide +kernel
theorem dX2_tooth_18 : decode cX2_tooth 18 = .ok (.athrow, 1) := by decide +kernel
theorem dX2_tooth_19 : decode cX2_tooth 19 = .ok (.iload_n 2, 1) := by decide +kernel
theorem dX2_tooth_20 : decode cX2_tooth 20 = .ok (.iconst 5, 1) := by decide +kernel
theorem dX2_tooth_21 : decode cX2_tooth 21 = .ok (.invokestatic 82, 3) := by decide +kernel
theorem dX2_tooth_24 : decode cX2_tooth 24 = .ok (.ifCond .ne 13, 3) := by decide +kernel
theorem dX2_tooth_27 : decode cX2_tooth 27 = .ok (.new 86, 3) := by decide +kernel
theorem dX2_tooth_30 : decode cX2_tooth 30 = .ok (.dup, 1) := by decide +kernel
theorem dX2_tooth_31 : decode cX2_tooth 31 = .ok (.ldc 180, 2) := by decide +kernel
theorem dX2_tooth_33 : decode cX2_tooth 33 = .ok (.invokespecial 90, 3) := by decide +kernel
theorem dX2_tooth_36 : decode cX2_tooth 36 = .ok (.athrow, 1) := by decide +kernel
theorem dX2_tooth_37 : decode cX2_tooth 37 = .ok (.aload_n 0, 1) := by decide +kernel
theorem dX2_tooth_38 : decode cX2_tooth 38 = .ok (.getfield 12, 3) := by decide +kernel
theorem dX2_tooth_41 : decode cX2_tooth 41 = .ok (.iload_n 1, 1) := by decide +kernel
theorem dX2_tooth_42 : decode cX2_tooth 42 = .ok (.iload_n 2, 1) := by decide +kernel
theorem dX2_tooth_43 : decode cX2_tooth 43 = .ok (.invokevirtual 190, 3) := by decide +kernel
theorem dX2_tooth_46 : decode cX2_tooth 46 = .ok (.ireturn, 1) := by decide +kernel
set_option maxRecDepth 20000 in
theorem ggX2_note_X2_isBelow : GoodIn wsX2_note wsX2_isBelow := goodIn_r _ [7] rfl (by decide +kernel)
set_option maxRecDepth 20000 in
theorem gX2_note_X2_isBelow : GoodIn wsX2_note (va_wsS RX2 82 yX2_isBelow wsX2_isBelow) := goodIn_app (goodIn_r _ [4, 5, 6] rfl (by decide +kernel)) ggX2_note_X2_isBelow
set_option maxRecDepth 20000 in
theorem ggX2_note_X1_notesKept : GoodIn wsX2_note wsX1_notesKept := goodIn_r _ [12, 13, 14, 15, 16, 17, 46, 47, 48, 49, 50, 51, 52, 53, 54, 55, 56, 57, 58, 59, 60, 61, 62] rfl (by decide +kernel)
set_option maxRecDepth 20000 in
theorem gX2_note_X1_notesKept : GoodIn wsX2_note (wsV RX2 195 RX1 yX1_notesKept wsX1_notesKept) := goodIn_app (goodIn_r _ [8, 9, 10, 11] rfl (by decide +kernel)) ggX2_note_X1_notesKept
set_option maxRecDepth 20000 in
theorem ggX2_note_X1_noteTooth : GoodIn wsX2_note wsX1_noteTooth := goodIn_r _ [21, 22, 23, 24, 25, 11, 26, 13, 27, 28, 29, 30, 46, 47, 48, 49, 50, 51, 52, 53, 54, 55, 56, 57, 58, 59, 60, 61, 62] rfl (by decide +kernel)
set_option maxRecDepth 20000 in
theorem gX2_note_X1_noteTooth : GoodIn wsX2_note (wsV RX2 198 RX1 yX1_noteTooth wsX1_noteTooth) := goodIn_app (goodIn_r _ [18, 19, 20, 11] rfl (by decide +kernel)) ggX2_note_X1_noteTooth
set_option maxRecDepth 20000 in
theorem ggX2_note_X1_noteTime : GoodIn wsX2_note wsX1_noteTime := goodIn_r _ [34, 35, 23, 24, 25, 11, 26, 13, 27, 28, 29, 30, 46, 47, 48, 49, 50, 51, 52, 53, 54, 55, 56, 57, 58, 59, 60, 61, 62] rfl (by decide +kernel)
set_option maxRecDepth 20000 in
theorem gX2_note_X1_noteTime : GoodIn wsX2_note (wsV RX2 201 RX1 yX1_noteTime wsX1_noteTime) := goodIn_app (goodIn_r _ [31, 32, 33, 11] rfl (by decide +kernel)) ggX2_note_X1_noteTime
theorem dX2_note_0 : decode cX2_note 0 = .ok (.iload_n 1, 1) := by decide +kernel
theorem dX2_note_1 : decode cX2_note 1 = .ok (.bipush 24, 2) := by decide +kernel
theorem dX2_note_3 : decode cX2_note 3 = .ok (.invokestatic 82, 3) := by decide +kernel
theorem dX2_note_6 : decode cX2_note 6 = .ok (.ifCond .eq 11, 3) := by decide +kernel
theorem dX2_note_9 : decode cX2_note 9 = .ok (.iload_n 2, 1) := by decide +kernel
theorem dX2_note_10 : decode cX2_note 10 = .ok (.iconst 2, 1) := by decide +kernel
theorem dX2_note_11 : decode cX2_note 11 = .ok (.invokestatic 82, 3) := by decide +kernel
theorem dX2_note_14 : decode cX2_note 14 = .ok (.ifCond .ne 13, 3) := by decide +kernel
theorem dX2_note_17 : decode cX2_note 17 = .ok (.new 86, 3) := by decide +kernel
theorem dX2_note_20 : decode cX2_note 20 = .ok (.dup, 1) := by decide +kernel
theorem dX2_note_21 : decode cX2_note 21 = .ok (.ldc 193, 2) := by decide +kernel
theorem dX2_note_23 : decode cX2_note 23 = .ok (.invokespecial 90, 3) := by decide +kernel
theorem dX2_note_26 : decode cX2_note 26 = .ok (.athrow, 1) := by decide +kernel
theorem dX2_note_27 : decode cX2_note 27 = .ok (.iload_n 1, 1) := by decide +kernel
theorem dX2_note_28 : decode cX2_note 28 = .ok (.aload_n 0, 1) := by decide +kernel
theorem dX2_note_29 : decode cX2_note 29 = .ok (.getfield 12, 3) := by decide +kernel
theorem dX2_note_32 : decode cX2_note 32 = .ok (.invokevirtual 195, 3) := by decide +kernel
theorem dX2_note_35 : decode cX2_note 35 = .ok (.if_icmp .lt 5, 3) := by decide +kernel
theorem dX2_note_38 : decode cX2_note 38 = .ok (.iconst (-1), 1) := by decide +kernel
theorem dX2_note_39 : decode cX2_note 39 = .ok (.ireturn, 1) := by decide +kernel
theorem dX2_note_40 : decode cX2_note 40 = .ok (.iload_n 2, 1) := by decide +kernel
theorem dX2_note_41 : decode cX2_note 41 = .ok (.ifCond .ne 14, 3) := by decide +kernel
theorem dX2_note_44 : decode cX2_note 44 = .ok (.aload_n 0, 1) := by decide +kernel
theorem dX2_note_45 : decode cX2_note 45 = .ok (.getfield 12, 3) := by decide +kernel
theorem dX2_note_48 : decode cX2_note 48 = .ok (.iload_n 1, 1) := by decide +kernel
theorem dX2_note_49 : decode cX2_note 49 = .ok (.invokevirtual 198, 3) := by decide +kernel
theorem dX2_note_52 : decode cX2_note 52 = .ok (.goto 11, 3) := by decide +kernel
theorem dX2_note_55 : decode cX2_note 55 = .ok (.aload_n 0, 1) := by decide +kernel
theorem dX2_note_56 : decode cX2_note 56 = .ok (.getfield 12, 3) := by decide +kernel
theorem dX2_note_59 : decode cX2_note 59 = .ok (.iload_n 1, 1) := by decide +kernel
theorem dX2_note_60 : decode cX2_note 60 = .ok (.invokevirtual 201, 3) := by decide +kernel
theorem dX2_note_63 : decode cX2_note 63 = .ok (.ireturn, 1) := by decide +kernel
set_option maxRecDepth 20000 in
theorem ggX2_count_X2_isBelow : GoodIn wsX2_count wsX2_isBelow := goodIn_r _ [6] rfl (by decide +kernel)
set_option maxRecDepth 20000 in
theorem gX2_count_X2_isBelow : GoodIn wsX2_count (va_wsS RX2 82 yX2_isBelow wsX2_isBelow) := goodIn_app (goodIn_r _ [3, 4, 5] rfl (by decide +kernel)) ggX2_count_X2_isBelow
set_option maxRecDepth 20000 in
theorem ggX2_count_X2_numberNow : GoodIn wsX2_count wsX2_numberNow := goodIn_r _ [10, 11, 12, 13, 14, 15, 16, 17, 18, 19, 20, 21, 22, 23, 24, 25, 26, 27, 28, 29, 30, 31, 32, 33, 34, 35, 36, 37, 38, 39, 40, 41, 42, 43, 44, 45, 46, 47, 48, 49, 50, 51, 52, 53, 54, 55, 56, 57, 58, 59, 60, 61, 62, 63, 64, 65, 66, 67, 68, 69, 70, 71, 72, 73, 74, 75, 76, 77, 78, 79, 80, 81, 82, 83, 84, 85, 86, 87, 88, 89, 90, 91, 92, 93, 94, 95, 96] rfl (by decide +kernel)
set_option maxRecDepth 20000 in
theorem gX2_count_X2_numberNow : GoodIn wsX2_count (wsV RX2 206 RX2 yX2_numberNow wsX2_numberNow) := goodIn_app (goodIn_r _ [7, 8, 9, 5] rfl (by decide +kernel)) ggX2_count_X2_numberNow
theorem dX2_count_0 : decode cX2_count 0 = .ok (.iload_n 1, 1) := by decide +kernel
theorem dX2_count_1 : decode cX2_count 1 = .ok (.bipush 18, 2) := by decide +kernel
theorem dX2_count_3 : decode cX2_count 3 = .ok (.invokestatic 82, 3) := by decide +kernel
theorem dX2_count_6 : decode cX2_count 6 = .ok (.ifCond .ne 13, 3) := by decide +kernel
theorem dX2_count_9 : decode cX2_count 9 = .ok (.new 86, 3) := by decide +kernel
theorem dX2_count_12 : decode cX2_count 12 = .ok (.dup, 1) := by decide +kernel
theorem dX2_count_13 : decode cX2_count 13 = .ok (.ldc 204, 2) := by decide +kernel
theorem dX2_count_15 : decode cX2_count 15 = .ok (.invokespecial 90, 3) := by decide +kernel
theorem dX2_count_18 : decode cX2_count 18 = .ok (.athrow, 1) := by decide +kernel
theorem dX2_count_19 : decode cX2_count 19 = .ok (.aload_n 0, 1) := by decide +kernel
theorem dX2_count_20 : decode cX2_count 20 = .ok (.iload_n 1, 1) := by decide +kernel
theorem dX2_count_21 : decode cX2_count 21 = .ok (.invokevirtual 206, 3) := by decide +kernel
theorem dX2_count_24 : decode cX2_count 24 = .ok (.ireturn, 1) := by decide +kernel
set_option maxRecDepth 20000 in
theorem ggX2_ifPlayed_X2_isWithin : GoodIn wsX2_ifPlayed wsX2_isWithin := goodIn_r _ [7] rfl (by decide +kernel)
set_option maxRecDepth 20000 in
theorem gX2_ifPlayed_X2_isWithin : GoodIn wsX2_ifPlayed (va_wsS RX2 97 yX2_isWithin wsX2_isWithin) := goodIn_app (goodIn_r _ [4, 5, 6] rfl (by decide +kernel)) ggX2_ifPlayed_X2_isWithin
set_option maxRecDepth 20000 in
theorem ggX2_ifPlayed_X2_isBelow : GoodIn wsX2_ifPlayed wsX2_isBelow := goodIn_r _ [10] rfl (by decide +kernel)
set_option maxRecDepth 20000 in
theorem gX2_ifPlayed_X2_isBelow : GoodIn wsX2_ifPlayed (va_wsS RX2 82 yX2_isBelow wsX2_isBelow) := goodIn_app (goodIn_r _ [8, 9, 6] rfl (by decide +kernel)) ggX2_ifPlayed_X2_isBelow
set_option maxRecDepth 20000 in
theorem ggX2_ifPlayed_X2_tryOut : GoodIn wsX2_ifPlayed wsX2_tryOut := goodIn_r _ [14, 15, 3, 16, 17, 18, 19, 20, 21, 22, 23, 24, 25, 26, 27, 28, 29, 30, 31, 32, 33, 34, 35, 36, 37, 38, 39, 40, 41, 42, 43, 44, 45, 46, 47, 48, 49, 50, 51, 52, 53, 54, 55, 56, 57, 58, 59, 60, 61, 62, 63, 64, 65, 66, 67, 68, 69, 70, 71, 72, 73, 74, 75, 76, 77, 78, 79, 80, 81, 82, 83, 84, 85, 86, 87, 88, 89, 90, 91, 92, 93, 94, 95, 96, 97, 98, 99, 108, 109, 110, 111, 112, 113, 114, 115, 116, 117, 118, 119, 120, 121, 122, 123, 124, 125, 126, 127, 128, 129, 130, 131, 132, 133, 134] rfl (by decide +kernel)
set_option maxRecDepth 20000 in
theorem gX2_ifPlayed_X2_tryOut : GoodIn wsX2_ifPlayed (wsV RX2 211 RX2 yX2_tryOut wsX2_tryOut) := goodIn_app (goodIn_r _ [11, 12, 13, 6] rfl (by decide +kernel)) ggX2_ifPlayed_X2_tryOut
set_option maxRecDepth 20000 in
theorem ggX2_ifPlayed_X2_outcome : GoodIn wsX2_ifPlayed wsX2_outcome := goodIn_r _ [103, 15, 3, 104, 105, 106, 19, 107, 32, 73, 74, 75, 76, 77, 78, 79, 108, 109, 110, 111, 112, 113, 114, 115, 116, 117, 118, 119, 120, 121, 122, 123, 124, 125, 126, 127, 128, 129, 130, 131, 132, 133, 134] rfl (by decide +kernel)
set_option maxRecDepth 20000 in
theorem gX2_ifPlayed_X2_outcome : GoodIn wsX2_ifPlayed (wsV RX2 215 RX2 yX2_outcome wsX2_outcome) := goodIn_app (goodIn_r _ [100, 101, 102, 6] rfl (by decide +kernel)) ggX2_ifPlayed_X2_outcome
theorem dX2_ifPlayed_0 : decode cX2_ifPlayed 0 = .ok (.iload_n 1, 1) := by decide +kernel
theorem dX2_ifPlayed_1 : decode cX2_ifPlayed 1 = .ok (.iconst 1, 1) := by decide +kernel
theorem dX2_ifPlayed_2 : decode cX2_ifPlayed 2 = .ok (.sipush 128, 3) := by decide +kernel
theorem dX2_ifPlayed_5 : decode cX2_ifPlayed 5 = .ok (.invokestatic 97, 3) := by decide +kernel
theorem dX2_ifPlayed_8 : decode cX2_ifPlayed 8 = .ok (.ifCond .eq 11, 3) := by decide +kernel
theorem dX2_ifPlayed_11 : decode cX2_ifPlayed 11 = .ok (.iload_n 2, 1) := by decide +kernel
theorem dX2_ifPlayed_12 : decode cX2_ifPlayed 12 = .ok (.iconst 5, 1) := by decide +kernel
theorem dX2_ifPlayed_13 : decode cX2_ifPlayed 13 = .ok (.invokestatic 82, 3) := by decide +kernel
theorem dX2_ifPlayed_16 : decode cX2_ifPlayed 16 = .ok (.ifCond .ne 13, 3) := by decide +kernel
theorem dX2_ifPlayed_19 : decode cX2_ifPlayed 19 = .ok (.new 86, 3) := by decide +kernel
theorem dX2_ifPlayed_22 : decode cX2_ifPlayed 22 = .ok (.dup, 1) := by decide +kernel
theorem dX2_ifPlayed_23 : decode cX2_ifPlayed 23 = .ok (.ldc 209, 2) := by decide +kernel
theorem dX2_ifPlayed_25 : decode cX2_ifPlayed 25 = .ok (.invokespecial 90, 3) := by decide +kernel
theorem dX2_ifPlayed_28 : decode cX2_ifPlayed 28 = .ok (.athrow, 1) := by decide +kernel
theorem dX2_ifPlayed_29 : decode cX2_ifPlayed 29 = .ok (.aload_n 0, 1) := by decide +kernel
theorem dX2_ifPlayed_30 : decode cX2_ifPlayed 30 = .ok (.iload_n 1, 1) := by decide +kernel
theorem dX2_ifPlayed_31 : decode cX2_ifPlayed 31 = .ok (.aload_n 0, 1) := by decide +kernel
theorem dX2_ifPlayed_32 : decode cX2_ifPlayed 32 = .ok (.getfield 12, 3) := by decide +kernel
theorem dX2_ifPlayed_35 : decode cX2_ifPlayed 35 = .ok (.getfield 119, 3) := by decide +kernel
theorem dX2_ifPlayed_38 : decode cX2_ifPlayed 38 = .ok (.invokevirtual 211, 3) := by decide +kernel
theorem dX2_ifPlayed_41 : decode cX2_ifPlayed 41 = .ok (.aload_n 0, 1) := by decide +kernel
theorem dX2_ifPlayed_42 : decode cX2_ifPlayed 42 = .ok (.iload_n 2, 1) := by decide +kernel
theorem dX2_ifPlayed_43 : decode cX2_ifPlayed 43 = .ok (.invokevirtual 215, 3) := by decide +kernel
theorem dX2_ifPlayed_46 : decode cX2_ifPlayed 46 = .ok (.ireturn, 1) := by decide +kernel
set_option maxRecDepth 20000 in
theorem ggX2_windFor_X2_isWithin : GoodIn wsX2_windFor wsX2_isWithin := goodIn_r _ [7] rfl (by decide +kernel)
set_option maxRecDepth 20000 in
theorem gX2_windFor_X2_isWithin : GoodIn wsX2_windFor (va_wsS RX2 97 yX2_isWithin wsX2_isWithin) := goodIn_app (goodIn_r _ [4, 5, 6] rfl (by decide +kernel)) ggX2_windFor_X2_isWithin
set_option maxRecDepth 20000 in
theorem ggX2_windFor_X1_windOfSteps : GoodIn wsX2_windFor wsX1_windOfSteps := goodIn_r _ [12, 13, 14, 15, 16, 11, 17, 18, 19, 20, 21, 22, 23, 24, 25, 26, 27, 28, 29, 30, 31, 32, 33, 34, 35, 36, 37, 38, 39, 40, 41, 42, 43, 54, 55, 56, 57, 58, 59, 60, 61, 62, 63, 64, 65, 66, 67, 68, 69, 70] rfl (by decide +kernel)
set_option maxRecDepth 20000 in
theorem gX2_windFor_X1_windOfSteps : GoodIn wsX2_windFor (wsV RX2 221 RX1 yX1_windOfSteps wsX1_windOfSteps) := goodIn_app (goodIn_r _ [8, 9, 10, 11] rfl (by decide +kernel)) ggX2_windFor_X1_windOfSteps
theorem dX2_windFor_0 : decode cX2_windFor 0 = .ok (.iload_n 1, 1) := by decide +kernel
theorem dX2_windFor_1 : decode cX2_windFor 1 = .ok (.iconst 1, 1) := by decide +kernel
theorem dX2_windFor_2 : decode cX2_windFor 2 = .ok (.bipush 9, 2) := by decide +kernel
theorem dX2_windFor_4 : decode cX2_windFor 4 = .ok (.invokestatic 97, 3) := by decide +kernel
theorem dX2_windFor_7 : decode cX2_windFor 7 = .ok (.ifCond .ne 13, 3) := by decide +kernel
theorem dX2_windFor_10 : decode cX2_windFor 10 = .ok (.new 86, 3) := by decide +kernel
theorem dX2_windFor_13 : decode cX2_windFor 13 = .ok (.dup, 1) := by decide +kernel
theorem dX2_windFor_14 : decode cX2_windFor 14 = .ok (.ldc 106, 2) := by decide +kernel
theorem dX2_windFor_16 : decode cX2_windFor 16 = .ok (.invokespecial 90, 3) := by decide +kernel
theorem dX2_windFor_19 : decode cX2_windFor 19 = .ok (.athrow, 1) := by decide +kernel
theorem dX2_windFor_20 : decode cX2_windFor 20 = .ok (.aload_n 0, 1) := by decide +kernel
theorem dX2_windFor_21 : decode cX2_windFor 21 = .ok (.getfield 12, 3) := by decide +kernel
theorem dX2_windFor_24 : decode cX2_windFor 24 = .ok (.iload_n 1, 1) := by decide +kernel
theorem dX2_windFor_25 : decode cX2_windFor 25 = .ok (.bipush 32, 2) := by decide +kernel
theorem dX2_windFor_27 : decode cX2_windFor 27 = .ok (.imul, 1) := by decide +kernel
theorem dX2_windFor_28 : decode cX2_windFor 28 = .ok (.invokevirtual 221, 3) := by decide +kernel
theorem dX2_windFor_31 : decode cX2_windFor 31 = .ok (.ireturn, 1) := by decide +kernel
set_option maxRecDepth 20000 in
theorem ggX2_clean_X2_cleanShare : GoodIn wsX2_clean wsX2_cleanShare := goodIn_r _ [5, 6, 7, 8, 9, 10, 11, 12, 13, 14, 15, 16, 17, 18, 19, 20, 21, 22, 23, 24, 25, 26, 27, 28, 29, 30, 31, 32, 33, 34, 35, 36, 37] rfl (by decide +kernel)
set_option maxRecDepth 20000 in
theorem gX2_clean_X2_cleanShare : GoodIn wsX2_clean (wsV RX2 224 RX2 yX2_cleanShare wsX2_cleanShare) := goodIn_app (goodIn_r _ [1, 2, 3, 4] rfl (by decide +kernel)) ggX2_clean_X2_cleanShare
theorem dX2_clean_0 : decode cX2_clean 0 = .ok (.aload_n 0, 1) := by decide +kernel
theorem dX2_clean_1 : decode cX2_clean 1 = .ok (.invokevirtual 224, 3) := by decide +kernel
theorem dX2_clean_4 : decode cX2_clean 4 = .ok (.dreturn, 1) := by decide +kernel
theorem dX2_isWithin_0 : decode cX2_isWithin 0 = .ok (.iload_n 0, 1) := by decide +kernel
theorem dX2_isWithin_1 : decode cX2_isWithin 1 = .ok (.iload_n 1, 1) := by decide +kernel
theorem dX2_isWithin_2 : decode cX2_isWithin 2 = .ok (.if_icmp .lt 12, 3) := by decide +kernel
theorem dX2_isWithin_5 : decode cX2_isWithin 5 = .ok (.iload_n 0, 1) := by decide +kernel
theorem dX2_isWithin_6 : decode cX2_isWithin 6 = .ok (.iload_n 2, 1) := by decide +kernel
theorem dX2_isWithin_7 : decode cX2_isWithin 7 = .ok (.if_icmp .gt 7, 3) := by decide +kernel
theorem dX2_isWithin_10 : decode cX2_isWithin 10 = .ok (.iconst 1, 1) := by decide +kernel
theorem dX2_isWithin_11 : decode cX2_isWithin 11 = .ok (.goto 4, 3) := by decide +kernel
theorem dX2_isWithin_14 : decode cX2_isWithin 14 = .ok (.iconst 0, 1) := by decide +kernel
theorem dX2_isWithin_15 : decode cX2_isWithin 15 = .ok (.ireturn, 1) := by decide +kernel
theorem dX2_isBelow_0 : decode cX2_isBelow 0 = .ok (.iload_n 0, 1) := by decide +kernel
theorem dX2_isBelow_1 : decode cX2_isBelow 1 = .ok (.ifCond .lt 12, 3) := by decide +kernel
theorem dX2_isBelow_4 : decode cX2_isBelow 4 = .ok (.iload_n 0, 1) := by decide +kernel
theorem dX2_isBelow_5 : decode cX2_isBelow 5 = .ok (.iload_n 1, 1) := by decide +kernel
theorem dX2_isBelow_6 : decode cX2_isBelow 6 = .ok (.if_icmp .ge 7, 3) := by decide +kernel
theorem dX2_isBelow_9 : decode cX2_isBelow 9 = .ok (.iconst 1, 1) := by decide +kernel
theorem dX2_isBelow_10 : decode cX2_isBelow 10 = .ok (.goto 4, 3) := by decide +kernel
theorem dX2_isBelow_13 : decode cX2_isBelow 13 = .ok (.iconst 0, 1) := by decide +kernel
theorem dX2_isBelow_14 : decode cX2_isBelow 14 = .ok (.ireturn, 1) := by decide +kernel
set_option maxRecDepth 20000 in
theorem ggX2_isPlace_X2_isBelow : GoodIn wsX2_isPlace wsX2_isBelow := goodIn_r _ [4] rfl (by decide +kernel)
set_option maxRecDepth 20000 in
theorem gX2_isPlace_X2_isBelow : GoodIn wsX2_isPlace (va_wsS RX2 82 yX2_isBelow wsX2_isBelow) := goodIn_app (goodIn_r _ [1, 2, 3] rfl (by decide +kernel)) ggX2_isPlace_X2_isBelow
theorem dX2_isPlace_0 : decode cX2_isPlace 0 = .ok (.iload_n 0, 1) := by decide +kernel
theorem dX2_isPlace_1 : decode cX2_isPlace 1 = .ok (.iconst 3, 1) := by decide +kernel
theorem dX2_isPlace_2 : decode cX2_isPlace 2 = .ok (.invokestatic 82, 3) := by decide +kernel
theorem dX2_isPlace_5 : decode cX2_isPlace 5 = .ok (.ifCond .eq 25, 3) := by decide +kernel
theorem dX2_isPlace_8 : decode cX2_isPlace 8 = .ok (.iload_n 1, 1) := by decide +kernel
theorem dX2_isPlace_9 : decode cX2_isPlace 9 = .ok (.bipush 12, 2) := by decide +kernel
theorem dX2_isPlace_11 : decode cX2_isPlace 11 = .ok (.invokestatic 82, 3) := by decide +kernel
theorem dX2_isPlace_14 : decode cX2_isPlace 14 = .ok (.ifCond .eq 16, 3) := by decide +kernel
theorem dX2_isPlace_17 : decode cX2_isPlace 17 = .ok (.iload_n 2, 1) := by decide +kernel
theorem dX2_isPlace_18 : decode cX2_isPlace 18 = .ok (.bipush 32, 2) := by decide +kernel
theorem dX2_isPlace_20 : decode cX2_isPlace 20 = .ok (.invokestatic 82, 3) := by decide +kernel
theorem dX2_isPlace_23 : decode cX2_isPlace 23 = .ok (.ifCond .eq 7, 3) := by decide +kernel
theorem dX2_isPlace_26 : decode cX2_isPlace 26 = .ok (.iconst 1, 1) := by decide +kernel
theorem dX2_isPlace_27 : decode cX2_isPlace 27 = .ok (.goto 4, 3) := by decide +kernel
theorem dX2_isPlace_30 : decode cX2_isPlace 30 = .ok (.iconst 0, 1) := by decide +kernel
theorem dX2_isPlace_31 : decode cX2_isPlace 31 = .ok (.ireturn, 1) := by decide +kernel
set_option maxRecDepth 20000 in
theorem ggX2_saveState_X1_become : GoodIn wsX2_saveState wsX1_become := goodIn_r _ [9, 10, 11, 12, 13, 14, 15, 16, 17, 18, 19, 20, 21, 22, 23, 24, 25, 26, 27, 28, 29, 30, 41, 42, 43, 44, 45, 46, 47, 48, 49, 50, 51, 52, 53, 54, 55, 56, 57] rfl (by decide +kernel)
set_option maxRecDepth 20000 in
theorem gX2_saveState_X1_become : GoodIn wsX2_saveState (wsV RX2 168 RX1 yX1_become wsX1_become) := goodIn_app (goodIn_r _ [5, 6, 7, 8] rfl (by decide +kernel)) ggX2_saveState_X1_become
theorem dX2_saveState_0 : decode cX2_saveState 0 = .ok (.aload_n 0, 1) := by decide +kernel
theorem dX2_saveState_1 : decode cX2_saveState 1 = .ok (.getfield 26, 3) := by decide +kernel
theorem dX2_saveState_4 : decode cX2_saveState 4 = .ok (.aload_n 0, 1) := by decide +kernel
theorem dX2_saveState_5 : decode cX2_saveState 5 = .ok (.getfield 30, 3) := by decide +kernel
theorem dX2_saveState_8 : decode cX2_saveState 8 = .ok (.aload_n 0, 1) := by decide +kernel
theorem dX2_saveState_9 : decode cX2_saveState 9 = .ok (.getfield 34, 3) := by decide +kernel
theorem dX2_saveState_12 : decode cX2_saveState 12 = .ok (.iadd, 1) := by decide +kernel
theorem dX2_saveState_13 : decode cX2_saveState 13 = .ok (.bipush 6, 2) := by decide +kernel
theorem dX2_saveState_15 : decode cX2_saveState 15 = .ok (.irem, 1) := by decide +kernel
theorem dX2_saveState_16 : decode cX2_saveState 16 = .ok (.aaload, 1) := by decide +kernel
theorem dX2_saveState_17 : decode cX2_saveState 17 = .ok (.aload_n 0, 1) := by decide +kernel
theorem dX2_saveState_18 : decode cX2_saveState 18 = .ok (.getfield 12, 3) := by decide +kernel
theorem dX2_saveState_21 : decode cX2_saveState 21 = .ok (.invokevirtual 168, 3) := by decide +kernel
theorem dX2_saveState_24 : decode cX2_saveState 24 = .ok (.aload_n 0, 1) := by decide +kernel
theorem dX2_saveState_25 : decode cX2_saveState 25 = .ok (.getfield 34, 3) := by decide +kernel
theorem dX2_saveState_28 : decode cX2_saveState 28 = .ok (.bipush 6, 2) := by decide +kernel
theorem dX2_saveState_30 : decode cX2_saveState 30 = .ok (.if_icmp .ge 16, 3) := by decide +kernel
theorem dX2_saveState_33 : decode cX2_saveState 33 = .ok (.aload_n 0, 1) := by decide +kernel
theorem dX2_saveState_34 : decode cX2_saveState 34 = .ok (.dup, 1) := by decide +kernel
theorem dX2_saveState_35 : decode cX2_saveState 35 = .ok (.getfield 34, 3) := by decide +kernel
theorem dX2_saveState_38 : decode cX2_saveState 38 = .ok (.iconst 1, 1) := by decide +kernel
theorem dX2_saveState_39 : decode cX2_saveState 39 = .ok (.iadd, 1) := by decide +kernel
theorem dX2_saveState_40 : decode cX2_saveState 40 = .ok (.putfield 34, 3) := by decide +kernel
theorem dX2_saveState_43 : decode cX2_saveState 43 = .ok (.goto 16, 3) := by decide +kernel
theorem dX2_saveState_46 : decode cX2_saveState 46 = .ok (.aload_n 0, 1) := by decide +kernel
theorem dX2_saveState_47 : decode cX2_saveState 47 = .ok (.aload_n 0, 1) := by decide +kernel
theorem dX2_saveState_48 : decode cX2_saveState 48 = .ok (.getfield 30, 3) := by decide +kernel
theorem dX2_saveState_51 : decode cX2_saveState 51 = .ok (.iconst 1, 1) := by decide +kernel
theorem dX2_saveState_52 : decode cX2_saveState 52 = .ok (.iadd, 1) := by decide +kernel
theorem dX2_saveState_53 : decode cX2_saveState 53 = .ok (.bipush 6, 2) := by decide +kernel
theorem dX2_saveState_55 : decode cX2_saveState 55 = .ok (.irem, 1) := by decide +kernel
theorem dX2_saveState_56 : decode cX2_saveState 56 = .ok (.putfield 30, 3) := by decide +kernel
theorem dX2_saveState_59 : decode cX2_saveState 59 = .ok (.return_, 1) := by decide +kernel
set_option maxRecDepth 20000 in
theorem ggX2_tryOut_X1_become : GoodIn wsX2_tryOut wsX1_become := goodIn_r _ [7, 8, 9, 10, 11, 12, 13, 14, 15, 16, 17, 18, 19, 20, 21, 22, 23, 24, 25, 26, 27, 28, 97, 98, 99, 100, 101, 102, 103, 104, 105, 106, 107, 108, 109, 110, 111, 112, 113] rfl (by decide +kernel)
set_option maxRecDepth 20000 in
theorem gX2_tryOut_X1_become : GoodIn wsX2_tryOut (wsV RX2 168 RX1 yX1_become wsX1_become) := goodIn_app (goodIn_r _ [3, 4, 5, 6] rfl (by decide +kernel)) ggX2_tryOut_X1_become
set_option maxRecDepth 20000 in
theorem ggX2_tryOut_X1_goOnFor : GoodIn wsX2_tryOut wsX1_goOnFor := goodIn_r _ [32, 33, 34, 35, 6, 36, 20, 21, 19, 22, 28, 23, 37, 38, 39, 40, 24, 25, 41, 42, 43, 44, 45, 46, 47, 48, 49, 50, 51, 18, 52, 53, 54, 55, 8, 56, 57, 58, 59, 60, 61, 62, 63, 64, 65, 66, 67, 68, 69, 70, 14, 71, 72, 73, 74, 13, 75, 76, 77, 78, 27, 79, 80, 81, 82, 83, 84, 85, 86, 15, 26, 16, 17, 97, 98, 99, 100, 101, 102, 103, 104, 105, 106, 107, 108, 109, 110, 111, 112, 113] rfl (by decide +kernel)
set_option maxRecDepth 20000 in
theorem gX2_tryOut_X1_goOnFor : GoodIn wsX2_tryOut (wsV RX2 127 RX1 yX1_goOnFor wsX1_goOnFor) := goodIn_app (goodIn_r _ [29, 30, 31, 6] rfl (by decide +kernel)) ggX2_tryOut_X1_goOnFor
theorem dX2_tryOut_0 : decode cX2_tryOut 0 = .ok (.aload_n 0, 1) := by decide +kernel
theorem dX2_tryOut_1 : decode cX2_tryOut 1 = .ok (.getfield 16, 3) := by decide +kernel
theorem dX2_tryOut_4 : decode cX2_tryOut 4 = .ok (.aload_n 0, 1) := by decide +kernel
theorem dX2_tryOut_5 : decode cX2_tryOut 5 = .ok (.getfield 12, 3) := by decide +kernel
theorem dX2_tryOut_8 : decode cX2_tryOut 8 = .ok (.invokevirtual 168, 3) := by decide +kernel
theorem dX2_tryOut_11 : decode cX2_tryOut 11 = .ok (.aload_n 0, 1) := by decide +kernel
theorem dX2_tryOut_12 : decode cX2_tryOut 12 = .ok (.getfield 16, 3) := by decide +kernel
theorem dX2_tryOut_15 : decode cX2_tryOut 15 = .ok (.iload_n 2, 1) := by decide +kernel
theorem dX2_tryOut_16 : decode cX2_tryOut 16 = .ok (.putfield 119, 3) := by decide +kernel
theorem dX2_tryOut_19 : decode cX2_tryOut 19 = .ok (.aload_n 0, 1) := by decide +kernel
theorem dX2_tryOut_20 : decode cX2_tryOut 20 = .ok (.getfield 16, 3) := by decide +kernel
theorem dX2_tryOut_23 : decode cX2_tryOut 23 = .ok (.iload_n 1, 1) := by decide +kernel
theorem dX2_tryOut_24 : decode cX2_tryOut 24 = .ok (.invokevirtual 127, 3) := by decide +kernel
theorem dX2_tryOut_27 : decode cX2_tryOut 27 = .ok (.pop, 1) := by decide +kernel
theorem dX2_tryOut_28 : decode cX2_tryOut 28 = .ok (.return_, 1) := by decide +kernel
set_option maxRecDepth 20000 in
theorem ggX2_outcome_X1_teethBroken : GoodIn wsX2_outcome wsX1_teethBroken := goodIn_r _ [7, 8, 9, 10, 11, 12, 13, 14, 15, 26, 27, 28, 29, 30, 31, 32, 33, 34, 35, 36, 37, 38, 39, 40, 41, 42] rfl (by decide +kernel)
set_option maxRecDepth 20000 in
theorem gX2_outcome_X1_teethBroken : GoodIn wsX2_outcome (wsV RX2 294 RX1 yX1_teethBroken wsX1_teethBroken) := goodIn_app (goodIn_r _ [3, 4, 5, 6] rfl (by decide +kernel)) ggX2_outcome_X1_teethBroken
theorem dX2_outcome_0 : decode cX2_outcome 0 = .ok (.iload_n 1, 1) := by decide +kernel
theorem dX2_outcome_1 : decode cX2_outcome 1 = .ok (.tableswitch 95 0 3 #[31, 47, 63, 79], 31) := by decide +kernel
theorem dX2_outcome_32 : decode cX2_outcome 32 = .ok (.aload_n 0, 1) := by decide +kernel
theorem dX2_outcome_33 : decode cX2_outcome 33 = .ok (.getfield 16, 3) := by decide +kernel
theorem dX2_outcome_36 : decode cX2_outcome 36 = .ok (.getfield 282, 3) := by decide +kernel
theorem dX2_outcome_39 : decode cX2_outcome 39 = .ok (.aload_n 0, 1) := by decide +kernel
theorem dX2_outcome_40 : decode cX2_outcome 40 = .ok (.getfield 12, 3) := by decide +kernel
theorem dX2_outcome_43 : decode cX2_outcome 43 = .ok (.getfield 282, 3) := by decide +kernel
theorem dX2_outcome_46 : decode cX2_outcome 46 = .ok (.isub, 1) := by decide +kernel
theorem dX2_outcome_47 : decode cX2_outcome 47 = .ok (.ireturn, 1) := by decide +kernel
theorem dX2_outcome_48 : decode cX2_outcome 48 = .ok (.aload_n 0, 1) := by decide +kernel
theorem dX2_outcome_49 : decode cX2_outcome 49 = .ok (.getfield 16, 3) := by decide +kernel
theorem dX2_outcome_52 : decode cX2_outcome 52 = .ok (.getfield 285, 3) := by decide +kernel
theorem dX2_outcome_55 : decode cX2_outcome 55 = .ok (.aload_n 0, 1) := by decide +kernel
theorem dX2_outcome_56 : decode cX2_outcome 56 = .ok (.getfield 12, 3) := by decide +kernel
theorem dX2_outcome_59 : decode cX2_outcome 59 = .ok (.getfield 285, 3) := by decide +kernel
theorem dX2_outcome_62 : decode cX2_outcome 62 = .ok (.isub, 1) := by decide +kernel
theorem dX2_outcome_63 : decode cX2_outcome 63 = .ok (.ireturn, 1) := by decide +kernel
theorem dX2_outcome_64 : decode cX2_outcome 64 = .ok (.aload_n 0, 1) := by decide +kernel
theorem dX2_outcome_65 : decode cX2_outcome 65 = .ok (.getfield 16, 3) := by decide +kernel
theorem dX2_outcome_68 : decode cX2_outcome 68 = .ok (.getfield 288, 3) := by decide +kernel
theorem dX2_outcome_71 : decode cX2_outcome 71 = .ok (.aload_n 0, 1) := by decide +kernel
theorem dX2_outcome_72 : decode cX2_outcome 72 = .ok (.getfield 12, 3) := by decide +kernel
theorem dX2_outcome_75 : decode cX2_outcome 75 = .ok (.getfield 288, 3) := by decide +kernel
theorem dX2_outcome_78 : decode cX2_outcome 78 = .ok (.isub, 1) := by decide +kernel
theorem dX2_outcome_79 : decode cX2_outcome 79 = .ok (.ireturn, 1) := by decide +kernel
theorem dX2_outcome_80 : decode cX2_outcome 80 = .ok (.aload_n 0, 1) := by decide +kernel
theorem dX2_outcome_81 : decode cX2_outcome 81 = .ok (.getfield 16, 3) := by decide +kernel
theorem dX2_outcome_84 : decode cX2_outcome 84 = .ok (.getfield 291, 3) := by decide +kernel
theorem dX2_outcome_87 : decode cX2_outcome 87 = .ok (.aload_n 0, 1) := by decide +kernel
theorem dX2_outcome_88 : decode cX2_outcome 88 = .ok (.getfield 12, 3) := by decide +kernel
theorem dX2_outcome_91 : decode cX2_outcome 91 = .ok (.getfield 291, 3) := by decide +kernel
theorem dX2_outcome_94 : decode cX2_outcome 94 = .ok (.isub, 1) := by decide +kernel
theorem dX2_outcome_95 : decode cX2_outcome 95 = .ok (.ireturn, 1) := by decide +kernel
theorem dX2_outcome_96 : decode cX2_outcome 96 = .ok (.aload_n 0, 1) := by decide +kernel
theorem dX2_outcome_97 : decode cX2_outcome 97 = .ok (.getfield 16, 3) := by decide +kernel
theorem dX2_outcome_100 : decode cX2_outcome 100 = .ok (.invokevirtual 294, 3) := by decide +kernel
theorem dX2_outcome_103 : decode cX2_outcome 103 = .ok (.aload_n 0, 1) := by decide +kernel
theorem dX2_outcome_104 : decode cX2_outcome 104 = .ok (.getfield 12, 3) := by decide +kernel
theorem dX2_outcome_107 : decode cX2_outcome 107 = .ok (.invokevirtual 294, 3) := by decide +kernel
theorem dX2_outcome_110 : decode cX2_outcome 110 = .ok (.isub, 1) := by decide +kernel
theorem dX2_outcome_111 : decode cX2_outcome 111 = .ok (.ireturn, 1) := by decide +kernel
set_option maxRecDepth 20000 in
theorem ggX2_numberNow_X1_numberOfState : GoodIn wsX2_numberNow wsX1_numberOfState := goodIn_r _ [7, 8, 9, 10, 11, 12, 13, 14, 15, 16, 17, 18, 19, 20, 6, 21, 22, 23, 24, 25, 26, 27, 28, 29, 30, 31, 32, 33, 34, 35, 36, 37, 38, 39, 40, 41, 42, 43, 44, 45, 46, 47, 48, 49, 50, 51, 52, 53, 54, 55, 56, 57, 58, 59, 70, 71, 72, 73, 74, 75, 76, 77, 78, 79, 80, 81, 82, 83, 84, 85, 86] rfl (by decide +kernel)
set_option maxRecDepth 20000 in
theorem gX2_numberNow_X1_numberOfState : GoodIn wsX2_numberNow (wsV RX2 297 RX1 yX1_numberOfState wsX1_numberOfState) := goodIn_app (goodIn_r _ [3, 4, 5, 6] rfl (by decide +kernel)) ggX2_numberNow_X1_numberOfState
theorem dX2_numberNow_0 : decode cX2_numberNow 0 = .ok (.iload_n 1, 1) := by decide +kernel
theorem dX2_numberNow_1 : decode cX2_numberNow 1 = .ok (.bipush 17, 2) := by decide +kernel
theorem dX2_numberNow_3 : decode cX2_numberNow 3 = .ok (.if_icmp .ne 10, 3) := by decide +kernel
theorem dX2_numberNow_6 : decode cX2_numberNow 6 = .ok (.aload_n 0, 1) := by decide +kernel
theorem dX2_numberNow_7 : decode cX2_numberNow 7 = .ok (.getfield 34, 3) := by decide +kernel
theorem dX2_numberNow_10 : decode cX2_numberNow 10 = .ok (.goto 11, 3) := by decide +kernel
theorem dX2_numberNow_13 : decode cX2_numberNow 13 = .ok (.aload_n 0, 1) := by decide +kernel
theorem dX2_numberNow_14 : decode cX2_numberNow 14 = .ok (.getfield 12, 3) := by decide +kernel
theorem dX2_numberNow_17 : decode cX2_numberNow 17 = .ok (.iload_n 1, 1) := by decide +kernel
theorem dX2_numberNow_18 : decode cX2_numberNow 18 = .ok (.invokevirtual 297, 3) := by decide +kernel
theorem dX2_numberNow_21 : decode cX2_numberNow 21 = .ok (.ireturn, 1) := by decide +kernel
theorem dX2_cleanShare_0 : decode cX2_cleanShare 0 = .ok (.aload_n 0, 1) := by decide +kernel
theorem dX2_cleanShare_1 : decode cX2_cleanShare 1 = .ok (.getfield 12, 3) := by decide +kernel
theorem dX2_cleanShare_4 : decode cX2_cleanShare 4 = .ok (.getfield 285, 3) := by decide +kernel
theorem dX2_cleanShare_7 : decode cX2_cleanShare 7 = .ok (.ifCond .gt 5, 3) := by decide +kernel
theorem dX2_cleanShare_10 : decode cX2_cleanShare 10 = .ok (.dconst 1, 1) := by decide +kernel
theorem dX2_cleanShare_11 : decode cX2_cleanShare 11 = .ok (.dreturn, 1) := by decide +kernel
theorem dX2_cleanShare_12 : decode cX2_cleanShare 12 = .ok (.iconst 0, 1) := by decide +kernel
theorem dX2_cleanShare_13 : decode cX2_cleanShare 13 = .ok (.aload_n 0, 1) := by decide +kernel
theorem dX2_cleanShare_14 : decode cX2_cleanShare 14 = .ok (.getfield 12, 3) := by decide +kernel
theorem dX2_cleanShare_17 : decode cX2_cleanShare 17 = .ok (.getfield 285, 3) := by decide +kernel
theorem dX2_cleanShare_20 : decode cX2_cleanShare 20 = .ok (.aload_n 0, 1) := by decide +kernel
theorem dX2_cleanShare_21 : decode cX2_cleanShare 21 = .ok (.getfield 12, 3) := by decide +kernel
theorem dX2_cleanShare_24 : decode cX2_cleanShare 24 = .ok (.getfield 288, 3) := by decide +kernel
theorem dX2_cleanShare_27 : decode cX2_cleanShare 27 = .ok (.isub, 1) := by decide +kernel
theorem dX2_cleanShare_28 : decode cX2_cleanShare 28 = .ok (.invokestatic 300, 3) := by decide +kernel
theorem dX2_cleanShare_31 : decode cX2_cleanShare 31 = .ok (.i2d, 1) := by decide +kernel
theorem dX2_cleanShare_32 : decode cX2_cleanShare 32 = .ok (.aload_n 0, 1) := by decide +kernel
theorem dX2_cleanShare_33 : decode cX2_cleanShare 33 = .ok (.getfield 12, 3) := by decide +kernel
theorem dX2_cleanShare_36 : decode cX2_cleanShare 36 = .ok (.getfield 285, 3) := by decide +kernel
theorem dX2_cleanShare_39 : decode cX2_cleanShare 39 = .ok (.i2d, 1) := by decide +kernel
theorem dX2_cleanShare_40 : decode cX2_cleanShare 40 = .ok (.ddiv, 1) := by decide +kernel
theorem dX2_cleanShare_41 : decode cX2_cleanShare 41 = .ok (.dreturn, 1) := by decide +kernel
