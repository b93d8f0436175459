theorem dX0_init_0 : decode cX0_init 0 = .ok (.aload_n 0, 1) := by decide +kernel
theorem dX0_init_1 : decode cX0_init 1 = .ok (.invokespecial 3, 3) := by decide +kernel
theorem dX0_init_4 : decode cX0_init 4 = .ok (.aload_n 0, 1) := by decide +kernel
theorem dX0_init_5 : decode cX0_init 5 = .ok (.iconst 0, 1) := by decide +kernel
theorem dX0_init_6 : decode cX0_init 6 = .ok (.putfield 11, 3) := by decide +kernel
theorem dX0_init_9 : decode cX0_init 9 = .ok (.aload_n 0, 1) := by decide +kernel
theorem dX0_init_10 : decode cX0_init 10 = .ok (.iconst 0, 1) := by decide +kernel
theorem dX0_init_11 : decode cX0_init 11 = .ok (.putfield 15, 3) := by decide +kernel
theorem dX0_init_14 : decode cX0_init 14 = .ok (.aload_n 0, 1) := by decide +kernel
theorem dX0_init_15 : decode cX0_init 15 = .ok (.iconst 0, 1) := by decide +kernel
theorem dX0_init_16 : decode cX0_init 16 = .ok (.putfield 18, 3) := by decide +kernel
theorem dX0_init_19 : decode cX0_init 19 = .ok (.aload_n 0, 1) := by decide +kernel
theorem dX0_init_20 : decode cX0_init 20 = .ok (.iconst 0, 1) := by decide +kernel
theorem dX0_init_21 : decode cX0_init 21 = .ok (.putfield 21, 3) := by decide +kernel
theorem dX0_init_24 : decode cX0_init 24 = .ok (.aload_n 0, 1) := by decide +kernel
theorem dX0_init_25 : decode cX0_init 25 = .ok (.iconst 0, 1) := by decide +kernel
theorem dX0_init_26 : decode cX0_init 26 = .ok (.putfield 24, 3) := by decide +kernel
theorem dX0_init_29 : decode cX0_init 29 = .ok (.return_, 1) := by decide +kernel
theorem dX0_start_0 : decode cX0_start 0 = .ok (.aload_n 0, 1) := by decide +kernel
theorem dX0_start_1 : decode cX0_start 1 = .ok (.iconst 0, 1) := by decide +kernel
theorem dX0_start_2 : decode cX0_start 2 = .ok (.putfield 11, 3) := by decide +kernel
theorem dX0_start_5 : decode cX0_start 5 = .ok (.return_, 1) := by decide +kernel
theorem dX0_isSeparator_0 : decode cX0_isSeparator 0 = .ok (.iload_n 0, 1) := by decide +kernel
theorem dX0_isSeparator_1 : decode cX0_isSeparator 1 = .ok (.bipush 44, 2) := by decide +kernel
theorem dX0_isSeparator_3 : decode cX0_isSeparator 3 = .ok (.if_icmp .eq 9, 3) := by decide +kernel
theorem dX0_isSeparator_6 : decode cX0_isSeparator 6 = .ok (.iload_n 0, 1) := by decide +kernel
theorem dX0_isSeparator_7 : decode cX0_isSeparator 7 = .ok (.bipush 59, 2) := by decide +kernel
theorem dX0_isSeparator_9 : decode cX0_isSeparator 9 = .ok (.if_icmp .ne 7, 3) := by decide +kernel
theorem dX0_isSeparator_12 : decode cX0_isSeparator 12 = .ok (.iconst 1, 1) := by decide +kernel
theorem dX0_isSeparator_13 : decode cX0_isSeparator 13 = .ok (.goto 4, 3) := by decide +kernel
theorem dX0_isSeparator_16 : decode cX0_isSeparator 16 = .ok (.iconst 0, 1) := by decide +kernel
theorem dX0_isSeparator_17 : decode cX0_isSeparator 17 = .ok (.ireturn, 1) := by decide +kernel
set_option maxRecDepth 20000 in
theorem ggX0_accepts_X0_acceptsTune : GoodIn wsX0_accepts wsX0_acceptsTune := goodIn_r _ [6, 7, 8, 9, 5, 10, 11, 12, 13, 14, 1, 63, 64, 65, 66, 67] rfl (by decide +kernel)
set_option maxRecDepth 20000 in
theorem gX0_accepts_X0_acceptsTune : GoodIn wsX0_accepts (wsV RX0 27 RX0 yX0_acceptsTune wsX0_acceptsTune) := goodIn_app (goodIn_r _ [2, 3, 4, 5] rfl (by decide +kernel)) ggX0_accepts_X0_acceptsTune
set_option maxRecDepth 20000 in
theorem ggX0_accepts_X0_goTo : GoodIn wsX0_accepts wsX0_goTo := goodIn_r _ [14, 1, 63, 64, 65, 66, 67] rfl (by decide +kernel)
set_option maxRecDepth 20000 in
theorem gX0_accepts_X0_goTo : GoodIn wsX0_accepts (wsV RX0 31 RX0 yX0_goTo wsX0_goTo) := goodIn_app (goodIn_r _ [11, 12, 13, 5] rfl (by decide +kernel)) ggX0_accepts_X0_goTo
set_option maxRecDepth 20000 in
theorem ggX0_accepts_X0_acceptsToothDigit : GoodIn wsX0_accepts wsX0_acceptsToothDigit := goodIn_r _ [18, 19, 8, 9, 5, 10, 11, 12, 13, 14, 1, 63, 64, 65, 66, 67] rfl (by decide +kernel)
set_option maxRecDepth 20000 in
theorem gX0_accepts_X0_acceptsToothDigit : GoodIn wsX0_accepts (wsV RX0 35 RX0 yX0_acceptsToothDigit wsX0_acceptsToothDigit) := goodIn_app (goodIn_r _ [15, 16, 17, 5] rfl (by decide +kernel)) ggX0_accepts_X0_acceptsToothDigit
set_option maxRecDepth 20000 in
theorem ggX0_accepts_X0_acceptsToothEnd : GoodIn wsX0_accepts wsX0_acceptsToothEnd := goodIn_r _ [23, 19, 24, 25, 5, 26, 8, 9, 10, 63, 64, 65, 66, 67] rfl (by decide +kernel)
set_option maxRecDepth 20000 in
theorem gX0_accepts_X0_acceptsToothEnd : GoodIn wsX0_accepts (wsV RX0 38 RX0 yX0_acceptsToothEnd wsX0_acceptsToothEnd) := goodIn_app (goodIn_r _ [20, 21, 22, 5] rfl (by decide +kernel)) ggX0_accepts_X0_acceptsToothEnd
set_option maxRecDepth 20000 in
theorem ggX0_accepts_X0_acceptsStepDigit : GoodIn wsX0_accepts wsX0_acceptsStepDigit := goodIn_r _ [30, 31, 8, 9, 5, 10, 11, 12, 13, 14, 1, 63, 64, 65, 66, 67] rfl (by decide +kernel)
set_option maxRecDepth 20000 in
theorem gX0_accepts_X0_acceptsStepDigit : GoodIn wsX0_accepts (wsV RX0 41 RX0 yX0_acceptsStepDigit wsX0_acceptsStepDigit) := goodIn_app (goodIn_r _ [27, 28, 29, 5] rfl (by decide +kernel)) ggX0_accepts_X0_acceptsStepDigit
set_option maxRecDepth 20000 in
theorem ggX0_accepts_X0_acceptsBehindStep : GoodIn wsX0_accepts wsX0_acceptsBehindStep := goodIn_r _ [35, 31, 36, 37, 5, 38, 39, 40, 41, 42, 11, 12, 13, 14, 1, 43, 44, 45, 46, 47, 24, 25, 26, 8, 9, 10, 63, 64, 65, 66, 67] rfl (by decide +kernel)
set_option maxRecDepth 20000 in
theorem gX0_accepts_X0_acceptsBehindStep : GoodIn wsX0_accepts (wsV RX0 44 RX0 yX0_acceptsBehindStep wsX0_acceptsBehindStep) := goodIn_app (goodIn_r _ [32, 33, 34, 5] rfl (by decide +kernel)) ggX0_accepts_X0_acceptsBehindStep
set_option maxRecDepth 20000 in
theorem ggX0_accepts_X0_acceptsRangeEndDigit : GoodIn wsX0_accepts wsX0_acceptsRangeEndDigit := goodIn_r _ [51, 47, 31, 8, 9, 5, 10, 52, 53, 54, 55, 56, 57, 58, 11, 12, 13, 14, 1, 63, 64, 65, 66, 67] rfl (by decide +kernel)
set_option maxRecDepth 20000 in
theorem gX0_accepts_X0_acceptsRangeEndDigit : GoodIn wsX0_accepts (wsV RX0 47 RX0 yX0_acceptsRangeEndDigit wsX0_acceptsRangeEndDigit) := goodIn_app (goodIn_r _ [48, 49, 50, 5] rfl (by decide +kernel)) ggX0_accepts_X0_acceptsRangeEndDigit
set_option maxRecDepth 20000 in
theorem ggX0_accepts_X0_acceptsBehindRangeEnd : GoodIn wsX0_accepts wsX0_acceptsBehindRangeEnd := goodIn_r _ [62, 31, 47, 36, 37, 5, 38, 39, 40, 41, 42, 11, 12, 13, 14, 1, 24, 25, 26, 8, 9, 10, 63, 64, 65, 66, 67] rfl (by decide +kernel)
set_option maxRecDepth 20000 in
theorem gX0_accepts_X0_acceptsBehindRangeEnd : GoodIn wsX0_accepts (wsV RX0 50 RX0 yX0_acceptsBehindRangeEnd wsX0_acceptsBehindRangeEnd) := goodIn_app (goodIn_r _ [59, 60, 61, 5] rfl (by decide +kernel)) ggX0_accepts_X0_acceptsBehindRangeEnd
theorem dX0_accepts_0 : decode cX0_accepts 0 = .ok (.aload_n 0, 1) := by decide +kernel
theorem dX0_accepts_1 : decode cX0_accepts 1 = .ok (.getfield 11, 3) := by decide +kernel
theorem dX0_accepts_4 : decode cX0_accepts 4 = .ok (.tableswitch 114 0 6 #[44, 50, 70, 76, 96, 102, 108], 44) := by decide +kernel
theorem dX0_accepts_48 : decode cX0_accepts 48 = .ok (.aload_n 0, 1) := by decide +kernel
theorem dX0_accepts_49 : decode cX0_accepts 49 = .ok (.iload_n 1, 1) := by decide +kernel
theorem dX0_accepts_50 : decode cX0_accepts 50 = .ok (.invokevirtual 27, 3) := by decide +kernel
theorem dX0_accepts_53 : decode cX0_accepts 53 = .ok (.ireturn, 1) := by decide +kernel
theorem dX0_accepts_54 : decode cX0_accepts 54 = .ok (.iload_n 1, 1) := by decide +kernel
theorem dX0_accepts_55 : decode cX0_accepts 55 = .ok (.bipush 47, 2) := by decide +kernel
theorem dX0_accepts_57 : decode cX0_accepts 57 = .ok (.if_icmp .ne 15, 3) := by decide +kernel
theorem dX0_accepts_60 : decode cX0_accepts 60 = .ok (.aload_n 0, 1) := by decide +kernel
theorem dX0_accepts_61 : decode cX0_accepts 61 = .ok (.iconst 2, 1) := by decide +kernel
theorem dX0_accepts_62 : decode cX0_accepts 62 = .ok (.invokevirtual 31, 3) := by decide +kernel
theorem dX0_accepts_65 : decode cX0_accepts 65 = .ok (.ifCond .eq 7, 3) := by decide +kernel
theorem dX0_accepts_68 : decode cX0_accepts 68 = .ok (.iconst 1, 1) := by decide +kernel
theorem dX0_accepts_69 : decode cX0_accepts 69 = .ok (.goto 4, 3) := by decide +kernel
theorem dX0_accepts_72 : decode cX0_accepts 72 = .ok (.iconst 0, 1) := by decide +kernel
theorem dX0_accepts_73 : decode cX0_accepts 73 = .ok (.ireturn, 1) := by decide +kernel
theorem dX0_accepts_74 : decode cX0_accepts 74 = .ok (.aload_n 0, 1) := by decide +kernel
theorem dX0_accepts_75 : decode cX0_accepts 75 = .ok (.iload_n 1, 1) := by decide +kernel
theorem dX0_accepts_76 : decode cX0_accepts 76 = .ok (.invokevirtual 35, 3) := by decide +kernel
theorem dX0_accepts_79 : decode cX0_accepts 79 = .ok (.ireturn, 1) := by decide +kernel
theorem dX0_accepts_80 : decode cX0_accepts 80 = .ok (.iload_n 1, 1) := by decide +kernel
theorem dX0_accepts_81 : decode cX0_accepts 81 = .ok (.bipush 58, 2) := by decide +kernel
theorem dX0_accepts_83 : decode cX0_accepts 83 = .ok (.if_icmp .ne 11, 3) := by decide +kernel
theorem dX0_accepts_86 : decode cX0_accepts 86 = .ok (.aload_n 0, 1) := by decide +kernel
theorem dX0_accepts_87 : decode cX0_accepts 87 = .ok (.iconst 4, 1) := by decide +kernel
theorem dX0_accepts_88 : decode cX0_accepts 88 = .ok (.invokevirtual 31, 3) := by decide +kernel
theorem dX0_accepts_91 : decode cX0_accepts 91 = .ok (.goto 8, 3) := by decide +kernel
theorem dX0_accepts_94 : decode cX0_accepts 94 = .ok (.aload_n 0, 1) := by decide +kernel
theorem dX0_accepts_95 : decode cX0_accepts 95 = .ok (.iload_n 1, 1) := by decide +kernel
theorem dX0_accepts_96 : decode cX0_accepts 96 = .ok (.invokevirtual 38, 3) := by decide +kernel
theorem dX0_accepts_99 : decode cX0_accepts 99 = .ok (.ireturn, 1) := by decide +kernel
theorem dX0_accepts_100 : decode cX0_accepts 100 = .ok (.aload_n 0, 1) := by decide +kernel
theorem dX0_accepts_101 : decode cX0_accepts 101 = .ok (.iload_n 1, 1) := by decide +kernel
theorem dX0_accepts_102 : decode cX0_accepts 102 = .ok (.invokevirtual 41, 3) := by decide +kernel
theorem dX0_accepts_105 : decode cX0_accepts 105 = .ok (.ireturn, 1) := by decide +kernel
theorem dX0_accepts_106 : decode cX0_accepts 106 = .ok (.aload_n 0, 1) := by decide +kernel
theorem dX0_accepts_107 : decode cX0_accepts 107 = .ok (.iload_n 1, 1) := by decide +kernel
theorem dX0_accepts_108 : decode cX0_accepts 108 = .ok (.invokevirtual 44, 3) := by decide +kernel
theorem dX0_accepts_111 : decode cX0_accepts 111 = .ok (.ireturn, 1) := by decide +kernel
theorem dX0_accepts_112 : decode cX0_accepts 112 = .ok (.aload_n 0, 1) := by decide +kernel
theorem dX0_accepts_113 : decode cX0_accepts 113 = .ok (.iload_n 1, 1) := by decide +kernel
theorem dX0_accepts_114 : decode cX0_accepts 114 = .ok (.invokevirtual 47, 3) := by decide +kernel
theorem dX0_accepts_117 : decode cX0_accepts 117 = .ok (.ireturn, 1) := by decide +kernel
theorem dX0_accepts_118 : decode cX0_accepts 118 = .ok (.aload_n 0, 1) := by decide +kernel
theorem dX0_accepts_119 : decode cX0_accepts 119 = .ok (.iload_n 1, 1) := by decide +kernel
theorem dX0_accepts_120 : decode cX0_accepts 120 = .ok (.invokevirtual 50, 3) := by decide +kernel
theorem dX0_accepts_123 : decode cX0_accepts 123 = .ok (.ireturn, 1) := by decide +kernel
theorem dX0_isComplete_0 : decode cX0_isComplete 0 = .ok (.aload_n 0, 1) := by decide +kernel
theorem dX0_isComplete_1 : decode cX0_isComplete 1 = .ok (.getfield 11, 3) := by decide +kernel
theorem dX0_isComplete_4 : decode cX0_isComplete 4 = .ok (.iconst 5, 1) := by decide +kernel
theorem dX0_isComplete_5 : decode cX0_isComplete 5 = .ok (.if_icmp .eq 23, 3) := by decide +kernel
theorem dX0_isComplete_8 : decode cX0_isComplete 8 = .ok (.aload_n 0, 1) := by decide +kernel
theorem dX0_isComplete_9 : decode cX0_isComplete 9 = .ok (.getfield 11, 3) := by decide +kernel
theorem dX0_isComplete_12 : decode cX0_isComplete 12 = .ok (.bipush 7, 2) := by decide +kernel
theorem dX0_isComplete_14 : decode cX0_isComplete 14 = .ok (.if_icmp .ne 18, 3) := by decide +kernel
theorem dX0_isComplete_17 : decode cX0_isComplete 17 = .ok (.aload_n 0, 1) := by decide +kernel
theorem dX0_isComplete_18 : decode cX0_isComplete 18 = .ok (.getfield 24, 3) := by decide +kernel
theorem dX0_isComplete_21 : decode cX0_isComplete 21 = .ok (.aload_n 0, 1) := by decide +kernel
theorem dX0_isComplete_22 : decode cX0_isComplete 22 = .ok (.getfield 21, 3) := by decide +kernel
theorem dX0_isComplete_25 : decode cX0_isComplete 25 = .ok (.if_icmp .le 7, 3) := by decide +kernel
theorem dX0_isComplete_28 : decode cX0_isComplete 28 = .ok (.iconst 1, 1) := by decide +kernel
theorem dX0_isComplete_29 : decode cX0_isComplete 29 = .ok (.goto 4, 3) := by decide +kernel
theorem dX0_isComplete_32 : decode cX0_isComplete 32 = .ok (.iconst 0, 1) := by decide +kernel
theorem dX0_isComplete_33 : decode cX0_isComplete 33 = .ok (.ireturn, 1) := by decide +kernel
theorem dX0_rangeStart_0 : decode cX0_rangeStart 0 = .ok (.aload_n 0, 1) := by decide +kernel
theorem dX0_rangeStart_1 : decode cX0_rangeStart 1 = .ok (.getfield 11, 3) := by decide +kernel
theorem dX0_rangeStart_4 : decode cX0_rangeStart 4 = .ok (.bipush 7, 2) := by decide +kernel
theorem dX0_rangeStart_6 : decode cX0_rangeStart 6 = .ok (.if_icmp .ne 10, 3) := by decide +kernel
theorem dX0_rangeStart_9 : decode cX0_rangeStart 9 = .ok (.aload_n 0, 1) := by decide +kernel
theorem dX0_rangeStart_10 : decode cX0_rangeStart 10 = .ok (.getfield 21, 3) := by decide +kernel
theorem dX0_rangeStart_13 : decode cX0_rangeStart 13 = .ok (.goto 7, 3) := by decide +kernel
theorem dX0_rangeStart_16 : decode cX0_rangeStart 16 = .ok (.aload_n 0, 1) := by decide +kernel
theorem dX0_rangeStart_17 : decode cX0_rangeStart 17 = .ok (.getfield 24, 3) := by decide +kernel
theorem dX0_rangeStart_20 : decode cX0_rangeStart 20 = .ok (.ireturn, 1) := by decide +kernel
theorem dX0_goTo_0 : decode cX0_goTo 0 = .ok (.aload_n 0, 1) := by decide +kernel
theorem dX0_goTo_1 : decode cX0_goTo 1 = .ok (.iload_n 1, 1) := by decide +kernel
theorem dX0_goTo_2 : decode cX0_goTo 2 = .ok (.putfield 11, 3) := by decide +kernel
theorem dX0_goTo_5 : decode cX0_goTo 5 = .ok (.iconst 1, 1) := by decide +kernel
theorem dX0_goTo_6 : decode cX0_goTo 6 = .ok (.ireturn, 1) := by decide +kernel
theorem dX0_digitOf_0 : decode cX0_digitOf 0 = .ok (.iload_n 0, 1) := by decide +kernel
theorem dX0_digitOf_1 : decode cX0_digitOf 1 = .ok (.bipush 48, 2) := by decide +kernel
theorem dX0_digitOf_3 : decode cX0_digitOf 3 = .ok (.if_icmp .lt 16, 3) := by decide +kernel
theorem dX0_digitOf_6 : decode cX0_digitOf 6 = .ok (.iload_n 0, 1) := by decide +kernel
theorem dX0_digitOf_7 : decode cX0_digitOf 7 = .ok (.bipush 57, 2) := by decide +kernel
theorem dX0_digitOf_9 : decode cX0_digitOf 9 = .ok (.if_icmp .gt 10, 3) := by decide +kernel
theorem dX0_digitOf_12 : decode cX0_digitOf 12 = .ok (.iload_n 0, 1) := by decide +kernel
theorem dX0_digitOf_13 : decode cX0_digitOf 13 = .ok (.bipush 48, 2) := by decide +kernel
theorem dX0_digitOf_15 : decode cX0_digitOf 15 = .ok (.isub, 1) := by decide +kernel
theorem dX0_digitOf_16 : decode cX0_digitOf 16 = .ok (.goto 4, 3) := by decide +kernel
theorem dX0_digitOf_19 : decode cX0_digitOf 19 = .ok (.iconst (-1), 1) := by decide +kernel
theorem dX0_digitOf_20 : decode cX0_digitOf 20 = .ok (.ireturn, 1) := by decide +kernel
set_option maxRecDepth 20000 in
theorem ggX0_acceptsTune_X0_digitOf : GoodIn wsX0_acceptsTune wsX0_digitOf := goodIn_r _ [5] rfl (by decide +kernel)
set_option maxRecDepth 20000 in
theorem gX0_acceptsTune_X0_digitOf : GoodIn wsX0_acceptsTune (va_wsS RX0 53 yX0_digitOf wsX0_digitOf) := goodIn_app (goodIn_r _ [2, 3, 4] rfl (by decide +kernel)) ggX0_acceptsTune_X0_digitOf
set_option maxRecDepth 20000 in
theorem ggX0_acceptsTune_X0_goTo : GoodIn wsX0_acceptsTune wsX0_goTo := goodIn_r _ [9, 10, 11, 12, 13, 14, 15] rfl (by decide +kernel)
set_option maxRecDepth 20000 in
theorem gX0_acceptsTune_X0_goTo : GoodIn wsX0_acceptsTune (wsV RX0 31 RX0 yX0_goTo wsX0_goTo) := goodIn_app (goodIn_r _ [6, 7, 8, 4] rfl (by decide +kernel)) ggX0_acceptsTune_X0_goTo
theorem dX0_acceptsTune_0 : decode cX0_acceptsTune 0 = .ok (.iload_n 1, 1) := by decide +kernel
theorem dX0_acceptsTune_1 : decode cX0_acceptsTune 1 = .ok (.invokestatic 53, 3) := by decide +kernel
theorem dX0_acceptsTune_4 : decode cX0_acceptsTune 4 = .ok (.istore_n 2, 1) := by decide +kernel
theorem dX0_acceptsTune_5 : decode cX0_acceptsTune 5 = .ok (.iload_n 2, 1) := by decide +kernel
theorem dX0_acceptsTune_6 : decode cX0_acceptsTune 6 = .ok (.ifCond .lt 8, 3) := by decide +kernel
theorem dX0_acceptsTune_9 : decode cX0_acceptsTune 9 = .ok (.iload_n 2, 1) := by decide +kernel
theorem dX0_acceptsTune_10 : decode cX0_acceptsTune 10 = .ok (.iconst 3, 1) := by decide +kernel
theorem dX0_acceptsTune_11 : decode cX0_acceptsTune 11 = .ok (.if_icmp .lt 5, 3) := by decide +kernel
theorem dX0_acceptsTune_14 : decode cX0_acceptsTune 14 = .ok (.iconst 0, 1) := by decide +kernel
theorem dX0_acceptsTune_15 : decode cX0_acceptsTune 15 = .ok (.ireturn, 1) := by decide +kernel
theorem dX0_acceptsTune_16 : decode cX0_acceptsTune 16 = .ok (.aload_n 0, 1) := by decide +kernel
theorem dX0_acceptsTune_17 : decode cX0_acceptsTune 17 = .ok (.iload_n 2, 1) := by decide +kernel
theorem dX0_acceptsTune_18 : decode cX0_acceptsTune 18 = .ok (.putfield 15, 3) := by decide +kernel
theorem dX0_acceptsTune_21 : decode cX0_acceptsTune 21 = .ok (.aload_n 0, 1) := by decide +kernel
theorem dX0_acceptsTune_22 : decode cX0_acceptsTune 22 = .ok (.iconst 1, 1) := by decide +kernel
theorem dX0_acceptsTune_23 : decode cX0_acceptsTune 23 = .ok (.invokevirtual 31, 3) := by decide +kernel
theorem dX0_acceptsTune_26 : decode cX0_acceptsTune 26 = .ok (.ireturn, 1) := by decide +kernel
set_option maxRecDepth 20000 in
theorem ggX0_acceptsToothDigit_X0_digitOf : GoodIn wsX0_acceptsToothDigit wsX0_digitOf := goodIn_r _ [5] rfl (by decide +kernel)
set_option maxRecDepth 20000 in
theorem gX0_acceptsToothDigit_X0_digitOf : GoodIn wsX0_acceptsToothDigit (va_wsS RX0 53 yX0_digitOf wsX0_digitOf) := goodIn_app (goodIn_r _ [2, 3, 4] rfl (by decide +kernel)) ggX0_acceptsToothDigit_X0_digitOf
set_option maxRecDepth 20000 in
theorem ggX0_acceptsToothDigit_X0_goTo : GoodIn wsX0_acceptsToothDigit wsX0_goTo := goodIn_r _ [9, 10, 11, 12, 13, 14, 15] rfl (by decide +kernel)
set_option maxRecDepth 20000 in
theorem gX0_acceptsToothDigit_X0_goTo : GoodIn wsX0_acceptsToothDigit (wsV RX0 31 RX0 yX0_goTo wsX0_goTo) := goodIn_app (goodIn_r _ [6, 7, 8, 4] rfl (by decide +kernel)) ggX0_acceptsToothDigit_X0_goTo
theorem dX0_acceptsToothDigit_0 : decode cX0_acceptsToothDigit 0 = .ok (.iload_n 1, 1) := by decide +kernel
theorem dX0_acceptsToothDigit_1 : decode cX0_acceptsToothDigit 1 = .ok (.invokestatic 53, 3) := by decide +kernel
theorem dX0_acceptsToothDigit_4 : decode cX0_acceptsToothDigit 4 = .ok (.istore_n 2, 1) := by decide +kernel
theorem dX0_acceptsToothDigit_5 : decode cX0_acceptsToothDigit 5 = .ok (.iload_n 2, 1) := by decide +kernel
theorem dX0_acceptsToothDigit_6 : decode cX0_acceptsToothDigit 6 = .ok (.ifCond .ge 5, 3) := by decide +kernel
theorem dX0_acceptsToothDigit_9 : decode cX0_acceptsToothDigit 9 = .ok (.iconst 0, 1) := by decide +kernel
theorem dX0_acceptsToothDigit_10 : decode cX0_acceptsToothDigit 10 = .ok (.ireturn, 1) := by decide +kernel
theorem dX0_acceptsToothDigit_11 : decode cX0_acceptsToothDigit 11 = .ok (.aload_n 0, 1) := by decide +kernel
theorem dX0_acceptsToothDigit_12 : decode cX0_acceptsToothDigit 12 = .ok (.iload_n 2, 1) := by decide +kernel
theorem dX0_acceptsToothDigit_13 : decode cX0_acceptsToothDigit 13 = .ok (.putfield 18, 3) := by decide +kernel
theorem dX0_acceptsToothDigit_16 : decode cX0_acceptsToothDigit 16 = .ok (.aload_n 0, 1) := by decide +kernel
theorem dX0_acceptsToothDigit_17 : decode cX0_acceptsToothDigit 17 = .ok (.iconst 3, 1) := by decide +kernel
theorem dX0_acceptsToothDigit_18 : decode cX0_acceptsToothDigit 18 = .ok (.invokevirtual 31, 3) := by decide +kernel
theorem dX0_acceptsToothDigit_21 : decode cX0_acceptsToothDigit 21 = .ok (.ireturn, 1) := by decide +kernel
set_option maxRecDepth 20000 in
theorem ggX0_acceptsToothEnd_X0_lengthened : GoodIn wsX0_acceptsToothEnd wsX0_lengthened := goodIn_r _ [5, 6, 7, 4, 8] rfl (by decide +kernel)
set_option maxRecDepth 20000 in
theorem gX0_acceptsToothEnd_X0_lengthened : GoodIn wsX0_acceptsToothEnd (va_wsS RX0 57 yX0_lengthened wsX0_lengthened) := goodIn_app (goodIn_r _ [2, 3, 4] rfl (by decide +kernel)) ggX0_acceptsToothEnd_X0_lengthened
theorem dX0_acceptsToothEnd_0 : decode cX0_acceptsToothEnd 0 = .ok (.aload_n 0, 1) := by decide +kernel
theorem dX0_acceptsToothEnd_1 : decode cX0_acceptsToothEnd 1 = .ok (.getfield 18, 3) := by decide +kernel
theorem dX0_acceptsToothEnd_4 : decode cX0_acceptsToothEnd 4 = .ok (.iload_n 1, 1) := by decide +kernel
theorem dX0_acceptsToothEnd_5 : decode cX0_acceptsToothEnd 5 = .ok (.invokestatic 57, 3) := by decide +kernel
theorem dX0_acceptsToothEnd_8 : decode cX0_acceptsToothEnd 8 = .ok (.istore_n 2, 1) := by decide +kernel
theorem dX0_acceptsToothEnd_9 : decode cX0_acceptsToothEnd 9 = .ok (.iload_n 2, 1) := by decide +kernel
theorem dX0_acceptsToothEnd_10 : decode cX0_acceptsToothEnd 10 = .ok (.ifCond .lt 9, 3) := by decide +kernel
theorem dX0_acceptsToothEnd_13 : decode cX0_acceptsToothEnd 13 = .ok (.iload_n 2, 1) := by decide +kernel
theorem dX0_acceptsToothEnd_14 : decode cX0_acceptsToothEnd 14 = .ok (.bipush 12, 2) := by decide +kernel
theorem dX0_acceptsToothEnd_16 : decode cX0_acceptsToothEnd 16 = .ok (.if_icmp .lt 5, 3) := by decide +kernel
theorem dX0_acceptsToothEnd_19 : decode cX0_acceptsToothEnd 19 = .ok (.iconst 0, 1) := by decide +kernel
theorem dX0_acceptsToothEnd_20 : decode cX0_acceptsToothEnd 20 = .ok (.ireturn, 1) := by decide +kernel
theorem dX0_acceptsToothEnd_21 : decode cX0_acceptsToothEnd 21 = .ok (.aload_n 0, 1) := by decide +kernel
theorem dX0_acceptsToothEnd_22 : decode cX0_acceptsToothEnd 22 = .ok (.iload_n 2, 1) := by decide +kernel
theorem dX0_acceptsToothEnd_23 : decode cX0_acceptsToothEnd 23 = .ok (.putfield 18, 3) := by decide +kernel
theorem dX0_acceptsToothEnd_26 : decode cX0_acceptsToothEnd 26 = .ok (.iconst 1, 1) := by decide +kernel
theorem dX0_acceptsToothEnd_27 : decode cX0_acceptsToothEnd 27 = .ok (.ireturn, 1) := by decide +kernel
set_option maxRecDepth 20000 in
theorem ggX0_acceptsStepDigit_X0_digitOf : GoodIn wsX0_acceptsStepDigit wsX0_digitOf := goodIn_r _ [5] rfl (by decide +kernel)
set_option maxRecDepth 20000 in
theorem gX0_acceptsStepDigit_X0_digitOf : GoodIn wsX0_acceptsStepDigit (va_wsS RX0 53 yX0_digitOf wsX0_digitOf) := goodIn_app (goodIn_r _ [2, 3, 4] rfl (by decide +kernel)) ggX0_acceptsStepDigit_X0_digitOf
set_option maxRecDepth 20000 in
theorem ggX0_acceptsStepDigit_X0_goTo : GoodIn wsX0_acceptsStepDigit wsX0_goTo := goodIn_r _ [9, 10, 11, 12, 13, 14, 15] rfl (by decide +kernel)
set_option maxRecDepth 20000 in
theorem gX0_acceptsStepDigit_X0_goTo : GoodIn wsX0_acceptsStepDigit (wsV RX0 31 RX0 yX0_goTo wsX0_goTo) := goodIn_app (goodIn_r _ [6, 7, 8, 4] rfl (by decide +kernel)) ggX0_acceptsStepDigit_X0_goTo
theorem dX0_acceptsStepDigit_0 : decode cX0_acceptsStepDigit 0 = .ok (.iload_n 1, 1) := by decide +kernel
theorem dX0_acceptsStepDigit_1 : decode cX0_acceptsStepDigit 1 = .ok (.invokestatic 53, 3) := by decide +kernel
theorem dX0_acceptsStepDigit_4 : decode cX0_acceptsStepDigit 4 = .ok (.istore_n 2, 1) := by decide +kernel
theorem dX0_acceptsStepDigit_5 : decode cX0_acceptsStepDigit 5 = .ok (.iload_n 2, 1) := by decide +kernel
theorem dX0_acceptsStepDigit_6 : decode cX0_acceptsStepDigit 6 = .ok (.ifCond .ge 5, 3) := by decide +kernel
theorem dX0_acceptsStepDigit_9 : decode cX0_acceptsStepDigit 9 = .ok (.iconst 0, 1) := by decide +kernel
theorem dX0_acceptsStepDigit_10 : decode cX0_acceptsStepDigit 10 = .ok (.ireturn, 1) := by decide +kernel
theorem dX0_acceptsStepDigit_11 : decode cX0_acceptsStepDigit 11 = .ok (.aload_n 0, 1) := by decide +kernel
theorem dX0_acceptsStepDigit_12 : decode cX0_acceptsStepDigit 12 = .ok (.iload_n 2, 1) := by decide +kernel
theorem dX0_acceptsStepDigit_13 : decode cX0_acceptsStepDigit 13 = .ok (.putfield 24, 3) := by decide +kernel
theorem dX0_acceptsStepDigit_16 : decode cX0_acceptsStepDigit 16 = .ok (.aload_n 0, 1) := by decide +kernel
theorem dX0_acceptsStepDigit_17 : decode cX0_acceptsStepDigit 17 = .ok (.iconst 5, 1) := by decide +kernel
theorem dX0_acceptsStepDigit_18 : decode cX0_acceptsStepDigit 18 = .ok (.invokevirtual 31, 3) := by decide +kernel
theorem dX0_acceptsStepDigit_21 : decode cX0_acceptsStepDigit 21 = .ok (.ireturn, 1) := by decide +kernel
set_option maxRecDepth 20000 in
theorem ggX0_acceptsBehindStep_X0_isSeparator : GoodIn wsX0_acceptsBehindStep wsX0_isSeparator := goodIn_r _ [5] rfl (by decide +kernel)
set_option maxRecDepth 20000 in
theorem gX0_acceptsBehindStep_X0_isSeparator : GoodIn wsX0_acceptsBehindStep (va_wsS RX0 61 yX0_isSeparator wsX0_isSeparator) := goodIn_app (goodIn_r _ [2, 3, 4] rfl (by decide +kernel)) ggX0_acceptsBehindStep_X0_isSeparator
set_option maxRecDepth 20000 in
theorem ggX0_acceptsBehindStep_X0_acceptsSeparator : GoodIn wsX0_acceptsBehindStep wsX0_acceptsSeparator := goodIn_r _ [9, 10, 11, 12, 4, 13, 14, 26, 27, 28, 29, 30] rfl (by decide +kernel)
set_option maxRecDepth 20000 in
theorem gX0_acceptsBehindStep_X0_acceptsSeparator : GoodIn wsX0_acceptsBehindStep (wsV RX0 64 RX0 yX0_acceptsSeparator wsX0_acceptsSeparator) := goodIn_app (goodIn_r _ [6, 7, 8, 4] rfl (by decide +kernel)) ggX0_acceptsBehindStep_X0_acceptsSeparator
set_option maxRecDepth 20000 in
theorem ggX0_acceptsBehindStep_X0_acceptsRange : GoodIn wsX0_acceptsBehindStep wsX0_acceptsRange := goodIn_r _ [18, 1, 19, 10, 11, 12, 4, 13, 14, 26, 27, 28, 29, 30] rfl (by decide +kernel)
set_option maxRecDepth 20000 in
theorem gX0_acceptsBehindStep_X0_acceptsRange : GoodIn wsX0_acceptsBehindStep (wsV RX0 67 RX0 yX0_acceptsRange wsX0_acceptsRange) := goodIn_app (goodIn_r _ [15, 16, 17, 4] rfl (by decide +kernel)) ggX0_acceptsBehindStep_X0_acceptsRange
set_option maxRecDepth 20000 in
theorem ggX0_acceptsBehindStep_X0_lengthened : GoodIn wsX0_acceptsBehindStep wsX0_lengthened := goodIn_r _ [22, 23, 24, 4, 25] rfl (by decide +kernel)
set_option maxRecDepth 20000 in
theorem gX0_acceptsBehindStep_X0_lengthened : GoodIn wsX0_acceptsBehindStep (va_wsS RX0 57 yX0_lengthened wsX0_lengthened) := goodIn_app (goodIn_r _ [20, 21, 4] rfl (by decide +kernel)) ggX0_acceptsBehindStep_X0_lengthened
theorem dX0_acceptsBehindStep_0 : decode cX0_acceptsBehindStep 0 = .ok (.iload_n 1, 1) := by decide +kernel
theorem dX0_acceptsBehindStep_1 : decode cX0_acceptsBehindStep 1 = .ok (.invokestatic 61, 3) := by decide +kernel
theorem dX0_acceptsBehindStep_4 : decode cX0_acceptsBehindStep 4 = .ok (.ifCond .eq 9, 3) := by decide +kernel
theorem dX0_acceptsBehindStep_7 : decode cX0_acceptsBehindStep 7 = .ok (.aload_n 0, 1) := by decide +kernel
theorem dX0_acceptsBehindStep_8 : decode cX0_acceptsBehindStep 8 = .ok (.iload_n 1, 1) := by decide +kernel
theorem dX0_acceptsBehindStep_9 : decode cX0_acceptsBehindStep 9 = .ok (.invokevirtual 64, 3) := by decide +kernel
theorem dX0_acceptsBehindStep_12 : decode cX0_acceptsBehindStep 12 = .ok (.ireturn, 1) := by decide +kernel
theorem dX0_acceptsBehindStep_13 : decode cX0_acceptsBehindStep 13 = .ok (.iload_n 1, 1) := by decide +kernel
theorem dX0_acceptsBehindStep_14 : decode cX0_acceptsBehindStep 14 = .ok (.bipush 45, 2) := by decide +kernel
theorem dX0_acceptsBehindStep_16 : decode cX0_acceptsBehindStep 16 = .ok (.if_icmp .ne 8, 3) := by decide +kernel
theorem dX0_acceptsBehindStep_19 : decode cX0_acceptsBehindStep 19 = .ok (.aload_n 0, 1) := by decide +kernel
theorem dX0_acceptsBehindStep_20 : decode cX0_acceptsBehindStep 20 = .ok (.invokevirtual 67, 3) := by decide +kernel
theorem dX0_acceptsBehindStep_23 : decode cX0_acceptsBehindStep 23 = .ok (.ireturn, 1) := by decide +kernel
theorem dX0_acceptsBehindStep_24 : decode cX0_acceptsBehindStep 24 = .ok (.aload_n 0, 1) := by decide +kernel
theorem dX0_acceptsBehindStep_25 : decode cX0_acceptsBehindStep 25 = .ok (.getfield 24, 3) := by decide +kernel
theorem dX0_acceptsBehindStep_28 : decode cX0_acceptsBehindStep 28 = .ok (.iload_n 1, 1) := by decide +kernel
theorem dX0_acceptsBehindStep_29 : decode cX0_acceptsBehindStep 29 = .ok (.invokestatic 57, 3) := by decide +kernel
theorem dX0_acceptsBehindStep_32 : decode cX0_acceptsBehindStep 32 = .ok (.istore_n 2, 1) := by decide +kernel
theorem dX0_acceptsBehindStep_33 : decode cX0_acceptsBehindStep 33 = .ok (.iload_n 2, 1) := by decide +kernel
theorem dX0_acceptsBehindStep_34 : decode cX0_acceptsBehindStep 34 = .ok (.ifCond .lt 9, 3) := by decide +kernel
theorem dX0_acceptsBehindStep_37 : decode cX0_acceptsBehindStep 37 = .ok (.iload_n 2, 1) := by decide +kernel
theorem dX0_acceptsBehindStep_38 : decode cX0_acceptsBehindStep 38 = .ok (.bipush 32, 2) := by decide +kernel
theorem dX0_acceptsBehindStep_40 : decode cX0_acceptsBehindStep 40 = .ok (.if_icmp .lt 5, 3) := by decide +kernel
theorem dX0_acceptsBehindStep_43 : decode cX0_acceptsBehindStep 43 = .ok (.iconst 0, 1) := by decide +kernel
theorem dX0_acceptsBehindStep_44 : decode cX0_acceptsBehindStep 44 = .ok (.ireturn, 1) := by decide +kernel
theorem dX0_acceptsBehindStep_45 : decode cX0_acceptsBehindStep 45 = .ok (.aload_n 0, 1) := by decide +kernel
theorem dX0_acceptsBehindStep_46 : decode cX0_acceptsBehindStep 46 = .ok (.iload_n 2, 1) := by decide +kernel
theorem dX0_acceptsBehindStep_47 : decode cX0_acceptsBehindStep 47 = .ok (.putfield 24, 3) := by decide +kernel
theorem dX0_acceptsBehindStep_50 : decode cX0_acceptsBehindStep 50 = .ok (.iconst 1, 1) := by decide +kernel
theorem dX0_acceptsBehindStep_51 : decode cX0_acceptsBehindStep 51 = .ok (.ireturn, 1) := by decide +kernel
set_option maxRecDepth 20000 in
theorem ggX0_acceptsRange_X0_goTo : GoodIn wsX0_acceptsRange wsX0_goTo := goodIn_r _ [7, 8, 9, 10, 11, 12, 13] rfl (by decide +kernel)
set_option maxRecDepth 20000 in
theorem gX0_acceptsRange_X0_goTo : GoodIn wsX0_acceptsRange (wsV RX0 31 RX0 yX0_goTo wsX0_goTo) := goodIn_app (goodIn_r _ [3, 4, 5, 6] rfl (by decide +kernel)) ggX0_acceptsRange_X0_goTo
theorem dX0_acceptsRange_0 : decode cX0_acceptsRange 0 = .ok (.aload_n 0, 1) := by decide +kernel
theorem dX0_acceptsRange_1 : decode cX0_acceptsRange 1 = .ok (.getfield 24, 3) := by decide +kernel
theorem dX0_acceptsRange_4 : decode cX0_acceptsRange 4 = .ok (.bipush 31, 2) := by decide +kernel
theorem dX0_acceptsRange_6 : decode cX0_acceptsRange 6 = .ok (.if_icmp .lt 5, 3) := by decide +kernel
theorem dX0_acceptsRange_9 : decode cX0_acceptsRange 9 = .ok (.iconst 0, 1) := by decide +kernel
theorem dX0_acceptsRange_10 : decode cX0_acceptsRange 10 = .ok (.ireturn, 1) := by decide +kernel
theorem dX0_acceptsRange_11 : decode cX0_acceptsRange 11 = .ok (.aload_n 0, 1) := by decide +kernel
theorem dX0_acceptsRange_12 : decode cX0_acceptsRange 12 = .ok (.aload_n 0, 1) := by decide +kernel
theorem dX0_acceptsRange_13 : decode cX0_acceptsRange 13 = .ok (.getfield 24, 3) := by decide +kernel
theorem dX0_acceptsRange_16 : decode cX0_acceptsRange 16 = .ok (.putfield 21, 3) := by decide +kernel
theorem dX0_acceptsRange_19 : decode cX0_acceptsRange 19 = .ok (.aload_n 0, 1) := by decide +kernel
theorem dX0_acceptsRange_20 : decode cX0_acceptsRange 20 = .ok (.bipush 6, 2) := by decide +kernel
theorem dX0_acceptsRange_22 : decode cX0_acceptsRange 22 = .ok (.invokevirtual 31, 3) := by decide +kernel
theorem dX0_acceptsRange_25 : decode cX0_acceptsRange 25 = .ok (.ireturn, 1) := by decide +kernel
set_option maxRecDepth 20000 in
theorem ggX0_acceptsRangeEndDigit_X0_digitOf : GoodIn wsX0_acceptsRangeEndDigit wsX0_digitOf := goodIn_r _ [6] rfl (by decide +kernel)
set_option maxRecDepth 20000 in
theorem gX0_acceptsRangeEndDigit_X0_digitOf : GoodIn wsX0_acceptsRangeEndDigit (va_wsS RX0 53 yX0_digitOf wsX0_digitOf) := goodIn_app (goodIn_r _ [3, 4, 5] rfl (by decide +kernel)) ggX0_acceptsRangeEndDigit_X0_digitOf
set_option maxRecDepth 20000 in
theorem ggX0_acceptsRangeEndDigit_X0_greatestFrom : GoodIn wsX0_acceptsRangeEndDigit wsX0_greatestFrom := goodIn_r _ [9, 10, 11, 12, 13] rfl (by decide +kernel)
set_option maxRecDepth 20000 in
theorem gX0_acceptsRangeEndDigit_X0_greatestFrom : GoodIn wsX0_acceptsRangeEndDigit (va_wsS RX0 71 yX0_greatestFrom wsX0_greatestFrom) := goodIn_app (goodIn_r _ [7, 8, 5] rfl (by decide +kernel)) ggX0_acceptsRangeEndDigit_X0_greatestFrom
set_option maxRecDepth 20000 in
theorem ggX0_acceptsRangeEndDigit_X0_goTo : GoodIn wsX0_acceptsRangeEndDigit wsX0_goTo := goodIn_r _ [17, 18, 19, 20, 21, 22, 23] rfl (by decide +kernel)
set_option maxRecDepth 20000 in
theorem gX0_acceptsRangeEndDigit_X0_goTo : GoodIn wsX0_acceptsRangeEndDigit (wsV RX0 31 RX0 yX0_goTo wsX0_goTo) := goodIn_app (goodIn_r _ [14, 15, 16, 5] rfl (by decide +kernel)) ggX0_acceptsRangeEndDigit_X0_goTo
theorem dX0_acceptsRangeEndDigit_0 : decode cX0_acceptsRangeEndDigit 0 = .ok (.iload_n 1, 1) := by decide +kernel
theorem dX0_acceptsRangeEndDigit_1 : decode cX0_acceptsRangeEndDigit 1 = .ok (.invokestatic 53, 3) := by decide +kernel
theorem dX0_acceptsRangeEndDigit_4 : decode cX0_acceptsRangeEndDigit 4 = .ok (.istore_n 2, 1) := by decide +kernel
theorem dX0_acceptsRangeEndDigit_5 : decode cX0_acceptsRangeEndDigit 5 = .ok (.iload_n 2, 1) := by decide +kernel
theorem dX0_acceptsRangeEndDigit_6 : decode cX0_acceptsRangeEndDigit 6 = .ok (.ifCond .lt 14, 3) := by decide +kernel
theorem dX0_acceptsRangeEndDigit_9 : decode cX0_acceptsRangeEndDigit 9 = .ok (.iload_n 2, 1) := by decide +kernel
theorem dX0_acceptsRangeEndDigit_10 : decode cX0_acceptsRangeEndDigit 10 = .ok (.invokestatic 71, 3) := by decide +kernel
theorem dX0_acceptsRangeEndDigit_13 : decode cX0_acceptsRangeEndDigit 13 = .ok (.aload_n 0, 1) := by decide +kernel
theorem dX0_acceptsRangeEndDigit_14 : decode cX0_acceptsRangeEndDigit 14 = .ok (.getfield 21, 3) := by decide +kernel
theorem dX0_acceptsRangeEndDigit_17 : decode cX0_acceptsRangeEndDigit 17 = .ok (.if_icmp .gt 5, 3) := by decide +kernel
theorem dX0_acceptsRangeEndDigit_20 : decode cX0_acceptsRangeEndDigit 20 = .ok (.iconst 0, 1) := by decide +kernel
theorem dX0_acceptsRangeEndDigit_21 : decode cX0_acceptsRangeEndDigit 21 = .ok (.ireturn, 1) := by decide +kernel
theorem dX0_acceptsRangeEndDigit_22 : decode cX0_acceptsRangeEndDigit 22 = .ok (.aload_n 0, 1) := by decide +kernel
theorem dX0_acceptsRangeEndDigit_23 : decode cX0_acceptsRangeEndDigit 23 = .ok (.iload_n 2, 1) := by decide +kernel
theorem dX0_acceptsRangeEndDigit_24 : decode cX0_acceptsRangeEndDigit 24 = .ok (.putfield 24, 3) := by decide +kernel
theorem dX0_acceptsRangeEndDigit_27 : decode cX0_acceptsRangeEndDigit 27 = .ok (.aload_n 0, 1) := by decide +kernel
theorem dX0_acceptsRangeEndDigit_28 : decode cX0_acceptsRangeEndDigit 28 = .ok (.bipush 7, 2) := by decide +kernel
theorem dX0_acceptsRangeEndDigit_30 : decode cX0_acceptsRangeEndDigit 30 = .ok (.invokevirtual 31, 3) := by decide +kernel
theorem dX0_acceptsRangeEndDigit_33 : decode cX0_acceptsRangeEndDigit 33 = .ok (.ireturn, 1) := by decide +kernel
set_option maxRecDepth 20000 in
theorem ggX0_acceptsBehindRangeEnd_X0_isSeparator : GoodIn wsX0_acceptsBehindRangeEnd wsX0_isSeparator := goodIn_r _ [6] rfl (by decide +kernel)
set_option maxRecDepth 20000 in
theorem gX0_acceptsBehindRangeEnd_X0_isSeparator : GoodIn wsX0_acceptsBehindRangeEnd (va_wsS RX0 61 yX0_isSeparator wsX0_isSeparator) := goodIn_app (goodIn_r _ [3, 4, 5] rfl (by decide +kernel)) ggX0_acceptsBehindRangeEnd_X0_isSeparator
set_option maxRecDepth 20000 in
theorem ggX0_acceptsBehindRangeEnd_X0_acceptsSeparator : GoodIn wsX0_acceptsBehindRangeEnd wsX0_acceptsSeparator := goodIn_r _ [10, 11, 12, 13, 5, 14, 15, 22, 23, 24, 25, 26] rfl (by decide +kernel)
set_option maxRecDepth 20000 in
theorem gX0_acceptsBehindRangeEnd_X0_acceptsSeparator : GoodIn wsX0_acceptsBehindRangeEnd (wsV RX0 64 RX0 yX0_acceptsSeparator wsX0_acceptsSeparator) := goodIn_app (goodIn_r _ [7, 8, 9, 5] rfl (by decide +kernel)) ggX0_acceptsBehindRangeEnd_X0_acceptsSeparator
set_option maxRecDepth 20000 in
theorem ggX0_acceptsBehindRangeEnd_X0_lengthened : GoodIn wsX0_acceptsBehindRangeEnd wsX0_lengthened := goodIn_r _ [18, 19, 20, 5, 21] rfl (by decide +kernel)
set_option maxRecDepth 20000 in
theorem gX0_acceptsBehindRangeEnd_X0_lengthened : GoodIn wsX0_acceptsBehindRangeEnd (va_wsS RX0 57 yX0_lengthened wsX0_lengthened) := goodIn_app (goodIn_r _ [16, 17, 5] rfl (by decide +kernel)) ggX0_acceptsBehindRangeEnd_X0_lengthened
theorem dX0_acceptsBehindRangeEnd_0 : decode cX0_acceptsBehindRangeEnd 0 = .ok (.iload_n 1, 1) := by decide +kernel
theorem dX0_acceptsBehindRangeEnd_1 : decode cX0_acceptsBehindRangeEnd 1 = .ok (.invokestatic 61, 3) := by decide +kernel
theorem dX0_acceptsBehindRangeEnd_4 : decode cX0_acceptsBehindRangeEnd 4 = .ok (.ifCond .eq 28, 3) := by decide +kernel
theorem dX0_acceptsBehindRangeEnd_7 : decode cX0_acceptsBehindRangeEnd 7 = .ok (.aload_n 0, 1) := by decide +kernel
theorem dX0_acceptsBehindRangeEnd_8 : decode cX0_acceptsBehindRangeEnd 8 = .ok (.getfield 24, 3) := by decide +kernel
theorem dX0_acceptsBehindRangeEnd_11 : decode cX0_acceptsBehindRangeEnd 11 = .ok (.aload_n 0, 1) := by decide +kernel
theorem dX0_acceptsBehindRangeEnd_12 : decode cX0_acceptsBehindRangeEnd 12 = .ok (.getfield 21, 3) := by decide +kernel
theorem dX0_acceptsBehindRangeEnd_15 : decode cX0_acceptsBehindRangeEnd 15 = .ok (.if_icmp .le 15, 3) := by decide +kernel
theorem dX0_acceptsBehindRangeEnd_18 : decode cX0_acceptsBehindRangeEnd 18 = .ok (.aload_n 0, 1) := by decide +kernel
theorem dX0_acceptsBehindRangeEnd_19 : decode cX0_acceptsBehindRangeEnd 19 = .ok (.iload_n 1, 1) := by decide +kernel
theorem dX0_acceptsBehindRangeEnd_20 : decode cX0_acceptsBehindRangeEnd 20 = .ok (.invokevirtual 64, 3) := by decide +kernel
theorem dX0_acceptsBehindRangeEnd_23 : decode cX0_acceptsBehindRangeEnd 23 = .ok (.ifCond .eq 7, 3) := by decide +kernel
theorem dX0_acceptsBehindRangeEnd_26 : decode cX0_acceptsBehindRangeEnd 26 = .ok (.iconst 1, 1) := by decide +kernel
theorem dX0_acceptsBehindRangeEnd_27 : decode cX0_acceptsBehindRangeEnd 27 = .ok (.goto 4, 3) := by decide +kernel
theorem dX0_acceptsBehindRangeEnd_30 : decode cX0_acceptsBehindRangeEnd 30 = .ok (.iconst 0, 1) := by decide +kernel
theorem dX0_acceptsBehindRangeEnd_31 : decode cX0_acceptsBehindRangeEnd 31 = .ok (.ireturn, 1) := by decide +kernel
theorem dX0_acceptsBehindRangeEnd_32 : decode cX0_acceptsBehindRangeEnd 32 = .ok (.aload_n 0, 1) := by decide +kernel
theorem dX0_acceptsBehindRangeEnd_33 : decode cX0_acceptsBehindRangeEnd 33 = .ok (.getfield 24, 3) := by decide +kernel
theorem dX0_acceptsBehindRangeEnd_36 : decode cX0_acceptsBehindRangeEnd 36 = .ok (.iload_n 1, 1) := by decide +kernel
theorem dX0_acceptsBehindRangeEnd_37 : decode cX0_acceptsBehindRangeEnd 37 = .ok (.invokestatic 57, 3) := by decide +kernel
theorem dX0_acceptsBehindRangeEnd_40 : decode cX0_acceptsBehindRangeEnd 40 = .ok (.istore_n 2, 1) := by decide +kernel
theorem dX0_acceptsBehindRangeEnd_41 : decode cX0_acceptsBehindRangeEnd 41 = .ok (.iload_n 2, 1) := by decide +kernel
theorem dX0_acceptsBehindRangeEnd_42 : decode cX0_acceptsBehindRangeEnd 42 = .ok (.aload_n 0, 1) := by decide +kernel
theorem dX0_acceptsBehindRangeEnd_43 : decode cX0_acceptsBehindRangeEnd 43 = .ok (.getfield 21, 3) := by decide +kernel
theorem dX0_acceptsBehindRangeEnd_46 : decode cX0_acceptsBehindRangeEnd 46 = .ok (.if_icmp .le 9, 3) := by decide +kernel
theorem dX0_acceptsBehindRangeEnd_49 : decode cX0_acceptsBehindRangeEnd 49 = .ok (.iload_n 2, 1) := by decide +kernel
theorem dX0_acceptsBehindRangeEnd_50 : decode cX0_acceptsBehindRangeEnd 50 = .ok (.bipush 32, 2) := by decide +kernel
theorem dX0_acceptsBehindRangeEnd_52 : decode cX0_acceptsBehindRangeEnd 52 = .ok (.if_icmp .lt 5, 3) := by decide +kernel
theorem dX0_acceptsBehindRangeEnd_55 : decode cX0_acceptsBehindRangeEnd 55 = .ok (.iconst 0, 1) := by decide +kernel
theorem dX0_acceptsBehindRangeEnd_56 : decode cX0_acceptsBehindRangeEnd 56 = .ok (.ireturn, 1) := by decide +kernel
theorem dX0_acceptsBehindRangeEnd_57 : decode cX0_acceptsBehindRangeEnd 57 = .ok (.aload_n 0, 1) := by decide +kernel
theorem dX0_acceptsBehindRangeEnd_58 : decode cX0_acceptsBehindRangeEnd 58 = .ok (.iload_n 2, 1) := by decide +kernel
theorem dX0_acceptsBehindRangeEnd_59 : decode cX0_acceptsBehindRangeEnd 59 = .ok (.putfield 24, 3) := by decide +kernel
theorem dX0_acceptsBehindRangeEnd_62 : decode cX0_acceptsBehindRangeEnd 62 = .ok (.iconst 1, 1) := by decide +kernel
theorem dX0_acceptsBehindRangeEnd_63 : decode cX0_acceptsBehindRangeEnd 63 = .ok (.ireturn, 1) := by decide +kernel
set_option maxRecDepth 20000 in
theorem ggX0_acceptsSeparator_X0_goTo : GoodIn wsX0_acceptsSeparator wsX0_goTo := goodIn_r _ [5, 6, 7, 8, 9, 10, 11] rfl (by decide +kernel)
set_option maxRecDepth 20000 in
theorem gX0_acceptsSeparator_X0_goTo : GoodIn wsX0_acceptsSeparator (wsV RX0 31 RX0 yX0_goTo wsX0_goTo) := goodIn_app (goodIn_r _ [1, 2, 3, 4] rfl (by decide +kernel)) ggX0_acceptsSeparator_X0_goTo
theorem dX0_acceptsSeparator_0 : decode cX0_acceptsSeparator 0 = .ok (.aload_n 0, 1) := by decide +kernel
theorem dX0_acceptsSeparator_1 : decode cX0_acceptsSeparator 1 = .ok (.iload_n 1, 1) := by decide +kernel
theorem dX0_acceptsSeparator_2 : decode cX0_acceptsSeparator 2 = .ok (.bipush 44, 2) := by decide +kernel
theorem dX0_acceptsSeparator_4 : decode cX0_acceptsSeparator 4 = .ok (.if_icmp .ne 7, 3) := by decide +kernel
theorem dX0_acceptsSeparator_7 : decode cX0_acceptsSeparator 7 = .ok (.iconst 4, 1) := by decide +kernel
theorem dX0_acceptsSeparator_8 : decode cX0_acceptsSeparator 8 = .ok (.goto 4, 3) := by decide +kernel
theorem dX0_acceptsSeparator_11 : decode cX0_acceptsSeparator 11 = .ok (.iconst 0, 1) := by decide +kernel
theorem dX0_acceptsSeparator_12 : decode cX0_acceptsSeparator 12 = .ok (.invokevirtual 31, 3) := by decide +kernel
theorem dX0_acceptsSeparator_15 : decode cX0_acceptsSeparator 15 = .ok (.ireturn, 1) := by decide +kernel
set_option maxRecDepth 20000 in
theorem ggX0_lengthened_X0_digitOf : GoodIn wsX0_lengthened wsX0_digitOf := goodIn_r _ [4] rfl (by decide +kernel)
set_option maxRecDepth 20000 in
theorem gX0_lengthened_X0_digitOf : GoodIn wsX0_lengthened (va_wsS RX0 53 yX0_digitOf wsX0_digitOf) := goodIn_app (goodIn_r _ [1, 2, 3] rfl (by decide +kernel)) ggX0_lengthened_X0_digitOf
theorem dX0_lengthened_0 : decode cX0_lengthened 0 = .ok (.iload_n 1, 1) := by decide +kernel
theorem dX0_lengthened_1 : decode cX0_lengthened 1 = .ok (.invokestatic 53, 3) := by decide +kernel
theorem dX0_lengthened_4 : decode cX0_lengthened 4 = .ok (.istore_n 2, 1) := by decide +kernel
theorem dX0_lengthened_5 : decode cX0_lengthened 5 = .ok (.iload_n 0, 1) := by decide +kernel
theorem dX0_lengthened_6 : decode cX0_lengthened 6 = .ok (.ifCond .eq 7, 3) := by decide +kernel
theorem dX0_lengthened_9 : decode cX0_lengthened 9 = .ok (.iload_n 2, 1) := by decide +kernel
theorem dX0_lengthened_10 : decode cX0_lengthened 10 = .ok (.ifCond .ge 7, 3) := by decide +kernel
theorem dX0_lengthened_13 : decode cX0_lengthened 13 = .ok (.iconst (-1), 1) := by decide +kernel
theorem dX0_lengthened_14 : decode cX0_lengthened 14 = .ok (.goto 9, 3) := by decide +kernel
theorem dX0_lengthened_17 : decode cX0_lengthened 17 = .ok (.iload_n 0, 1) := by decide +kernel
theorem dX0_lengthened_18 : decode cX0_lengthened 18 = .ok (.bipush 10, 2) := by decide +kernel
theorem dX0_lengthened_20 : decode cX0_lengthened 20 = .ok (.imul, 1) := by decide +kernel
theorem dX0_lengthened_21 : decode cX0_lengthened 21 = .ok (.iload_n 2, 1) := by decide +kernel
theorem dX0_lengthened_22 : decode cX0_lengthened 22 = .ok (.iadd, 1) := by decide +kernel
theorem dX0_lengthened_23 : decode cX0_lengthened 23 = .ok (.ireturn, 1) := by decide +kernel
theorem dX0_greatestFrom_0 : decode cX0_greatestFrom 0 = .ok (.iload_n 0, 1) := by decide +kernel
theorem dX0_greatestFrom_1 : decode cX0_greatestFrom 1 = .ok (.ifCond .le 16, 3) := by decide +kernel
theorem dX0_greatestFrom_4 : decode cX0_greatestFrom 4 = .ok (.iload_n 0, 1) := by decide +kernel
theorem dX0_greatestFrom_5 : decode cX0_greatestFrom 5 = .ok (.bipush 10, 2) := by decide +kernel
theorem dX0_greatestFrom_7 : decode cX0_greatestFrom 7 = .ok (.imul, 1) := by decide +kernel
theorem dX0_greatestFrom_8 : decode cX0_greatestFrom 8 = .ok (.bipush 32, 2) := by decide +kernel
theorem dX0_greatestFrom_10 : decode cX0_greatestFrom 10 = .ok (.if_icmp .ge 7, 3) := by decide +kernel
theorem dX0_greatestFrom_13 : decode cX0_greatestFrom 13 = .ok (.iconst 1, 1) := by decide +kernel
theorem dX0_greatestFrom_14 : decode cX0_greatestFrom 14 = .ok (.goto 4, 3) := by decide +kernel
theorem dX0_greatestFrom_17 : decode cX0_greatestFrom 17 = .ok (.iconst 0, 1) := by decide +kernel
theorem dX0_greatestFrom_18 : decode cX0_greatestFrom 18 = .ok (.istore_n 1, 1) := by decide +kernel
theorem dX0_greatestFrom_19 : decode cX0_greatestFrom 19 = .ok (.iload_n 1, 1) := by decide +kernel
theorem dX0_greatestFrom_20 : decode cX0_greatestFrom 20 = .ok (.ifCond .eq 18, 3) := by decide +kernel
theorem dX0_greatestFrom_23 : decode cX0_greatestFrom 23 = .ok (.bipush 31, 2) := by decide +kernel
theorem dX0_greatestFrom_25 : decode cX0_greatestFrom 25 = .ok (.iload_n 0, 1) := by decide +kernel
theorem dX0_greatestFrom_26 : decode cX0_greatestFrom 26 = .ok (.bipush 10, 2) := by decide +kernel
theorem dX0_greatestFrom_28 : decode cX0_greatestFrom 28 = .ok (.imul, 1) := by decide +kernel
theorem dX0_greatestFrom_29 : decode cX0_greatestFrom 29 = .ok (.bipush 9, 2) := by decide +kernel
theorem dX0_greatestFrom_31 : decode cX0_greatestFrom 31 = .ok (.iadd, 1) := by decide +kernel
theorem dX0_greatestFrom_32 : decode cX0_greatestFrom 32 = .ok (.invokestatic 75, 3) := by decide +kernel
theorem dX0_greatestFrom_35 : decode cX0_greatestFrom 35 = .ok (.goto 4, 3) := by decide +kernel
theorem dX0_greatestFrom_38 : decode cX0_greatestFrom 38 = .ok (.iload_n 0, 1) := by decide +kernel
theorem dX0_greatestFrom_39 : decode cX0_greatestFrom 39 = .ok (.ireturn, 1) := by decide +kernel
