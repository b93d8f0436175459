theorem dX3_init_0 : decode cX3_init 0 = .ok (.aload_n 0, 1) := by decide +kernel
theorem dX3_init_1 : decode cX3_init 1 = .ok (.invokespecial 1, 3) := by decide +kernel
theorem dX3_init_4 : decode cX3_init 4 = .ok (.aload_n 0, 1) := by decide +kernel
theorem dX3_init_5 : decode cX3_init 5 = .ok (.sipush 147, 3) := by decide +kernel
theorem dX3_init_8 : decode cX3_init 8 = .ok (.newarray .int, 2) := by decide +kernel
theorem dX3_init_10 : decode cX3_init 10 = .ok (.putfield 7, 3) := by decide +kernel
theorem dX3_init_13 : decode cX3_init 13 = .ok (.aload_n 0, 1) := by decide +kernel
theorem dX3_init_14 : decode cX3_init 14 = .ok (.sipush 147, 3) := by decide +kernel
theorem dX3_init_17 : decode cX3_init 17 = .ok (.newarray .int, 2) := by decide +kernel
theorem dX3_init_19 : decode cX3_init 19 = .ok (.putfield 13, 3) := by decide +kernel
theorem dX3_init_22 : decode cX3_init 22 = .ok (.aload_n 0, 1) := by decide +kernel
theorem dX3_init_23 : decode cX3_init 23 = .ok (.sipush 882, 3) := by decide +kernel
theorem dX3_init_26 : decode cX3_init 26 = .ok (.newarray .int, 2) := by decide +kernel
theorem dX3_init_28 : decode cX3_init 28 = .ok (.putfield 16, 3) := by decide +kernel
theorem dX3_init_31 : decode cX3_init 31 = .ok (.aload_n 0, 1) := by decide +kernel
theorem dX3_init_32 : decode cX3_init 32 = .ok (.sipush 147, 3) := by decide +kernel
theorem dX3_init_35 : decode cX3_init 35 = .ok (.newarray .int, 2) := by decide +kernel
theorem dX3_init_37 : decode cX3_init 37 = .ok (.putfield 19, 3) := by decide +kernel
theorem dX3_init_40 : decode cX3_init 40 = .ok (.aload_n 0, 1) := by decide +kernel
theorem dX3_init_41 : decode cX3_init 41 = .ok (.bipush 60, 2) := by decide +kernel
theorem dX3_init_43 : decode cX3_init 43 = .ok (.newarray .int, 2) := by decide +kernel
theorem dX3_init_45 : decode cX3_init 45 = .ok (.putfield 22, 3) := by decide +kernel
theorem dX3_init_48 : decode cX3_init 48 = .ok (.aload_n 0, 1) := by decide +kernel
theorem dX3_init_49 : decode cX3_init 49 = .ok (.getfield 7, 3) := by decide +kernel
theorem dX3_init_52 : decode cX3_init 52 = .ok (.sipush 133, 3) := by decide +kernel
theorem dX3_init_55 : decode cX3_init 55 = .ok (.bipush 31, 2) := by decide +kernel
theorem dX3_init_57 : decode cX3_init 57 = .ok (.iastore, 1) := by decide +kernel
theorem dX3_init_58 : decode cX3_init 58 = .ok (.aload_n 0, 1) := by decide +kernel
theorem dX3_init_59 : decode cX3_init 59 = .ok (.getfield 7, 3) := by decide +kernel
theorem dX3_init_62 : decode cX3_init 62 = .ok (.sipush 136, 3) := by decide +kernel
theorem dX3_init_65 : decode cX3_init 65 = .ok (.iconst 5, 1) := by decide +kernel
theorem dX3_init_66 : decode cX3_init 66 = .ok (.iastore, 1) := by decide +kernel
theorem dX3_init_67 : decode cX3_init 67 = .ok (.aload_n 0, 1) := by decide +kernel
theorem dX3_init_68 : decode cX3_init 68 = .ok (.getfield 7, 3) := by decide +kernel
theorem dX3_init_71 : decode cX3_init 71 = .ok (.sipush 142, 3) := by decide +kernel
theorem dX3_init_74 : decode cX3_init 74 = .ok (.bipush 40, 2) := by decide +kernel
theorem dX3_init_76 : decode cX3_init 76 = .ok (.iastore, 1) := by decide +kernel
theorem dX3_init_77 : decode cX3_init 77 = .ok (.aload_n 0, 1) := by decide +kernel
theorem dX3_init_78 : decode cX3_init 78 = .ok (.getfield 7, 3) := by decide +kernel
theorem dX3_init_81 : decode cX3_init 81 = .ok (.sipush 143, 3) := by decide +kernel
theorem dX3_init_84 : decode cX3_init 84 = .ok (.bipush 6, 2) := by decide +kernel
theorem dX3_init_86 : decode cX3_init 86 = .ok (.iastore, 1) := by decide +kernel
theorem dX3_init_87 : decode cX3_init 87 = .ok (.aload_n 0, 1) := by decide +kernel
theorem dX3_init_88 : decode cX3_init 88 = .ok (.getfield 7, 3) := by decide +kernel
theorem dX3_init_91 : decode cX3_init 91 = .ok (.sipush 145, 3) := by decide +kernel
theorem dX3_init_94 : decode cX3_init 94 = .ok (.iconst 1, 1) := by decide +kernel
theorem dX3_init_95 : decode cX3_init 95 = .ok (.iastore, 1) := by decide +kernel
theorem dX3_init_96 : decode cX3_init 96 = .ok (.aload_n 0, 1) := by decide +kernel
theorem dX3_init_97 : decode cX3_init 97 = .ok (.getfield 7, 3) := by decide +kernel
theorem dX3_init_100 : decode cX3_init 100 = .ok (.sipush 146, 3) := by decide +kernel
theorem dX3_init_103 : decode cX3_init 103 = .ok (.bipush 6, 2) := by decide +kernel
theorem dX3_init_105 : decode cX3_init 105 = .ok (.iastore, 1) := by decide +kernel
theorem dX3_init_106 : decode cX3_init 106 = .ok (.return_, 1) := by decide +kernel
theorem dX3_thrown_0 : decode cX3_thrown 0 = .ok (.aload_n 0, 1) := by decide +kernel
theorem dX3_thrown_1 : decode cX3_thrown 1 = .ok (.getfield 25, 3) := by decide +kernel
theorem dX3_thrown_4 : decode cX3_thrown 4 = .ok (.ireturn, 1) := by decide +kernel
theorem dX3_in_0 : decode cX3_in 0 = .ok (.iload_n 0, 1) := by decide +kernel
theorem dX3_in_1 : decode cX3_in 1 = .ok (.iload_n 1, 1) := by decide +kernel
theorem dX3_in_2 : decode cX3_in 2 = .ok (.if_icmp .lt 12, 3) := by decide +kernel
theorem dX3_in_5 : decode cX3_in 5 = .ok (.iload_n 0, 1) := by decide +kernel
theorem dX3_in_6 : decode cX3_in 6 = .ok (.iload_n 2, 1) := by decide +kernel
theorem dX3_in_7 : decode cX3_in 7 = .ok (.if_icmp .gt 7, 3) := by decide +kernel
theorem dX3_in_10 : decode cX3_in 10 = .ok (.iconst 1, 1) := by decide +kernel
theorem dX3_in_11 : decode cX3_in 11 = .ok (.goto 4, 3) := by decide +kernel
theorem dX3_in_14 : decode cX3_in 14 = .ok (.iconst 0, 1) := by decide +kernel
theorem dX3_in_15 : decode cX3_in 15 = .ok (.ireturn, 1) := by decide +kernel
theorem dX3_holds_0 : decode cX3_holds 0 = .ok (.aload_n 0, 1) := by decide +kernel
theorem dX3_holds_1 : decode cX3_holds 1 = .ok (.iload_n 1, 1) := by decide +kernel
theorem dX3_holds_2 : decode cX3_holds 2 = .ok (.putfield 25, 3) := by decide +kernel
theorem dX3_holds_5 : decode cX3_holds 5 = .ok (.iload_n 1, 1) := by decide +kernel
theorem dX3_holds_6 : decode cX3_holds 6 = .ok (.ifCond .ne 7, 3) := by decide +kernel
theorem dX3_holds_9 : decode cX3_holds 9 = .ok (.iconst 1, 1) := by decide +kernel
theorem dX3_holds_10 : decode cX3_holds 10 = .ok (.goto 4, 3) := by decide +kernel
theorem dX3_holds_13 : decode cX3_holds 13 = .ok (.iconst 0, 1) := by decide +kernel
theorem dX3_holds_14 : decode cX3_holds 14 = .ok (.ireturn, 1) := by decide +kernel
set_option maxRecDepth 20000 in
theorem ggX3_isTune_X3_in : GoodIn wsX3_isTune wsX3_in := goodIn_r _ [4] rfl (by decide +kernel)
set_option maxRecDepth 20000 in
theorem gX3_isTune_X3_in : GoodIn wsX3_isTune (va_wsS RX3 29 yX3_in wsX3_in) := goodIn_app (goodIn_r _ [1, 2, 3] rfl (by decide +kernel)) ggX3_isTune_X3_in
theorem dX3_isTune_0 : decode cX3_isTune 0 = .ok (.iload_n 0, 1) := by decide +kernel
theorem dX3_isTune_1 : decode cX3_isTune 1 = .ok (.iconst 0, 1) := by decide +kernel
theorem dX3_isTune_2 : decode cX3_isTune 2 = .ok (.iconst 2, 1) := by decide +kernel
theorem dX3_isTune_3 : decode cX3_isTune 3 = .ok (.invokestatic 29, 3) := by decide +kernel
theorem dX3_isTune_6 : decode cX3_isTune 6 = .ok (.ireturn, 1) := by decide +kernel
set_option maxRecDepth 20000 in
theorem ggX3_isTooth_X3_in : GoodIn wsX3_isTooth wsX3_in := goodIn_r _ [4] rfl (by decide +kernel)
set_option maxRecDepth 20000 in
theorem gX3_isTooth_X3_in : GoodIn wsX3_isTooth (va_wsS RX3 29 yX3_in wsX3_in) := goodIn_app (goodIn_r _ [1, 2, 3] rfl (by decide +kernel)) ggX3_isTooth_X3_in
theorem dX3_isTooth_0 : decode cX3_isTooth 0 = .ok (.iload_n 0, 1) := by decide +kernel
theorem dX3_isTooth_1 : decode cX3_isTooth 1 = .ok (.iconst 0, 1) := by decide +kernel
theorem dX3_isTooth_2 : decode cX3_isTooth 2 = .ok (.bipush 11, 2) := by decide +kernel
theorem dX3_isTooth_4 : decode cX3_isTooth 4 = .ok (.invokestatic 29, 3) := by decide +kernel
theorem dX3_isTooth_7 : decode cX3_isTooth 7 = .ok (.ireturn, 1) := by decide +kernel
set_option maxRecDepth 20000 in
theorem ggX3_isStep_X3_in : GoodIn wsX3_isStep wsX3_in := goodIn_r _ [4] rfl (by decide +kernel)
set_option maxRecDepth 20000 in
theorem gX3_isStep_X3_in : GoodIn wsX3_isStep (va_wsS RX3 29 yX3_in wsX3_in) := goodIn_app (goodIn_r _ [1, 2, 3] rfl (by decide +kernel)) ggX3_isStep_X3_in
theorem dX3_isStep_0 : decode cX3_isStep 0 = .ok (.iload_n 0, 1) := by decide +kernel
theorem dX3_isStep_1 : decode cX3_isStep 1 = .ok (.iconst 0, 1) := by decide +kernel
theorem dX3_isStep_2 : decode cX3_isStep 2 = .ok (.bipush 31, 2) := by decide +kernel
theorem dX3_isStep_4 : decode cX3_isStep 4 = .ok (.invokestatic 29, 3) := by decide +kernel
theorem dX3_isStep_7 : decode cX3_isStep 7 = .ok (.ireturn, 1) := by decide +kernel
set_option maxRecDepth 20000 in
theorem ggX3_areThere_X3_isTune : GoodIn wsX3_areThere wsX3_isTune := goodIn_r _ [4, 5, 6, 3, 7] rfl (by decide +kernel)
set_option maxRecDepth 20000 in
theorem gX3_areThere_X3_isTune : GoodIn wsX3_areThere (va_wsS RX3 33 yX3_isTune wsX3_isTune) := goodIn_app (goodIn_r _ [1, 2, 3] rfl (by decide +kernel)) ggX3_areThere_X3_isTune
set_option maxRecDepth 20000 in
theorem ggX3_areThere_X3_isTooth : GoodIn wsX3_areThere wsX3_isTooth := goodIn_r _ [10, 5, 6, 3, 7] rfl (by decide +kernel)
set_option maxRecDepth 20000 in
theorem gX3_areThere_X3_isTooth : GoodIn wsX3_areThere (va_wsS RX3 37 yX3_isTooth wsX3_isTooth) := goodIn_app (goodIn_r _ [8, 9, 3] rfl (by decide +kernel)) ggX3_areThere_X3_isTooth
set_option maxRecDepth 20000 in
theorem ggX3_areThere_X3_isStep : GoodIn wsX3_areThere wsX3_isStep := goodIn_r _ [13, 5, 6, 3, 7] rfl (by decide +kernel)
set_option maxRecDepth 20000 in
theorem gX3_areThere_X3_isStep : GoodIn wsX3_areThere (va_wsS RX3 40 yX3_isStep wsX3_isStep) := goodIn_app (goodIn_r _ [11, 12, 3] rfl (by decide +kernel)) ggX3_areThere_X3_isStep
theorem dX3_areThere_0 : decode cX3_areThere 0 = .ok (.iload_n 0, 1) := by decide +kernel
theorem dX3_areThere_1 : decode cX3_areThere 1 = .ok (.invokestatic 33, 3) := by decide +kernel
theorem dX3_areThere_4 : decode cX3_areThere 4 = .ok (.ifCond .eq 21, 3) := by decide +kernel
theorem dX3_areThere_7 : decode cX3_areThere 7 = .ok (.iload_n 1, 1) := by decide +kernel
theorem dX3_areThere_8 : decode cX3_areThere 8 = .ok (.invokestatic 37, 3) := by decide +kernel
theorem dX3_areThere_11 : decode cX3_areThere 11 = .ok (.ifCond .eq 14, 3) := by decide +kernel
theorem dX3_areThere_14 : decode cX3_areThere 14 = .ok (.iload_n 2, 1) := by decide +kernel
theorem dX3_areThere_15 : decode cX3_areThere 15 = .ok (.invokestatic 40, 3) := by decide +kernel
theorem dX3_areThere_18 : decode cX3_areThere 18 = .ok (.ifCond .eq 7, 3) := by decide +kernel
theorem dX3_areThere_21 : decode cX3_areThere 21 = .ok (.iconst 1, 1) := by decide +kernel
theorem dX3_areThere_22 : decode cX3_areThere 22 = .ok (.goto 4, 3) := by decide +kernel
theorem dX3_areThere_25 : decode cX3_areThere 25 = .ok (.iconst 0, 1) := by decide +kernel
theorem dX3_areThere_26 : decode cX3_areThere 26 = .ok (.ireturn, 1) := by decide +kernel
theorem dX3_ofPins_0 : decode cX3_ofPins 0 = .ok (.iconst 0, 1) := by decide +kernel
theorem dX3_ofPins_1 : decode cX3_ofPins 1 = .ok (.bipush 12, 2) := by decide +kernel
theorem dX3_ofPins_3 : decode cX3_ofPins 3 = .ok (.iload_n 0, 1) := by decide +kernel
theorem dX3_ofPins_4 : decode cX3_ofPins 4 = .ok (.imul, 1) := by decide +kernel
theorem dX3_ofPins_5 : decode cX3_ofPins 5 = .ok (.iadd, 1) := by decide +kernel
theorem dX3_ofPins_6 : decode cX3_ofPins 6 = .ok (.iload_n 1, 1) := by decide +kernel
theorem dX3_ofPins_7 : decode cX3_ofPins 7 = .ok (.iadd, 1) := by decide +kernel
theorem dX3_ofPins_8 : decode cX3_ofPins 8 = .ok (.ireturn, 1) := by decide +kernel
theorem dX3_of_0 : decode cX3_of 0 = .ok (.bipush 36, 2) := by decide +kernel
theorem dX3_of_2 : decode cX3_of 2 = .ok (.iconst 4, 1) := by decide +kernel
theorem dX3_of_3 : decode cX3_of 3 = .ok (.iload_n 0, 1) := by decide +kernel
theorem dX3_of_4 : decode cX3_of 4 = .ok (.imul, 1) := by decide +kernel
theorem dX3_of_5 : decode cX3_of 5 = .ok (.iadd, 1) := by decide +kernel
theorem dX3_of_6 : decode cX3_of 6 = .ok (.iload_n 1, 1) := by decide +kernel
theorem dX3_of_7 : decode cX3_of 7 = .ok (.iadd, 1) := by decide +kernel
theorem dX3_of_8 : decode cX3_of 8 = .ok (.ireturn, 1) := by decide +kernel
theorem dX3_save_0 : decode cX3_save 0 = .ok (.aload_n 0, 1) := by decide +kernel
theorem dX3_save_1 : decode cX3_save 1 = .ok (.getfield 43, 3) := by decide +kernel
theorem dX3_save_4 : decode cX3_save 4 = .ok (.bipush 6, 2) := by decide +kernel
theorem dX3_save_6 : decode cX3_save 6 = .ok (.if_icmp .ne 44, 3) := by decide +kernel
theorem dX3_save_9 : decode cX3_save 9 = .ok (.iconst 0, 1) := by decide +kernel
theorem dX3_save_10 : decode cX3_save 10 = .ok (.istore_n 1, 1) := by decide +kernel
theorem dX3_save_11 : decode cX3_save 11 = .ok (.iload_n 1, 1) := by decide +kernel
theorem dX3_save_12 : decode cX3_save 12 = .ok (.sipush 735, 3) := by decide +kernel
theorem dX3_save_15 : decode cX3_save 15 = .ok (.if_icmp .ge 25, 3) := by decide +kernel
theorem dX3_save_18 : decode cX3_save 18 = .ok (.aload_n 0, 1) := by decide +kernel
theorem dX3_save_19 : decode cX3_save 19 = .ok (.getfield 16, 3) := by decide +kernel
theorem dX3_save_22 : decode cX3_save 22 = .ok (.iload_n 1, 1) := by decide +kernel
theorem dX3_save_23 : decode cX3_save 23 = .ok (.aload_n 0, 1) := by decide +kernel
theorem dX3_save_24 : decode cX3_save 24 = .ok (.getfield 16, 3) := by decide +kernel
theorem dX3_save_27 : decode cX3_save 27 = .ok (.iload_n 1, 1) := by decide +kernel
theorem dX3_save_28 : decode cX3_save 28 = .ok (.sipush 147, 3) := by decide +kernel
theorem dX3_save_31 : decode cX3_save 31 = .ok (.iadd, 1) := by decide +kernel
theorem dX3_save_32 : decode cX3_save 32 = .ok (.iaload, 1) := by decide +kernel
theorem dX3_save_33 : decode cX3_save 33 = .ok (.iastore, 1) := by decide +kernel
theorem dX3_save_34 : decode cX3_save 34 = .ok (.iinc 1 1, 3) := by decide +kernel
theorem dX3_save_37 : decode cX3_save 37 = .ok (.goto (-26), 3) := by decide +kernel
theorem dX3_save_40 : decode cX3_save 40 = .ok (.aload_n 0, 1) := by decide +kernel
theorem dX3_save_41 : decode cX3_save 41 = .ok (.dup, 1) := by decide +kernel
theorem dX3_save_42 : decode cX3_save 42 = .ok (.getfield 43, 3) := by decide +kernel
theorem dX3_save_45 : decode cX3_save 45 = .ok (.iconst 1, 1) := by decide +kernel
theorem dX3_save_46 : decode cX3_save 46 = .ok (.isub, 1) := by decide +kernel
theorem dX3_save_47 : decode cX3_save 47 = .ok (.putfield 43, 3) := by decide +kernel
theorem dX3_save_50 : decode cX3_save 50 = .ok (.iconst 0, 1) := by decide +kernel
theorem dX3_save_51 : decode cX3_save 51 = .ok (.istore_n 1, 1) := by decide +kernel
theorem dX3_save_52 : decode cX3_save 52 = .ok (.iload_n 1, 1) := by decide +kernel
theorem dX3_save_53 : decode cX3_save 53 = .ok (.sipush 147, 3) := by decide +kernel
theorem dX3_save_56 : decode cX3_save 56 = .ok (.if_icmp .ge 30, 3) := by decide +kernel
theorem dX3_save_59 : decode cX3_save 59 = .ok (.aload_n 0, 1) := by decide +kernel
theorem dX3_save_60 : decode cX3_save 60 = .ok (.getfield 16, 3) := by decide +kernel
theorem dX3_save_63 : decode cX3_save 63 = .ok (.sipush 147, 3) := by decide +kernel
theorem dX3_save_66 : decode cX3_save 66 = .ok (.aload_n 0, 1) := by decide +kernel
theorem dX3_save_67 : decode cX3_save 67 = .ok (.getfield 43, 3) := by decide +kernel
theorem dX3_save_70 : decode cX3_save 70 = .ok (.imul, 1) := by decide +kernel
theorem dX3_save_71 : decode cX3_save 71 = .ok (.iload_n 1, 1) := by decide +kernel
theorem dX3_save_72 : decode cX3_save 72 = .ok (.iadd, 1) := by decide +kernel
theorem dX3_save_73 : decode cX3_save 73 = .ok (.aload_n 0, 1) := by decide +kernel
theorem dX3_save_74 : decode cX3_save 74 = .ok (.getfield 7, 3) := by decide +kernel
theorem dX3_save_77 : decode cX3_save 77 = .ok (.iload_n 1, 1) := by decide +kernel
theorem dX3_save_78 : decode cX3_save 78 = .ok (.iaload, 1) := by decide +kernel
theorem dX3_save_79 : decode cX3_save 79 = .ok (.iastore, 1) := by decide +kernel
theorem dX3_save_80 : decode cX3_save 80 = .ok (.iinc 1 1, 3) := by decide +kernel
theorem dX3_save_83 : decode cX3_save 83 = .ok (.goto (-31), 3) := by decide +kernel
theorem dX3_save_86 : decode cX3_save 86 = .ok (.aload_n 0, 1) := by decide +kernel
theorem dX3_save_87 : decode cX3_save 87 = .ok (.dup, 1) := by decide +kernel
theorem dX3_save_88 : decode cX3_save 88 = .ok (.getfield 43, 3) := by decide +kernel
theorem dX3_save_91 : decode cX3_save 91 = .ok (.iconst 1, 1) := by decide +kernel
theorem dX3_save_92 : decode cX3_save 92 = .ok (.iadd, 1) := by decide +kernel
theorem dX3_save_93 : decode cX3_save 93 = .ok (.putfield 43, 3) := by decide +kernel
theorem dX3_save_96 : decode cX3_save 96 = .ok (.return_, 1) := by decide +kernel
theorem dX3_putAside_0 : decode cX3_putAside 0 = .ok (.iconst 0, 1) := by decide +kernel
theorem dX3_putAside_1 : decode cX3_putAside 1 = .ok (.istore_n 1, 1) := by decide +kernel
theorem dX3_putAside_2 : decode cX3_putAside 2 = .ok (.iload_n 1, 1) := by decide +kernel
theorem dX3_putAside_3 : decode cX3_putAside 3 = .ok (.sipush 147, 3) := by decide +kernel
theorem dX3_putAside_6 : decode cX3_putAside 6 = .ok (.if_icmp .ge 21, 3) := by decide +kernel
theorem dX3_putAside_9 : decode cX3_putAside 9 = .ok (.aload_n 0, 1) := by decide +kernel
theorem dX3_putAside_10 : decode cX3_putAside 10 = .ok (.getfield 13, 3) := by decide +kernel
theorem dX3_putAside_13 : decode cX3_putAside 13 = .ok (.iload_n 1, 1) := by decide +kernel
theorem dX3_putAside_14 : decode cX3_putAside 14 = .ok (.aload_n 0, 1) := by decide +kernel
theorem dX3_putAside_15 : decode cX3_putAside 15 = .ok (.getfield 7, 3) := by decide +kernel
theorem dX3_putAside_18 : decode cX3_putAside 18 = .ok (.iload_n 1, 1) := by decide +kernel
theorem dX3_putAside_19 : decode cX3_putAside 19 = .ok (.iaload, 1) := by decide +kernel
theorem dX3_putAside_20 : decode cX3_putAside 20 = .ok (.iastore, 1) := by decide +kernel
theorem dX3_putAside_21 : decode cX3_putAside 21 = .ok (.iinc 1 1, 3) := by decide +kernel
theorem dX3_putAside_24 : decode cX3_putAside 24 = .ok (.goto (-22), 3) := by decide +kernel
theorem dX3_putAside_27 : decode cX3_putAside 27 = .ok (.return_, 1) := by decide +kernel
theorem dX3_putBack_0 : decode cX3_putBack 0 = .ok (.iconst 0, 1) := by decide +kernel
theorem dX3_putBack_1 : decode cX3_putBack 1 = .ok (.istore_n 1, 1) := by decide +kernel
theorem dX3_putBack_2 : decode cX3_putBack 2 = .ok (.iload_n 1, 1) := by decide +kernel
theorem dX3_putBack_3 : decode cX3_putBack 3 = .ok (.sipush 147, 3) := by decide +kernel
theorem dX3_putBack_6 : decode cX3_putBack 6 = .ok (.if_icmp .ge 21, 3) := by decide +kernel
theorem dX3_putBack_9 : decode cX3_putBack 9 = .ok (.aload_n 0, 1) := by decide +kernel
theorem dX3_putBack_10 : decode cX3_putBack 10 = .ok (.getfield 7, 3) := by decide +kernel
theorem dX3_putBack_13 : decode cX3_putBack 13 = .ok (.iload_n 1, 1) := by decide +kernel
theorem dX3_putBack_14 : decode cX3_putBack 14 = .ok (.aload_n 0, 1) := by decide +kernel
theorem dX3_putBack_15 : decode cX3_putBack 15 = .ok (.getfield 13, 3) := by decide +kernel
theorem dX3_putBack_18 : decode cX3_putBack 18 = .ok (.iload_n 1, 1) := by decide +kernel
theorem dX3_putBack_19 : decode cX3_putBack 19 = .ok (.iaload, 1) := by decide +kernel
theorem dX3_putBack_20 : decode cX3_putBack 20 = .ok (.iastore, 1) := by decide +kernel
theorem dX3_putBack_21 : decode cX3_putBack 21 = .ok (.iinc 1 1, 3) := by decide +kernel
theorem dX3_putBack_24 : decode cX3_putBack 24 = .ok (.goto (-22), 3) := by decide +kernel
theorem dX3_putBack_27 : decode cX3_putBack 27 = .ok (.return_, 1) := by decide +kernel
set_option maxRecDepth 20000 in
theorem ggX3_isPin_X3_ofPins : GoodIn wsX3_isPin wsX3_ofPins := goodIn_r _ [5] rfl (by decide +kernel)
set_option maxRecDepth 20000 in
theorem gX3_isPin_X3_ofPins : GoodIn wsX3_isPin (va_wsS RX3 46 yX3_ofPins wsX3_ofPins) := goodIn_app (goodIn_r _ [2, 3, 4] rfl (by decide +kernel)) ggX3_isPin_X3_ofPins
theorem dX3_isPin_0 : decode cX3_isPin 0 = .ok (.aload_n 0, 1) := by decide +kernel
theorem dX3_isPin_1 : decode cX3_isPin 1 = .ok (.getfield 7, 3) := by decide +kernel
theorem dX3_isPin_4 : decode cX3_isPin 4 = .ok (.iload_n 1, 1) := by decide +kernel
theorem dX3_isPin_5 : decode cX3_isPin 5 = .ok (.iload_n 2, 1) := by decide +kernel
theorem dX3_isPin_6 : decode cX3_isPin 6 = .ok (.invokestatic 46, 3) := by decide +kernel
theorem dX3_isPin_9 : decode cX3_isPin 9 = .ok (.iaload, 1) := by decide +kernel
theorem dX3_isPin_10 : decode cX3_isPin 10 = .ok (.iload_n 3, 1) := by decide +kernel
theorem dX3_isPin_11 : decode cX3_isPin 11 = .ok (.ishr, 1) := by decide +kernel
theorem dX3_isPin_12 : decode cX3_isPin 12 = .ok (.iconst 1, 1) := by decide +kernel
theorem dX3_isPin_13 : decode cX3_isPin 13 = .ok (.iand, 1) := by decide +kernel
theorem dX3_isPin_14 : decode cX3_isPin 14 = .ok (.iconst 1, 1) := by decide +kernel
theorem dX3_isPin_15 : decode cX3_isPin 15 = .ok (.if_icmp .ne 7, 3) := by decide +kernel
theorem dX3_isPin_18 : decode cX3_isPin 18 = .ok (.iconst 1, 1) := by decide +kernel
theorem dX3_isPin_19 : decode cX3_isPin 19 = .ok (.goto 4, 3) := by decide +kernel
theorem dX3_isPin_22 : decode cX3_isPin 22 = .ok (.iconst 0, 1) := by decide +kernel
theorem dX3_isPin_23 : decode cX3_isPin 23 = .ok (.ireturn, 1) := by decide +kernel
set_option maxRecDepth 20000 in
theorem ggX3_pinsAt_X3_isPin : GoodIn wsX3_pinsAt wsX3_isPin := goodIn_r _ [5, 6, 7, 8, 4, 9, 10, 11, 12, 13, 14, 15, 16, 17, 18, 19, 20, 21, 22] rfl (by decide +kernel)
set_option maxRecDepth 20000 in
theorem gX3_pinsAt_X3_isPin : GoodIn wsX3_pinsAt (wsV RX3 50 RX3 yX3_isPin wsX3_isPin) := goodIn_app (goodIn_r _ [1, 2, 3, 4] rfl (by decide +kernel)) ggX3_pinsAt_X3_isPin
theorem dX3_pinsAt_0 : decode cX3_pinsAt 0 = .ok (.iconst 0, 1) := by decide +kernel
theorem dX3_pinsAt_1 : decode cX3_pinsAt 1 = .ok (.istore_n 3, 1) := by decide +kernel
theorem dX3_pinsAt_2 : decode cX3_pinsAt 2 = .ok (.iconst 0, 1) := by decide +kernel
theorem dX3_pinsAt_3 : decode cX3_pinsAt 3 = .ok (.istore 4, 2) := by decide +kernel
theorem dX3_pinsAt_5 : decode cX3_pinsAt 5 = .ok (.iload 4, 2) := by decide +kernel
theorem dX3_pinsAt_7 : decode cX3_pinsAt 7 = .ok (.bipush 12, 2) := by decide +kernel
theorem dX3_pinsAt_9 : decode cX3_pinsAt 9 = .ok (.if_icmp .ge 31, 3) := by decide +kernel
theorem dX3_pinsAt_12 : decode cX3_pinsAt 12 = .ok (.iload_n 3, 1) := by decide +kernel
theorem dX3_pinsAt_13 : decode cX3_pinsAt 13 = .ok (.aload_n 0, 1) := by decide +kernel
theorem dX3_pinsAt_14 : decode cX3_pinsAt 14 = .ok (.iload_n 1, 1) := by decide +kernel
theorem dX3_pinsAt_15 : decode cX3_pinsAt 15 = .ok (.iload 4, 2) := by decide +kernel
theorem dX3_pinsAt_17 : decode cX3_pinsAt 17 = .ok (.iload_n 2, 1) := by decide +kernel
theorem dX3_pinsAt_18 : decode cX3_pinsAt 18 = .ok (.invokevirtual 50, 3) := by decide +kernel
theorem dX3_pinsAt_21 : decode cX3_pinsAt 21 = .ok (.ifCond .eq 10, 3) := by decide +kernel
theorem dX3_pinsAt_24 : decode cX3_pinsAt 24 = .ok (.iconst 1, 1) := by decide +kernel
theorem dX3_pinsAt_25 : decode cX3_pinsAt 25 = .ok (.iload 4, 2) := by decide +kernel
theorem dX3_pinsAt_27 : decode cX3_pinsAt 27 = .ok (.ishl, 1) := by decide +kernel
theorem dX3_pinsAt_28 : decode cX3_pinsAt 28 = .ok (.goto 4, 3) := by decide +kernel
theorem dX3_pinsAt_31 : decode cX3_pinsAt 31 = .ok (.iconst 0, 1) := by decide +kernel
theorem dX3_pinsAt_32 : decode cX3_pinsAt 32 = .ok (.ior, 1) := by decide +kernel
theorem dX3_pinsAt_33 : decode cX3_pinsAt 33 = .ok (.istore_n 3, 1) := by decide +kernel
theorem dX3_pinsAt_34 : decode cX3_pinsAt 34 = .ok (.iinc 4 1, 3) := by decide +kernel
theorem dX3_pinsAt_37 : decode cX3_pinsAt 37 = .ok (.goto (-32), 3) := by decide +kernel
theorem dX3_pinsAt_40 : decode cX3_pinsAt 40 = .ok (.iload_n 3, 1) := by decide +kernel
theorem dX3_pinsAt_41 : decode cX3_pinsAt 41 = .ok (.ireturn, 1) := by decide +kernel
theorem dX3_ones_0 : decode cX3_ones 0 = .ok (.iconst 0, 1) := by decide +kernel
theorem dX3_ones_1 : decode cX3_ones 1 = .ok (.istore_n 1, 1) := by decide +kernel
theorem dX3_ones_2 : decode cX3_ones 2 = .ok (.iconst 0, 1) := by decide +kernel
theorem dX3_ones_3 : decode cX3_ones 3 = .ok (.istore_n 2, 1) := by decide +kernel
theorem dX3_ones_4 : decode cX3_ones 4 = .ok (.iload_n 2, 1) := by decide +kernel
theorem dX3_ones_5 : decode cX3_ones 5 = .ok (.bipush 32, 2) := by decide +kernel
theorem dX3_ones_7 : decode cX3_ones 7 = .ok (.if_icmp .ge 17, 3) := by decide +kernel
theorem dX3_ones_10 : decode cX3_ones 10 = .ok (.iload_n 1, 1) := by decide +kernel
theorem dX3_ones_11 : decode cX3_ones 11 = .ok (.iload_n 0, 1) := by decide +kernel
theorem dX3_ones_12 : decode cX3_ones 12 = .ok (.iload_n 2, 1) := by decide +kernel
theorem dX3_ones_13 : decode cX3_ones 13 = .ok (.ishr, 1) := by decide +kernel
theorem dX3_ones_14 : decode cX3_ones 14 = .ok (.iconst 1, 1) := by decide +kernel
theorem dX3_ones_15 : decode cX3_ones 15 = .ok (.iand, 1) := by decide +kernel
theorem dX3_ones_16 : decode cX3_ones 16 = .ok (.iadd, 1) := by decide +kernel
theorem dX3_ones_17 : decode cX3_ones 17 = .ok (.istore_n 1, 1) := by decide +kernel
theorem dX3_ones_18 : decode cX3_ones 18 = .ok (.iinc 2 1, 3) := by decide +kernel
theorem dX3_ones_21 : decode cX3_ones 21 = .ok (.goto (-17), 3) := by decide +kernel
theorem dX3_ones_24 : decode cX3_ones 24 = .ok (.iload_n 1, 1) := by decide +kernel
theorem dX3_ones_25 : decode cX3_ones 25 = .ok (.ireturn, 1) := by decide +kernel
set_option maxRecDepth 20000 in
theorem ggX3_isNear_X3_isPin : GoodIn wsX3_isNear wsX3_isPin := goodIn_r _ [6, 1, 7, 8, 5, 9, 10, 11, 12, 13, 14, 15, 16, 17, 18, 19, 20, 21, 22] rfl (by decide +kernel)
set_option maxRecDepth 20000 in
theorem gX3_isNear_X3_isPin : GoodIn wsX3_isNear (wsV RX3 50 RX3 yX3_isPin wsX3_isPin) := goodIn_app (goodIn_r _ [2, 3, 4, 5] rfl (by decide +kernel)) ggX3_isNear_X3_isPin
theorem dX3_isNear_0 : decode cX3_isNear 0 = .ok (.iconst 0, 1) := by decide +kernel
theorem dX3_isNear_1 : decode cX3_isNear 1 = .ok (.istore 4, 2) := by decide +kernel
theorem dX3_isNear_3 : decode cX3_isNear 3 = .ok (.iconst 1, 1) := by decide +kernel
theorem dX3_isNear_4 : decode cX3_isNear 4 = .ok (.istore 5, 2) := by decide +kernel
theorem dX3_isNear_6 : decode cX3_isNear 6 = .ok (.iload 5, 2) := by decide +kernel
theorem dX3_isNear_8 : decode cX3_isNear 8 = .ok (.aload_n 0, 1) := by decide +kernel
theorem dX3_isNear_9 : decode cX3_isNear 9 = .ok (.getfield 7, 3) := by decide +kernel
theorem dX3_isNear_12 : decode cX3_isNear 12 = .ok (.sipush 145, 3) := by decide +kernel
theorem dX3_isNear_15 : decode cX3_isNear 15 = .ok (.iaload, 1) := by decide +kernel
theorem dX3_isNear_16 : decode cX3_isNear 16 = .ok (.if_icmp .ge 56, 3) := by decide +kernel
theorem dX3_isNear_19 : decode cX3_isNear 19 = .ok (.iload 4, 2) := by decide +kernel
theorem dX3_isNear_21 : decode cX3_isNear 21 = .ok (.ifCond .ne 38, 3) := by decide +kernel
theorem dX3_isNear_24 : decode cX3_isNear 24 = .ok (.aload_n 0, 1) := by decide +kernel
theorem dX3_isNear_25 : decode cX3_isNear 25 = .ok (.iload_n 1, 1) := by decide +kernel
theorem dX3_isNear_26 : decode cX3_isNear 26 = .ok (.iload_n 2, 1) := by decide +kernel
theorem dX3_isNear_27 : decode cX3_isNear 27 = .ok (.iload_n 3, 1) := by decide +kernel
theorem dX3_isNear_28 : decode cX3_isNear 28 = .ok (.iload 5, 2) := by decide +kernel
theorem dX3_isNear_30 : decode cX3_isNear 30 = .ok (.iadd, 1) := by decide +kernel
theorem dX3_isNear_31 : decode cX3_isNear 31 = .ok (.bipush 32, 2) := by decide +kernel
theorem dX3_isNear_33 : decode cX3_isNear 33 = .ok (.irem, 1) := by decide +kernel
theorem dX3_isNear_34 : decode cX3_isNear 34 = .ok (.invokevirtual 50, 3) := by decide +kernel
theorem dX3_isNear_37 : decode cX3_isNear 37 = .ok (.ifCond .ne 22, 3) := by decide +kernel
theorem dX3_isNear_40 : decode cX3_isNear 40 = .ok (.aload_n 0, 1) := by decide +kernel
theorem dX3_isNear_41 : decode cX3_isNear 41 = .ok (.iload_n 1, 1) := by decide +kernel
theorem dX3_isNear_42 : decode cX3_isNear 42 = .ok (.iload_n 2, 1) := by decide +kernel
theorem dX3_isNear_43 : decode cX3_isNear 43 = .ok (.iload_n 3, 1) := by decide +kernel
theorem dX3_isNear_44 : decode cX3_isNear 44 = .ok (.bipush 32, 2) := by decide +kernel
theorem dX3_isNear_46 : decode cX3_isNear 46 = .ok (.iadd, 1) := by decide +kernel
theorem dX3_isNear_47 : decode cX3_isNear 47 = .ok (.iload 5, 2) := by decide +kernel
theorem dX3_isNear_49 : decode cX3_isNear 49 = .ok (.isub, 1) := by decide +kernel
theorem dX3_isNear_50 : decode cX3_isNear 50 = .ok (.bipush 32, 2) := by decide +kernel
theorem dX3_isNear_52 : decode cX3_isNear 52 = .ok (.irem, 1) := by decide +kernel
theorem dX3_isNear_53 : decode cX3_isNear 53 = .ok (.invokevirtual 50, 3) := by decide +kernel
theorem dX3_isNear_56 : decode cX3_isNear 56 = .ok (.ifCond .eq 7, 3) := by decide +kernel
theorem dX3_isNear_59 : decode cX3_isNear 59 = .ok (.iconst 1, 1) := by decide +kernel
theorem dX3_isNear_60 : decode cX3_isNear 60 = .ok (.goto 4, 3) := by decide +kernel
theorem dX3_isNear_63 : decode cX3_isNear 63 = .ok (.iconst 0, 1) := by decide +kernel
theorem dX3_isNear_64 : decode cX3_isNear 64 = .ok (.istore 4, 2) := by decide +kernel
theorem dX3_isNear_66 : decode cX3_isNear 66 = .ok (.iinc 5 1, 3) := by decide +kernel
theorem dX3_isNear_69 : decode cX3_isNear 69 = .ok (.goto (-63), 3) := by decide +kernel
theorem dX3_isNear_72 : decode cX3_isNear 72 = .ok (.iload 4, 2) := by decide +kernel
theorem dX3_isNear_74 : decode cX3_isNear 74 = .ok (.ireturn, 1) := by decide +kernel
set_option maxRecDepth 20000 in
theorem ggX3_hindrance_X3_isPin : GoodIn wsX3_hindrance wsX3_isPin := goodIn_r _ [6, 1, 7, 8, 5, 9, 21, 22, 23, 24, 25, 26, 27, 28, 29, 30, 31, 32, 33] rfl (by decide +kernel)
set_option maxRecDepth 20000 in
theorem gX3_hindrance_X3_isPin : GoodIn wsX3_hindrance (wsV RX3 50 RX3 yX3_isPin wsX3_isPin) := goodIn_app (goodIn_r _ [2, 3, 4, 5] rfl (by decide +kernel)) ggX3_hindrance_X3_isPin
set_option maxRecDepth 20000 in
theorem ggX3_hindrance_X3_isNear : GoodIn wsX3_hindrance wsX3_isNear := goodIn_r _ [13, 1, 2, 3, 4, 5, 6, 7, 8, 9, 21, 22, 23, 24, 25, 26, 27, 28, 29, 30, 31, 32, 33] rfl (by decide +kernel)
set_option maxRecDepth 20000 in
theorem gX3_hindrance_X3_isNear : GoodIn wsX3_hindrance (wsV RX3 53 RX3 yX3_isNear wsX3_isNear) := goodIn_app (goodIn_r _ [10, 11, 12, 5] rfl (by decide +kernel)) ggX3_hindrance_X3_isNear
set_option maxRecDepth 20000 in
theorem ggX3_hindrance_X3_pinsAt : GoodIn wsX3_hindrance wsX3_pinsAt := goodIn_r _ [17, 2, 3, 4, 5, 6, 1, 7, 8, 9, 21, 22, 23, 24, 25, 26, 27, 28, 29, 30, 31, 32, 33] rfl (by decide +kernel)
set_option maxRecDepth 20000 in
theorem gX3_hindrance_X3_pinsAt : GoodIn wsX3_hindrance (wsV RX3 56 RX3 yX3_pinsAt wsX3_pinsAt) := goodIn_app (goodIn_r _ [14, 15, 16, 5] rfl (by decide +kernel)) ggX3_hindrance_X3_pinsAt
set_option maxRecDepth 20000 in
theorem ggX3_hindrance_X3_ones : GoodIn wsX3_hindrance wsX3_ones := goodIn_r _ [20] rfl (by decide +kernel)
set_option maxRecDepth 20000 in
theorem gX3_hindrance_X3_ones : GoodIn wsX3_hindrance (va_wsS RX3 59 yX3_ones wsX3_ones) := goodIn_app (goodIn_r _ [18, 19, 5] rfl (by decide +kernel)) ggX3_hindrance_X3_ones
theorem dX3_hindrance_0 : decode cX3_hindrance 0 = .ok (.aload_n 0, 1) := by decide +kernel
theorem dX3_hindrance_1 : decode cX3_hindrance 1 = .ok (.iload_n 1, 1) := by decide +kernel
theorem dX3_hindrance_2 : decode cX3_hindrance 2 = .ok (.iload_n 2, 1) := by decide +kernel
theorem dX3_hindrance_3 : decode cX3_hindrance 3 = .ok (.iload_n 3, 1) := by decide +kernel
theorem dX3_hindrance_4 : decode cX3_hindrance 4 = .ok (.invokevirtual 50, 3) := by decide +kernel
theorem dX3_hindrance_7 : decode cX3_hindrance 7 = .ok (.ifCond .ne 13, 3) := by decide +kernel
theorem dX3_hindrance_10 : decode cX3_hindrance 10 = .ok (.aload_n 0, 1) := by decide +kernel
theorem dX3_hindrance_11 : decode cX3_hindrance 11 = .ok (.iload_n 1, 1) := by decide +kernel
theorem dX3_hindrance_12 : decode cX3_hindrance 12 = .ok (.iload_n 2, 1) := by decide +kernel
theorem dX3_hindrance_13 : decode cX3_hindrance 13 = .ok (.iload_n 3, 1) := by decide +kernel
theorem dX3_hindrance_14 : decode cX3_hindrance 14 = .ok (.invokevirtual 53, 3) := by decide +kernel
theorem dX3_hindrance_17 : decode cX3_hindrance 17 = .ok (.ifCond .eq 19, 3) := by decide +kernel
theorem dX3_hindrance_20 : decode cX3_hindrance 20 = .ok (.aload_n 0, 1) := by decide +kernel
theorem dX3_hindrance_21 : decode cX3_hindrance 21 = .ok (.iload_n 1, 1) := by decide +kernel
theorem dX3_hindrance_22 : decode cX3_hindrance 22 = .ok (.iload_n 2, 1) := by decide +kernel
theorem dX3_hindrance_23 : decode cX3_hindrance 23 = .ok (.iload_n 3, 1) := by decide +kernel
theorem dX3_hindrance_24 : decode cX3_hindrance 24 = .ok (.invokevirtual 50, 3) := by decide +kernel
theorem dX3_hindrance_27 : decode cX3_hindrance 27 = .ok (.ifCond .eq 7, 3) := by decide +kernel
theorem dX3_hindrance_30 : decode cX3_hindrance 30 = .ok (.iconst 1, 1) := by decide +kernel
theorem dX3_hindrance_31 : decode cX3_hindrance 31 = .ok (.goto 4, 3) := by decide +kernel
theorem dX3_hindrance_34 : decode cX3_hindrance 34 = .ok (.iconst 2, 1) := by decide +kernel
theorem dX3_hindrance_35 : decode cX3_hindrance 35 = .ok (.ireturn, 1) := by decide +kernel
theorem dX3_hindrance_36 : decode cX3_hindrance 36 = .ok (.aload_n 0, 1) := by decide +kernel
theorem dX3_hindrance_37 : decode cX3_hindrance 37 = .ok (.iload_n 1, 1) := by decide +kernel
theorem dX3_hindrance_38 : decode cX3_hindrance 38 = .ok (.iload_n 3, 1) := by decide +kernel
theorem dX3_hindrance_39 : decode cX3_hindrance 39 = .ok (.invokevirtual 56, 3) := by decide +kernel
theorem dX3_hindrance_42 : decode cX3_hindrance 42 = .ok (.invokestatic 59, 3) := by decide +kernel
theorem dX3_hindrance_45 : decode cX3_hindrance 45 = .ok (.aload_n 0, 1) := by decide +kernel
theorem dX3_hindrance_46 : decode cX3_hindrance 46 = .ok (.getfield 7, 3) := by decide +kernel
theorem dX3_hindrance_49 : decode cX3_hindrance 49 = .ok (.sipush 146, 3) := by decide +kernel
theorem dX3_hindrance_52 : decode cX3_hindrance 52 = .ok (.iaload, 1) := by decide +kernel
theorem dX3_hindrance_53 : decode cX3_hindrance 53 = .ok (.if_icmp .lt 7, 3) := by decide +kernel
theorem dX3_hindrance_56 : decode cX3_hindrance 56 = .ok (.iconst 3, 1) := by decide +kernel
theorem dX3_hindrance_57 : decode cX3_hindrance 57 = .ok (.goto 4, 3) := by decide +kernel
theorem dX3_hindrance_60 : decode cX3_hindrance 60 = .ok (.iconst 0, 1) := by decide +kernel
theorem dX3_hindrance_61 : decode cX3_hindrance 61 = .ok (.ireturn, 1) := by decide +kernel
set_option maxRecDepth 20000 in
theorem ggX3_pinsOf_X3_ofPins : GoodIn wsX3_pinsOf wsX3_ofPins := goodIn_r _ [5] rfl (by decide +kernel)
set_option maxRecDepth 20000 in
theorem gX3_pinsOf_X3_ofPins : GoodIn wsX3_pinsOf (va_wsS RX3 46 yX3_ofPins wsX3_ofPins) := goodIn_app (goodIn_r _ [2, 3, 4] rfl (by decide +kernel)) ggX3_pinsOf_X3_ofPins
set_option maxRecDepth 20000 in
theorem ggX3_pinsOf_X3_ones : GoodIn wsX3_pinsOf wsX3_ones := goodIn_r _ [8] rfl (by decide +kernel)
set_option maxRecDepth 20000 in
theorem gX3_pinsOf_X3_ones : GoodIn wsX3_pinsOf (va_wsS RX3 59 yX3_ones wsX3_ones) := goodIn_app (goodIn_r _ [6, 7, 4] rfl (by decide +kernel)) ggX3_pinsOf_X3_ones
theorem dX3_pinsOf_0 : decode cX3_pinsOf 0 = .ok (.iconst 0, 1) := by decide +kernel
theorem dX3_pinsOf_1 : decode cX3_pinsOf 1 = .ok (.istore_n 2, 1) := by decide +kernel
theorem dX3_pinsOf_2 : decode cX3_pinsOf 2 = .ok (.iconst 0, 1) := by decide +kernel
theorem dX3_pinsOf_3 : decode cX3_pinsOf 3 = .ok (.istore_n 3, 1) := by decide +kernel
theorem dX3_pinsOf_4 : decode cX3_pinsOf 4 = .ok (.iload_n 3, 1) := by decide +kernel
theorem dX3_pinsOf_5 : decode cX3_pinsOf 5 = .ok (.bipush 12, 2) := by decide +kernel
theorem dX3_pinsOf_7 : decode cX3_pinsOf 7 = .ok (.if_icmp .ge 25, 3) := by decide +kernel
theorem dX3_pinsOf_10 : decode cX3_pinsOf 10 = .ok (.iload_n 2, 1) := by decide +kernel
theorem dX3_pinsOf_11 : decode cX3_pinsOf 11 = .ok (.aload_n 0, 1) := by decide +kernel
theorem dX3_pinsOf_12 : decode cX3_pinsOf 12 = .ok (.getfield 7, 3) := by decide +kernel
theorem dX3_pinsOf_15 : decode cX3_pinsOf 15 = .ok (.iload_n 1, 1) := by decide +kernel
theorem dX3_pinsOf_16 : decode cX3_pinsOf 16 = .ok (.iload_n 3, 1) := by decide +kernel
theorem dX3_pinsOf_17 : decode cX3_pinsOf 17 = .ok (.invokestatic 46, 3) := by decide +kernel
theorem dX3_pinsOf_20 : decode cX3_pinsOf 20 = .ok (.iaload, 1) := by decide +kernel
theorem dX3_pinsOf_21 : decode cX3_pinsOf 21 = .ok (.invokestatic 59, 3) := by decide +kernel
theorem dX3_pinsOf_24 : decode cX3_pinsOf 24 = .ok (.iadd, 1) := by decide +kernel
theorem dX3_pinsOf_25 : decode cX3_pinsOf 25 = .ok (.istore_n 2, 1) := by decide +kernel
theorem dX3_pinsOf_26 : decode cX3_pinsOf 26 = .ok (.iinc 3 1, 3) := by decide +kernel
theorem dX3_pinsOf_29 : decode cX3_pinsOf 29 = .ok (.goto (-25), 3) := by decide +kernel
theorem dX3_pinsOf_32 : decode cX3_pinsOf 32 = .ok (.iload_n 2, 1) := by decide +kernel
theorem dX3_pinsOf_33 : decode cX3_pinsOf 33 = .ok (.ireturn, 1) := by decide +kernel
set_option maxRecDepth 20000 in
theorem ggX3_allPins_X3_pinsOf : GoodIn wsX3_allPins wsX3_pinsOf := goodIn_r _ [5, 6, 7, 8, 4, 9, 10, 11, 12, 13, 14, 15, 16, 17, 18, 19, 20, 21, 22, 23, 24, 25] rfl (by decide +kernel)
set_option maxRecDepth 20000 in
theorem gX3_allPins_X3_pinsOf : GoodIn wsX3_allPins (wsV RX3 63 RX3 yX3_pinsOf wsX3_pinsOf) := goodIn_app (goodIn_r _ [1, 2, 3, 4] rfl (by decide +kernel)) ggX3_allPins_X3_pinsOf
theorem dX3_allPins_0 : decode cX3_allPins 0 = .ok (.aload_n 0, 1) := by decide +kernel
theorem dX3_allPins_1 : decode cX3_allPins 1 = .ok (.iconst 0, 1) := by decide +kernel
theorem dX3_allPins_2 : decode cX3_allPins 2 = .ok (.invokevirtual 63, 3) := by decide +kernel
theorem dX3_allPins_5 : decode cX3_allPins 5 = .ok (.aload_n 0, 1) := by decide +kernel
theorem dX3_allPins_6 : decode cX3_allPins 6 = .ok (.iconst 1, 1) := by decide +kernel
theorem dX3_allPins_7 : decode cX3_allPins 7 = .ok (.invokevirtual 63, 3) := by decide +kernel
theorem dX3_allPins_10 : decode cX3_allPins 10 = .ok (.iadd, 1) := by decide +kernel
theorem dX3_allPins_11 : decode cX3_allPins 11 = .ok (.aload_n 0, 1) := by decide +kernel
theorem dX3_allPins_12 : decode cX3_allPins 12 = .ok (.iconst 2, 1) := by decide +kernel
theorem dX3_allPins_13 : decode cX3_allPins 13 = .ok (.invokevirtual 63, 3) := by decide +kernel
theorem dX3_allPins_16 : decode cX3_allPins 16 = .ok (.iadd, 1) := by decide +kernel
theorem dX3_allPins_17 : decode cX3_allPins 17 = .ok (.ireturn, 1) := by decide +kernel
set_option maxRecDepth 20000 in
theorem ggX3_pin_X3_areThere : GoodIn wsX3_pin wsX3_areThere := goodIn_r _ [5, 6, 7, 4, 8, 9, 10, 11, 12, 13, 14, 15, 16, 17] rfl (by decide +kernel)
set_option maxRecDepth 20000 in
theorem gX3_pin_X3_areThere : GoodIn wsX3_pin (va_wsS RX3 66 yX3_areThere wsX3_areThere) := goodIn_app (goodIn_r _ [2, 3, 4] rfl (by decide +kernel)) ggX3_pin_X3_areThere
set_option maxRecDepth 20000 in
theorem ggX3_pin_X3_hindrance : GoodIn wsX3_pin wsX3_hindrance := goodIn_r _ [21, 1, 22, 23, 24, 4, 25, 26, 27, 28, 29, 30, 31, 32, 33, 34, 35, 36, 37, 38, 39, 55, 56, 57, 58, 59, 60, 61, 62, 63, 64, 65, 66, 67] rfl (by decide +kernel)
set_option maxRecDepth 20000 in
theorem gX3_pin_X3_hindrance : GoodIn wsX3_pin (wsV RX3 69 RX3 yX3_hindrance wsX3_hindrance) := goodIn_app (goodIn_r _ [18, 19, 20, 4] rfl (by decide +kernel)) ggX3_pin_X3_hindrance
set_option maxRecDepth 20000 in
theorem ggX3_pin_X3_holds : GoodIn wsX3_pin wsX3_holds := goodIn_r _ [43, 44, 55, 56, 57, 58, 59, 60, 61, 62, 63, 64, 65, 66, 67] rfl (by decide +kernel)
set_option maxRecDepth 20000 in
theorem gX3_pin_X3_holds : GoodIn wsX3_pin (wsV RX3 73 RX3 yX3_holds wsX3_holds) := goodIn_app (goodIn_r _ [40, 41, 42, 4] rfl (by decide +kernel)) ggX3_pin_X3_holds
set_option maxRecDepth 20000 in
theorem ggX3_pin_X3_save : GoodIn wsX3_pin wsX3_save := goodIn_r _ [48, 49, 50, 1, 55, 56, 57, 58, 59, 60, 61, 62, 63, 64, 65, 66, 67] rfl (by decide +kernel)
set_option maxRecDepth 20000 in
theorem gX3_pin_X3_save : GoodIn wsX3_pin (wsV RX3 76 RX3 yX3_save wsX3_save) := goodIn_app (goodIn_r _ [45, 46, 47, 4] rfl (by decide +kernel)) ggX3_pin_X3_save
set_option maxRecDepth 20000 in
theorem ggX3_pin_X3_ofPins : GoodIn wsX3_pin wsX3_ofPins := goodIn_r _ [28] rfl (by decide +kernel)
set_option maxRecDepth 20000 in
theorem gX3_pin_X3_ofPins : GoodIn wsX3_pin (va_wsS RX3 46 yX3_ofPins wsX3_ofPins) := goodIn_app (goodIn_r _ [26, 27, 4] rfl (by decide +kernel)) ggX3_pin_X3_ofPins
set_option maxRecDepth 20000 in
theorem ggX3_pin_X3_pinsOf : GoodIn wsX3_pin wsX3_pinsOf := goodIn_r _ [54, 1, 26, 27, 4, 28, 37, 38, 39, 55, 56, 57, 58, 59, 60, 61, 62, 63, 64, 65, 66, 67] rfl (by decide +kernel)
set_option maxRecDepth 20000 in
theorem gX3_pin_X3_pinsOf : GoodIn wsX3_pin (wsV RX3 63 RX3 yX3_pinsOf wsX3_pinsOf) := goodIn_app (goodIn_r _ [51, 52, 53, 4] rfl (by decide +kernel)) ggX3_pin_X3_pinsOf
theorem dX3_pin_0 : decode cX3_pin 0 = .ok (.aload_n 0, 1) := by decide +kernel
theorem dX3_pin_1 : decode cX3_pin 1 = .ok (.iload_n 1, 1) := by decide +kernel
theorem dX3_pin_2 : decode cX3_pin 2 = .ok (.iload_n 2, 1) := by decide +kernel
theorem dX3_pin_3 : decode cX3_pin 3 = .ok (.iload_n 3, 1) := by decide +kernel
theorem dX3_pin_4 : decode cX3_pin 4 = .ok (.invokestatic 66, 3) := by decide +kernel
theorem dX3_pin_7 : decode cX3_pin 7 = .ok (.ifCond .ne 7, 3) := by decide +kernel
theorem dX3_pin_10 : decode cX3_pin 10 = .ok (.iconst 1, 1) := by decide +kernel
theorem dX3_pin_11 : decode cX3_pin 11 = .ok (.goto 18, 3) := by decide +kernel
theorem dX3_pin_14 : decode cX3_pin 14 = .ok (.aload_n 0, 1) := by decide +kernel
theorem dX3_pin_15 : decode cX3_pin 15 = .ok (.iload_n 1, 1) := by decide +kernel
theorem dX3_pin_16 : decode cX3_pin 16 = .ok (.iload_n 2, 1) := by decide +kernel
theorem dX3_pin_17 : decode cX3_pin 17 = .ok (.iload_n 3, 1) := by decide +kernel
theorem dX3_pin_18 : decode cX3_pin 18 = .ok (.invokevirtual 69, 3) := by decide +kernel
theorem dX3_pin_21 : decode cX3_pin 21 = .ok (.ifCond .le 7, 3) := by decide +kernel
theorem dX3_pin_24 : decode cX3_pin 24 = .ok (.iconst 2, 1) := by decide +kernel
theorem dX3_pin_25 : decode cX3_pin 25 = .ok (.goto 4, 3) := by decide +kernel
theorem dX3_pin_28 : decode cX3_pin 28 = .ok (.iconst 0, 1) := by decide +kernel
theorem dX3_pin_29 : decode cX3_pin 29 = .ok (.invokevirtual 73, 3) := by decide +kernel
theorem dX3_pin_32 : decode cX3_pin 32 = .ok (.ifCond .ne 5, 3) := by decide +kernel
theorem dX3_pin_35 : decode cX3_pin 35 = .ok (.iconst 0, 1) := by decide +kernel
theorem dX3_pin_36 : decode cX3_pin 36 = .ok (.ireturn, 1) := by decide +kernel
theorem dX3_pin_37 : decode cX3_pin 37 = .ok (.aload_n 0, 1) := by decide +kernel
theorem dX3_pin_38 : decode cX3_pin 38 = .ok (.invokevirtual 76, 3) := by decide +kernel
theorem dX3_pin_41 : decode cX3_pin 41 = .ok (.aload_n 0, 1) := by decide +kernel
theorem dX3_pin_42 : decode cX3_pin 42 = .ok (.getfield 7, 3) := by decide +kernel
theorem dX3_pin_45 : decode cX3_pin 45 = .ok (.iload_n 1, 1) := by decide +kernel
theorem dX3_pin_46 : decode cX3_pin 46 = .ok (.iload_n 2, 1) := by decide +kernel
theorem dX3_pin_47 : decode cX3_pin 47 = .ok (.invokestatic 46, 3) := by decide +kernel
theorem dX3_pin_50 : decode cX3_pin 50 = .ok (.dup2, 1) := by decide +kernel
theorem dX3_pin_51 : decode cX3_pin 51 = .ok (.iaload, 1) := by decide +kernel
theorem dX3_pin_52 : decode cX3_pin 52 = .ok (.iconst 1, 1) := by decide +kernel
theorem dX3_pin_53 : decode cX3_pin 53 = .ok (.iload_n 3, 1) := by decide +kernel
theorem dX3_pin_54 : decode cX3_pin 54 = .ok (.ishl, 1) := by decide +kernel
theorem dX3_pin_55 : decode cX3_pin 55 = .ok (.ior, 1) := by decide +kernel
theorem dX3_pin_56 : decode cX3_pin 56 = .ok (.iastore, 1) := by decide +kernel
theorem dX3_pin_57 : decode cX3_pin 57 = .ok (.aload_n 0, 1) := by decide +kernel
theorem dX3_pin_58 : decode cX3_pin 58 = .ok (.iload_n 1, 1) := by decide +kernel
theorem dX3_pin_59 : decode cX3_pin 59 = .ok (.invokevirtual 63, 3) := by decide +kernel
theorem dX3_pin_62 : decode cX3_pin 62 = .ok (.ireturn, 1) := by decide +kernel
set_option maxRecDepth 20000 in
theorem ggX3_pull_X3_areThere : GoodIn wsX3_pull wsX3_areThere := goodIn_r _ [5, 6, 7, 4, 8, 9, 10, 11, 12, 13, 14, 15, 16, 17] rfl (by decide +kernel)
set_option maxRecDepth 20000 in
theorem gX3_pull_X3_areThere : GoodIn wsX3_pull (va_wsS RX3 66 yX3_areThere wsX3_areThere) := goodIn_app (goodIn_r _ [2, 3, 4] rfl (by decide +kernel)) ggX3_pull_X3_areThere
set_option maxRecDepth 20000 in
theorem ggX3_pull_X3_isStep : GoodIn wsX3_pull wsX3_isStep := goodIn_r _ [17, 9, 10, 4, 11] rfl (by decide +kernel)
set_option maxRecDepth 20000 in
theorem gX3_pull_X3_isStep : GoodIn wsX3_pull (va_wsS RX3 40 yX3_isStep wsX3_isStep) := goodIn_app (goodIn_r _ [15, 16, 4] rfl (by decide +kernel)) ggX3_pull_X3_isStep
set_option maxRecDepth 20000 in
theorem ggX3_pull_X3_holds : GoodIn wsX3_pull wsX3_holds := goodIn_r _ [21, 22, 36, 37, 38, 39, 40, 41, 42, 43, 44, 45, 46, 47, 48] rfl (by decide +kernel)
set_option maxRecDepth 20000 in
theorem gX3_pull_X3_holds : GoodIn wsX3_pull (wsV RX3 73 RX3 yX3_holds wsX3_holds) := goodIn_app (goodIn_r _ [18, 19, 20, 4] rfl (by decide +kernel)) ggX3_pull_X3_holds
set_option maxRecDepth 20000 in
theorem ggX3_pull_X3_save : GoodIn wsX3_pull wsX3_save := goodIn_r _ [26, 27, 28, 1, 36, 37, 38, 39, 40, 41, 42, 43, 44, 45, 46, 47, 48] rfl (by decide +kernel)
set_option maxRecDepth 20000 in
theorem gX3_pull_X3_save : GoodIn wsX3_pull (wsV RX3 76 RX3 yX3_save wsX3_save) := goodIn_app (goodIn_r _ [23, 24, 25, 4] rfl (by decide +kernel)) ggX3_pull_X3_save
set_option maxRecDepth 20000 in
theorem ggX3_pull_X3_isPin : GoodIn wsX3_pull wsX3_isPin := goodIn_r _ [32, 1, 33, 34, 4, 35, 36, 37, 38, 39, 40, 41, 42, 43, 44, 45, 46, 47, 48] rfl (by decide +kernel)
set_option maxRecDepth 20000 in
theorem gX3_pull_X3_isPin : GoodIn wsX3_pull (wsV RX3 50 RX3 yX3_isPin wsX3_isPin) := goodIn_app (goodIn_r _ [29, 30, 31, 4] rfl (by decide +kernel)) ggX3_pull_X3_isPin
set_option maxRecDepth 20000 in
theorem ggX3_pull_X3_ofPins : GoodIn wsX3_pull wsX3_ofPins := goodIn_r _ [35] rfl (by decide +kernel)
set_option maxRecDepth 20000 in
theorem gX3_pull_X3_ofPins : GoodIn wsX3_pull (va_wsS RX3 46 yX3_ofPins wsX3_ofPins) := goodIn_app (goodIn_r _ [33, 34, 4] rfl (by decide +kernel)) ggX3_pull_X3_ofPins
theorem dX3_pull_0 : decode cX3_pull 0 = .ok (.aload_n 0, 1) := by decide +kernel
theorem dX3_pull_1 : decode cX3_pull 1 = .ok (.iload_n 1, 1) := by decide +kernel
theorem dX3_pull_2 : decode cX3_pull 2 = .ok (.iload_n 2, 1) := by decide +kernel
theorem dX3_pull_3 : decode cX3_pull 3 = .ok (.iload_n 3, 1) := by decide +kernel
theorem dX3_pull_4 : decode cX3_pull 4 = .ok (.invokestatic 66, 3) := by decide +kernel
theorem dX3_pull_7 : decode cX3_pull 7 = .ok (.ifCond .eq 11, 3) := by decide +kernel
theorem dX3_pull_10 : decode cX3_pull 10 = .ok (.iload 4, 2) := by decide +kernel
theorem dX3_pull_12 : decode cX3_pull 12 = .ok (.invokestatic 40, 3) := by decide +kernel
theorem dX3_pull_15 : decode cX3_pull 15 = .ok (.ifCond .ne 7, 3) := by decide +kernel
theorem dX3_pull_18 : decode cX3_pull 18 = .ok (.iconst 1, 1) := by decide +kernel
theorem dX3_pull_19 : decode cX3_pull 19 = .ok (.goto 14, 3) := by decide +kernel
theorem dX3_pull_22 : decode cX3_pull 22 = .ok (.iload 4, 2) := by decide +kernel
theorem dX3_pull_24 : decode cX3_pull 24 = .ok (.iload_n 3, 1) := by decide +kernel
theorem dX3_pull_25 : decode cX3_pull 25 = .ok (.if_icmp .ge 7, 3) := by decide +kernel
theorem dX3_pull_28 : decode cX3_pull 28 = .ok (.iconst 2, 1) := by decide +kernel
theorem dX3_pull_29 : decode cX3_pull 29 = .ok (.goto 4, 3) := by decide +kernel
theorem dX3_pull_32 : decode cX3_pull 32 = .ok (.iconst 0, 1) := by decide +kernel
theorem dX3_pull_33 : decode cX3_pull 33 = .ok (.invokevirtual 73, 3) := by decide +kernel
theorem dX3_pull_36 : decode cX3_pull 36 = .ok (.ifCond .ne 5, 3) := by decide +kernel
theorem dX3_pull_39 : decode cX3_pull 39 = .ok (.iconst 0, 1) := by decide +kernel
theorem dX3_pull_40 : decode cX3_pull 40 = .ok (.ireturn, 1) := by decide +kernel
theorem dX3_pull_41 : decode cX3_pull 41 = .ok (.aload_n 0, 1) := by decide +kernel
theorem dX3_pull_42 : decode cX3_pull 42 = .ok (.invokevirtual 76, 3) := by decide +kernel
theorem dX3_pull_45 : decode cX3_pull 45 = .ok (.iconst 0, 1) := by decide +kernel
theorem dX3_pull_46 : decode cX3_pull 46 = .ok (.istore 5, 2) := by decide +kernel
theorem dX3_pull_48 : decode cX3_pull 48 = .ok (.iload_n 3, 1) := by decide +kernel
theorem dX3_pull_49 : decode cX3_pull 49 = .ok (.istore 6, 2) := by decide +kernel
theorem dX3_pull_51 : decode cX3_pull 51 = .ok (.iload 6, 2) := by decide +kernel
theorem dX3_pull_53 : decode cX3_pull 53 = .ok (.iload 4, 2) := by decide +kernel
theorem dX3_pull_55 : decode cX3_pull 55 = .ok (.if_icmp .gt 49, 3) := by decide +kernel
theorem dX3_pull_58 : decode cX3_pull 58 = .ok (.iload 5, 2) := by decide +kernel
theorem dX3_pull_60 : decode cX3_pull 60 = .ok (.aload_n 0, 1) := by decide +kernel
theorem dX3_pull_61 : decode cX3_pull 61 = .ok (.iload_n 1, 1) := by decide +kernel
theorem dX3_pull_62 : decode cX3_pull 62 = .ok (.iload_n 2, 1) := by decide +kernel
theorem dX3_pull_63 : decode cX3_pull 63 = .ok (.iload 6, 2) := by decide +kernel
theorem dX3_pull_65 : decode cX3_pull 65 = .ok (.invokevirtual 50, 3) := by decide +kernel
theorem dX3_pull_68 : decode cX3_pull 68 = .ok (.ifCond .eq 7, 3) := by decide +kernel
theorem dX3_pull_71 : decode cX3_pull 71 = .ok (.iconst 1, 1) := by decide +kernel
theorem dX3_pull_72 : decode cX3_pull 72 = .ok (.goto 4, 3) := by decide +kernel
theorem dX3_pull_75 : decode cX3_pull 75 = .ok (.iconst 0, 1) := by decide +kernel
theorem dX3_pull_76 : decode cX3_pull 76 = .ok (.iadd, 1) := by decide +kernel
theorem dX3_pull_77 : decode cX3_pull 77 = .ok (.istore 5, 2) := by decide +kernel
theorem dX3_pull_79 : decode cX3_pull 79 = .ok (.aload_n 0, 1) := by decide +kernel
theorem dX3_pull_80 : decode cX3_pull 80 = .ok (.getfield 7, 3) := by decide +kernel
theorem dX3_pull_83 : decode cX3_pull 83 = .ok (.iload_n 1, 1) := by decide +kernel
theorem dX3_pull_84 : decode cX3_pull 84 = .ok (.iload_n 2, 1) := by decide +kernel
theorem dX3_pull_85 : decode cX3_pull 85 = .ok (.invokestatic 46, 3) := by decide +kernel
theorem dX3_pull_88 : decode cX3_pull 88 = .ok (.dup2, 1) := by decide +kernel
theorem dX3_pull_89 : decode cX3_pull 89 = .ok (.iaload, 1) := by decide +kernel
theorem dX3_pull_90 : decode cX3_pull 90 = .ok (.iconst 1, 1) := by decide +kernel
theorem dX3_pull_91 : decode cX3_pull 91 = .ok (.iload 6, 2) := by decide +kernel
theorem dX3_pull_93 : decode cX3_pull 93 = .ok (.ishl, 1) := by decide +kernel
theorem dX3_pull_94 : decode cX3_pull 94 = .ok (.iconst (-1), 1) := by decide +kernel
theorem dX3_pull_95 : decode cX3_pull 95 = .ok (.ixor, 1) := by decide +kernel
theorem dX3_pull_96 : decode cX3_pull 96 = .ok (.iand, 1) := by decide +kernel
theorem dX3_pull_97 : decode cX3_pull 97 = .ok (.iastore, 1) := by decide +kernel
theorem dX3_pull_98 : decode cX3_pull 98 = .ok (.iinc 6 1, 3) := by decide +kernel
theorem dX3_pull_101 : decode cX3_pull 101 = .ok (.goto (-50), 3) := by decide +kernel
theorem dX3_pull_104 : decode cX3_pull 104 = .ok (.iload 5, 2) := by decide +kernel
theorem dX3_pull_106 : decode cX3_pull 106 = .ok (.ireturn, 1) := by decide +kernel
set_option maxRecDepth 20000 in
theorem ggX3_copy_X3_in : GoodIn wsX3_copy wsX3_in := goodIn_r _ [5] rfl (by decide +kernel)
set_option maxRecDepth 20000 in
theorem gX3_copy_X3_in : GoodIn wsX3_copy (va_wsS RX3 29 yX3_in wsX3_in) := goodIn_app (goodIn_r _ [2, 3, 4] rfl (by decide +kernel)) ggX3_copy_X3_in
set_option maxRecDepth 20000 in
theorem ggX3_copy_X3_isTune : GoodIn wsX3_copy wsX3_isTune := goodIn_r _ [8, 2, 3, 4, 5] rfl (by decide +kernel)
set_option maxRecDepth 20000 in
theorem gX3_copy_X3_isTune : GoodIn wsX3_copy (va_wsS RX3 33 yX3_isTune wsX3_isTune) := goodIn_app (goodIn_r _ [6, 7, 4] rfl (by decide +kernel)) ggX3_copy_X3_isTune
set_option maxRecDepth 20000 in
theorem ggX3_copy_X3_holds : GoodIn wsX3_copy wsX3_holds := goodIn_r _ [12, 13, 37, 38, 39, 40, 41, 42, 43, 44, 45, 46, 47, 48, 49] rfl (by decide +kernel)
set_option maxRecDepth 20000 in
theorem gX3_copy_X3_holds : GoodIn wsX3_copy (wsV RX3 73 RX3 yX3_holds wsX3_holds) := goodIn_app (goodIn_r _ [9, 10, 11, 4] rfl (by decide +kernel)) ggX3_copy_X3_holds
set_option maxRecDepth 20000 in
theorem ggX3_copy_X3_save : GoodIn wsX3_copy wsX3_save := goodIn_r _ [17, 18, 19, 1, 37, 38, 39, 40, 41, 42, 43, 44, 45, 46, 47, 48, 49] rfl (by decide +kernel)
set_option maxRecDepth 20000 in
theorem gX3_copy_X3_save : GoodIn wsX3_copy (wsV RX3 76 RX3 yX3_save wsX3_save) := goodIn_app (goodIn_r _ [14, 15, 16, 4] rfl (by decide +kernel)) ggX3_copy_X3_save
set_option maxRecDepth 20000 in
theorem ggX3_copy_X3_ofPins : GoodIn wsX3_copy wsX3_ofPins := goodIn_r _ [22] rfl (by decide +kernel)
set_option maxRecDepth 20000 in
theorem gX3_copy_X3_ofPins : GoodIn wsX3_copy (va_wsS RX3 46 yX3_ofPins wsX3_ofPins) := goodIn_app (goodIn_r _ [20, 21, 4] rfl (by decide +kernel)) ggX3_copy_X3_ofPins
set_option maxRecDepth 20000 in
theorem ggX3_copy_X3_isPin : GoodIn wsX3_copy wsX3_isPin := goodIn_r _ [26, 1, 20, 21, 4, 22, 37, 38, 39, 40, 41, 42, 43, 44, 45, 46, 47, 48, 49] rfl (by decide +kernel)
set_option maxRecDepth 20000 in
theorem gX3_copy_X3_isPin : GoodIn wsX3_copy (wsV RX3 50 RX3 yX3_isPin wsX3_isPin) := goodIn_app (goodIn_r _ [23, 24, 25, 4] rfl (by decide +kernel)) ggX3_copy_X3_isPin
set_option maxRecDepth 20000 in
theorem ggX3_copy_X3_isTooth : GoodIn wsX3_copy wsX3_isTooth := goodIn_r _ [29, 2, 3, 4, 5] rfl (by decide +kernel)
set_option maxRecDepth 20000 in
theorem gX3_copy_X3_isTooth : GoodIn wsX3_copy (va_wsS RX3 37 yX3_isTooth wsX3_isTooth) := goodIn_app (goodIn_r _ [27, 28, 4] rfl (by decide +kernel)) ggX3_copy_X3_isTooth
set_option maxRecDepth 20000 in
theorem ggX3_copy_X3_pinsOf : GoodIn wsX3_copy wsX3_pinsOf := goodIn_r _ [33, 1, 20, 21, 4, 22, 34, 35, 36, 37, 38, 39, 40, 41, 42, 43, 44, 45, 46, 47, 48, 49] rfl (by decide +kernel)
set_option maxRecDepth 20000 in
theorem gX3_copy_X3_pinsOf : GoodIn wsX3_copy (wsV RX3 63 RX3 yX3_pinsOf wsX3_pinsOf) := goodIn_app (goodIn_r _ [30, 31, 32, 4] rfl (by decide +kernel)) ggX3_copy_X3_pinsOf
theorem dX3_copy_0 : decode cX3_copy 0 = .ok (.iload_n 1, 1) := by decide +kernel
theorem dX3_copy_1 : decode cX3_copy 1 = .ok (.iload_n 2, 1) := by decide +kernel
theorem dX3_copy_2 : decode cX3_copy 2 = .ok (.if_icmp .eq 30, 3) := by decide +kernel
theorem dX3_copy_5 : decode cX3_copy 5 = .ok (.iload_n 3, 1) := by decide +kernel
theorem dX3_copy_6 : decode cX3_copy 6 = .ok (.bipush (-31), 2) := by decide +kernel
theorem dX3_copy_8 : decode cX3_copy 8 = .ok (.bipush 31, 2) := by decide +kernel
theorem dX3_copy_10 : decode cX3_copy 10 = .ok (.invokestatic 29, 3) := by decide +kernel
theorem dX3_copy_13 : decode cX3_copy 13 = .ok (.ifCond .eq 19, 3) := by decide +kernel
theorem dX3_copy_16 : decode cX3_copy 16 = .ok (.iload 4, 2) := by decide +kernel
theorem dX3_copy_18 : decode cX3_copy 18 = .ok (.bipush (-11), 2) := by decide +kernel
theorem dX3_copy_20 : decode cX3_copy 20 = .ok (.bipush 11, 2) := by decide +kernel
theorem dX3_copy_22 : decode cX3_copy 22 = .ok (.invokestatic 29, 3) := by decide +kernel
theorem dX3_copy_25 : decode cX3_copy 25 = .ok (.ifCond .eq 7, 3) := by decide +kernel
theorem dX3_copy_28 : decode cX3_copy 28 = .ok (.iconst 1, 1) := by decide +kernel
theorem dX3_copy_29 : decode cX3_copy 29 = .ok (.goto 4, 3) := by decide +kernel
theorem dX3_copy_32 : decode cX3_copy 32 = .ok (.iconst 0, 1) := by decide +kernel
theorem dX3_copy_33 : decode cX3_copy 33 = .ok (.istore 5, 2) := by decide +kernel
theorem dX3_copy_35 : decode cX3_copy 35 = .ok (.aload_n 0, 1) := by decide +kernel
theorem dX3_copy_36 : decode cX3_copy 36 = .ok (.iload_n 1, 1) := by decide +kernel
theorem dX3_copy_37 : decode cX3_copy 37 = .ok (.invokestatic 33, 3) := by decide +kernel
theorem dX3_copy_40 : decode cX3_copy 40 = .ok (.ifCond .eq 10, 3) := by decide +kernel
theorem dX3_copy_43 : decode cX3_copy 43 = .ok (.iload_n 2, 1) := by decide +kernel
theorem dX3_copy_44 : decode cX3_copy 44 = .ok (.invokestatic 33, 3) := by decide +kernel
theorem dX3_copy_47 : decode cX3_copy 47 = .ok (.ifCond .ne 7, 3) := by decide +kernel
theorem dX3_copy_50 : decode cX3_copy 50 = .ok (.iconst 1, 1) := by decide +kernel
theorem dX3_copy_51 : decode cX3_copy 51 = .ok (.goto 13, 3) := by decide +kernel
theorem dX3_copy_54 : decode cX3_copy 54 = .ok (.iload 5, 2) := by decide +kernel
theorem dX3_copy_56 : decode cX3_copy 56 = .ok (.ifCond .eq 7, 3) := by decide +kernel
theorem dX3_copy_59 : decode cX3_copy 59 = .ok (.iconst 0, 1) := by decide +kernel
theorem dX3_copy_60 : decode cX3_copy 60 = .ok (.goto 4, 3) := by decide +kernel
theorem dX3_copy_63 : decode cX3_copy 63 = .ok (.iconst 2, 1) := by decide +kernel
theorem dX3_copy_64 : decode cX3_copy 64 = .ok (.invokevirtual 73, 3) := by decide +kernel
theorem dX3_copy_67 : decode cX3_copy 67 = .ok (.ifCond .ne 5, 3) := by decide +kernel
theorem dX3_copy_70 : decode cX3_copy 70 = .ok (.iconst 0, 1) := by decide +kernel
theorem dX3_copy_71 : decode cX3_copy 71 = .ok (.ireturn, 1) := by decide +kernel
theorem dX3_copy_72 : decode cX3_copy 72 = .ok (.aload_n 0, 1) := by decide +kernel
theorem dX3_copy_73 : decode cX3_copy 73 = .ok (.invokevirtual 76, 3) := by decide +kernel
theorem dX3_copy_76 : decode cX3_copy 76 = .ok (.iconst 0, 1) := by decide +kernel
theorem dX3_copy_77 : decode cX3_copy 77 = .ok (.istore 6, 2) := by decide +kernel
theorem dX3_copy_79 : decode cX3_copy 79 = .ok (.iload 6, 2) := by decide +kernel
theorem dX3_copy_81 : decode cX3_copy 81 = .ok (.bipush 12, 2) := by decide +kernel
theorem dX3_copy_83 : decode cX3_copy 83 = .ok (.if_icmp .ge 21, 3) := by decide +kernel
theorem dX3_copy_86 : decode cX3_copy 86 = .ok (.aload_n 0, 1) := by decide +kernel
theorem dX3_copy_87 : decode cX3_copy 87 = .ok (.getfield 7, 3) := by decide +kernel
theorem dX3_copy_90 : decode cX3_copy 90 = .ok (.iload_n 2, 1) := by decide +kernel
theorem dX3_copy_91 : decode cX3_copy 91 = .ok (.iload 6, 2) := by decide +kernel
theorem dX3_copy_93 : decode cX3_copy 93 = .ok (.invokestatic 46, 3) := by decide +kernel
theorem dX3_copy_96 : decode cX3_copy 96 = .ok (.iconst 0, 1) := by decide +kernel
theorem dX3_copy_97 : decode cX3_copy 97 = .ok (.iastore, 1) := by decide +kernel
theorem dX3_copy_98 : decode cX3_copy 98 = .ok (.iinc 6 1, 3) := by decide +kernel
theorem dX3_copy_101 : decode cX3_copy 101 = .ok (.goto (-22), 3) := by decide +kernel
theorem dX3_copy_104 : decode cX3_copy 104 = .ok (.iconst 0, 1) := by decide +kernel
theorem dX3_copy_105 : decode cX3_copy 105 = .ok (.istore 6, 2) := by decide +kernel
theorem dX3_copy_107 : decode cX3_copy 107 = .ok (.iload 6, 2) := by decide +kernel
theorem dX3_copy_109 : decode cX3_copy 109 = .ok (.sipush 384, 3) := by decide +kernel
theorem dX3_copy_112 : decode cX3_copy 112 = .ok (.if_icmp .ge 86, 3) := by decide +kernel
theorem dX3_copy_115 : decode cX3_copy 115 = .ok (.iload 6, 2) := by decide +kernel
theorem dX3_copy_117 : decode cX3_copy 117 = .ok (.bipush 32, 2) := by decide +kernel
theorem dX3_copy_119 : decode cX3_copy 119 = .ok (.idiv, 1) := by decide +kernel
theorem dX3_copy_120 : decode cX3_copy 120 = .ok (.iload 4, 2) := by decide +kernel
theorem dX3_copy_122 : decode cX3_copy 122 = .ok (.iadd, 1) := by decide +kernel
theorem dX3_copy_123 : decode cX3_copy 123 = .ok (.istore 7, 2) := by decide +kernel
theorem dX3_copy_125 : decode cX3_copy 125 = .ok (.aload_n 0, 1) := by decide +kernel
theorem dX3_copy_126 : decode cX3_copy 126 = .ok (.iload_n 1, 1) := by decide +kernel
theorem dX3_copy_127 : decode cX3_copy 127 = .ok (.iload 6, 2) := by decide +kernel
theorem dX3_copy_129 : decode cX3_copy 129 = .ok (.bipush 32, 2) := by decide +kernel
theorem dX3_copy_131 : decode cX3_copy 131 = .ok (.idiv, 1) := by decide +kernel
theorem dX3_copy_132 : decode cX3_copy 132 = .ok (.iload 6, 2) := by decide +kernel
theorem dX3_copy_134 : decode cX3_copy 134 = .ok (.bipush 32, 2) := by decide +kernel
theorem dX3_copy_136 : decode cX3_copy 136 = .ok (.irem, 1) := by decide +kernel
theorem dX3_copy_137 : decode cX3_copy 137 = .ok (.invokevirtual 50, 3) := by decide +kernel
theorem dX3_copy_140 : decode cX3_copy 140 = .ok (.ifCond .eq 15, 3) := by decide +kernel
theorem dX3_copy_143 : decode cX3_copy 143 = .ok (.iload 7, 2) := by decide +kernel
theorem dX3_copy_145 : decode cX3_copy 145 = .ok (.invokestatic 37, 3) := by decide +kernel
theorem dX3_copy_148 : decode cX3_copy 148 = .ok (.ifCond .eq 7, 3) := by decide +kernel
theorem dX3_copy_151 : decode cX3_copy 151 = .ok (.iconst 1, 1) := by decide +kernel
theorem dX3_copy_152 : decode cX3_copy 152 = .ok (.goto 4, 3) := by decide +kernel
theorem dX3_copy_155 : decode cX3_copy 155 = .ok (.iconst 0, 1) := by decide +kernel
theorem dX3_copy_156 : decode cX3_copy 156 = .ok (.istore 8, 2) := by decide +kernel
theorem dX3_copy_158 : decode cX3_copy 158 = .ok (.iload 8, 2) := by decide +kernel
theorem dX3_copy_160 : decode cX3_copy 160 = .ok (.ifCond .eq 32, 3) := by decide +kernel
theorem dX3_copy_163 : decode cX3_copy 163 = .ok (.aload_n 0, 1) := by decide +kernel
theorem dX3_copy_164 : decode cX3_copy 164 = .ok (.getfield 7, 3) := by decide +kernel
theorem dX3_copy_167 : decode cX3_copy 167 = .ok (.iload_n 2, 1) := by decide +kernel
theorem dX3_copy_168 : decode cX3_copy 168 = .ok (.iload 7, 2) := by decide +kernel
theorem dX3_copy_170 : decode cX3_copy 170 = .ok (.invokestatic 46, 3) := by decide +kernel
theorem dX3_copy_173 : decode cX3_copy 173 = .ok (.dup2, 1) := by decide +kernel
theorem dX3_copy_174 : decode cX3_copy 174 = .ok (.iaload, 1) := by decide +kernel
theorem dX3_copy_175 : decode cX3_copy 175 = .ok (.iconst 1, 1) := by decide +kernel
theorem dX3_copy_176 : decode cX3_copy 176 = .ok (.iload 6, 2) := by decide +kernel
theorem dX3_copy_178 : decode cX3_copy 178 = .ok (.bipush 32, 2) := by decide +kernel
theorem dX3_copy_180 : decode cX3_copy 180 = .ok (.irem, 1) := by decide +kernel
theorem dX3_copy_181 : decode cX3_copy 181 = .ok (.iload_n 3, 1) := by decide +kernel
theorem dX3_copy_182 : decode cX3_copy 182 = .ok (.iadd, 1) := by decide +kernel
theorem dX3_copy_183 : decode cX3_copy 183 = .ok (.bipush 32, 2) := by decide +kernel
theorem dX3_copy_185 : decode cX3_copy 185 = .ok (.iadd, 1) := by decide +kernel
theorem dX3_copy_186 : decode cX3_copy 186 = .ok (.bipush 32, 2) := by decide +kernel
theorem dX3_copy_188 : decode cX3_copy 188 = .ok (.irem, 1) := by decide +kernel
theorem dX3_copy_189 : decode cX3_copy 189 = .ok (.ishl, 1) := by decide +kernel
theorem dX3_copy_190 : decode cX3_copy 190 = .ok (.ior, 1) := by decide +kernel
theorem dX3_copy_191 : decode cX3_copy 191 = .ok (.iastore, 1) := by decide +kernel
theorem dX3_copy_192 : decode cX3_copy 192 = .ok (.iinc 6 1, 3) := by decide +kernel
theorem dX3_copy_195 : decode cX3_copy 195 = .ok (.goto (-88), 3) := by decide +kernel
theorem dX3_copy_198 : decode cX3_copy 198 = .ok (.aload_n 0, 1) := by decide +kernel
theorem dX3_copy_199 : decode cX3_copy 199 = .ok (.iload_n 2, 1) := by decide +kernel
theorem dX3_copy_200 : decode cX3_copy 200 = .ok (.invokevirtual 63, 3) := by decide +kernel
theorem dX3_copy_203 : decode cX3_copy 203 = .ok (.ireturn, 1) := by decide +kernel
theorem dX3_nextStep_0 : decode cX3_nextStep 0 = .ok (.aload_n 0, 1) := by decide +kernel
theorem dX3_nextStep_1 : decode cX3_nextStep 1 = .ok (.getfield 7, 3) := by decide +kernel
theorem dX3_nextStep_4 : decode cX3_nextStep 4 = .ok (.sipush 133, 3) := by decide +kernel
theorem dX3_nextStep_7 : decode cX3_nextStep 7 = .ok (.iaload, 1) := by decide +kernel
theorem dX3_nextStep_8 : decode cX3_nextStep 8 = .ok (.iconst 1, 1) := by decide +kernel
theorem dX3_nextStep_9 : decode cX3_nextStep 9 = .ok (.iadd, 1) := by decide +kernel
theorem dX3_nextStep_10 : decode cX3_nextStep 10 = .ok (.bipush 32, 2) := by decide +kernel
theorem dX3_nextStep_12 : decode cX3_nextStep 12 = .ok (.irem, 1) := by decide +kernel
theorem dX3_nextStep_13 : decode cX3_nextStep 13 = .ok (.ireturn, 1) := by decide +kernel
set_option maxRecDepth 20000 in
theorem ggX3_nextTune_X3_nextStep : GoodIn wsX3_nextTune wsX3_nextStep := goodIn_r _ [6, 1, 7, 8, 9, 10, 11, 12, 13, 14, 15, 16, 17, 18, 19] rfl (by decide +kernel)
set_option maxRecDepth 20000 in
theorem gX3_nextTune_X3_nextStep : GoodIn wsX3_nextTune (wsV RX3 79 RX3 yX3_nextStep wsX3_nextStep) := goodIn_app (goodIn_r _ [2, 3, 4, 5] rfl (by decide +kernel)) ggX3_nextTune_X3_nextStep
theorem dX3_nextTune_0 : decode cX3_nextTune 0 = .ok (.aload_n 0, 1) := by decide +kernel
theorem dX3_nextTune_1 : decode cX3_nextTune 1 = .ok (.invokevirtual 79, 3) := by decide +kernel
theorem dX3_nextTune_4 : decode cX3_nextTune 4 = .ok (.ifCond .ne 29, 3) := by decide +kernel
theorem dX3_nextTune_7 : decode cX3_nextTune 7 = .ok (.aload_n 0, 1) := by decide +kernel
theorem dX3_nextTune_8 : decode cX3_nextTune 8 = .ok (.getfield 7, 3) := by decide +kernel
theorem dX3_nextTune_11 : decode cX3_nextTune 11 = .ok (.sipush 144, 3) := by decide +kernel
theorem dX3_nextTune_14 : decode cX3_nextTune 14 = .ok (.iaload, 1) := by decide +kernel
theorem dX3_nextTune_15 : decode cX3_nextTune 15 = .ok (.ifCond .eq 18, 3) := by decide +kernel
theorem dX3_nextTune_18 : decode cX3_nextTune 18 = .ok (.aload_n 0, 1) := by decide +kernel
theorem dX3_nextTune_19 : decode cX3_nextTune 19 = .ok (.getfield 7, 3) := by decide +kernel
theorem dX3_nextTune_22 : decode cX3_nextTune 22 = .ok (.sipush 134, 3) := by decide +kernel
theorem dX3_nextTune_25 : decode cX3_nextTune 25 = .ok (.iaload, 1) := by decide +kernel
theorem dX3_nextTune_26 : decode cX3_nextTune 26 = .ok (.iconst 1, 1) := by decide +kernel
theorem dX3_nextTune_27 : decode cX3_nextTune 27 = .ok (.iadd, 1) := by decide +kernel
theorem dX3_nextTune_28 : decode cX3_nextTune 28 = .ok (.iconst 3, 1) := by decide +kernel
theorem dX3_nextTune_29 : decode cX3_nextTune 29 = .ok (.irem, 1) := by decide +kernel
theorem dX3_nextTune_30 : decode cX3_nextTune 30 = .ok (.goto 11, 3) := by decide +kernel
theorem dX3_nextTune_33 : decode cX3_nextTune 33 = .ok (.aload_n 0, 1) := by decide +kernel
theorem dX3_nextTune_34 : decode cX3_nextTune 34 = .ok (.getfield 7, 3) := by decide +kernel
theorem dX3_nextTune_37 : decode cX3_nextTune 37 = .ok (.sipush 134, 3) := by decide +kernel
theorem dX3_nextTune_40 : decode cX3_nextTune 40 = .ok (.iaload, 1) := by decide +kernel
theorem dX3_nextTune_41 : decode cX3_nextTune 41 = .ok (.ireturn, 1) := by decide +kernel
set_option maxRecDepth 20000 in
theorem ggX3_need_X3_nextTune : GoodIn wsX3_need wsX3_nextTune := goodIn_r _ [6, 1, 7, 8, 9, 5, 10, 21, 22, 23, 24, 25, 26, 27, 28, 29, 30, 31, 32, 33] rfl (by decide +kernel)
set_option maxRecDepth 20000 in
theorem gX3_need_X3_nextTune : GoodIn wsX3_need (wsV RX3 83 RX3 yX3_nextTune wsX3_nextTune) := goodIn_app (goodIn_r _ [2, 3, 4, 5] rfl (by decide +kernel)) ggX3_need_X3_nextTune
set_option maxRecDepth 20000 in
theorem ggX3_need_X3_nextStep : GoodIn wsX3_need wsX3_nextStep := goodIn_r _ [10, 1, 21, 22, 23, 24, 25, 26, 27, 28, 29, 30, 31, 32, 33] rfl (by decide +kernel)
set_option maxRecDepth 20000 in
theorem gX3_need_X3_nextStep : GoodIn wsX3_need (wsV RX3 79 RX3 yX3_nextStep wsX3_nextStep) := goodIn_app (goodIn_r _ [7, 8, 9, 5] rfl (by decide +kernel)) ggX3_need_X3_nextStep
set_option maxRecDepth 20000 in
theorem ggX3_need_X3_isPin : GoodIn wsX3_need wsX3_isPin := goodIn_r _ [14, 1, 15, 16, 5, 17, 21, 22, 23, 24, 25, 26, 27, 28, 29, 30, 31, 32, 33] rfl (by decide +kernel)
set_option maxRecDepth 20000 in
theorem gX3_need_X3_isPin : GoodIn wsX3_need (wsV RX3 50 RX3 yX3_isPin wsX3_isPin) := goodIn_app (goodIn_r _ [11, 12, 13, 5] rfl (by decide +kernel)) ggX3_need_X3_isPin
set_option maxRecDepth 20000 in
theorem ggX3_need_X3_of : GoodIn wsX3_need wsX3_of := goodIn_r _ [20] rfl (by decide +kernel)
set_option maxRecDepth 20000 in
theorem gX3_need_X3_of : GoodIn wsX3_need (va_wsS RX3 86 yX3_of wsX3_of) := goodIn_app (goodIn_r _ [18, 19, 5] rfl (by decide +kernel)) ggX3_need_X3_of
theorem dX3_need_0 : decode cX3_need 0 = .ok (.iconst 1, 1) := by decide +kernel
theorem dX3_need_1 : decode cX3_need 1 = .ok (.istore_n 1, 1) := by decide +kernel
theorem dX3_need_2 : decode cX3_need 2 = .ok (.iconst 0, 1) := by decide +kernel
theorem dX3_need_3 : decode cX3_need 3 = .ok (.istore_n 2, 1) := by decide +kernel
theorem dX3_need_4 : decode cX3_need 4 = .ok (.iload_n 2, 1) := by decide +kernel
theorem dX3_need_5 : decode cX3_need 5 = .ok (.bipush 12, 2) := by decide +kernel
theorem dX3_need_7 : decode cX3_need 7 = .ok (.if_icmp .ge 46, 3) := by decide +kernel
theorem dX3_need_10 : decode cX3_need 10 = .ok (.iload_n 1, 1) := by decide +kernel
theorem dX3_need_11 : decode cX3_need 11 = .ok (.aload_n 0, 1) := by decide +kernel
theorem dX3_need_12 : decode cX3_need 12 = .ok (.aload_n 0, 1) := by decide +kernel
theorem dX3_need_13 : decode cX3_need 13 = .ok (.invokevirtual 83, 3) := by decide +kernel
theorem dX3_need_16 : decode cX3_need 16 = .ok (.iload_n 2, 1) := by decide +kernel
theorem dX3_need_17 : decode cX3_need 17 = .ok (.aload_n 0, 1) := by decide +kernel
theorem dX3_need_18 : decode cX3_need 18 = .ok (.invokevirtual 79, 3) := by decide +kernel
theorem dX3_need_21 : decode cX3_need 21 = .ok (.invokevirtual 50, 3) := by decide +kernel
theorem dX3_need_24 : decode cX3_need 24 = .ok (.ifCond .eq 20, 3) := by decide +kernel
theorem dX3_need_27 : decode cX3_need 27 = .ok (.aload_n 0, 1) := by decide +kernel
theorem dX3_need_28 : decode cX3_need 28 = .ok (.getfield 7, 3) := by decide +kernel
theorem dX3_need_31 : decode cX3_need 31 = .ok (.iload_n 2, 1) := by decide +kernel
theorem dX3_need_32 : decode cX3_need 32 = .ok (.iconst 2, 1) := by decide +kernel
theorem dX3_need_33 : decode cX3_need 33 = .ok (.invokestatic 86, 3) := by decide +kernel
theorem dX3_need_36 : decode cX3_need 36 = .ok (.iaload, 1) := by decide +kernel
theorem dX3_need_37 : decode cX3_need 37 = .ok (.ifCond .ne 7, 3) := by decide +kernel
theorem dX3_need_40 : decode cX3_need 40 = .ok (.iconst 1, 1) := by decide +kernel
theorem dX3_need_41 : decode cX3_need 41 = .ok (.goto 4, 3) := by decide +kernel
theorem dX3_need_44 : decode cX3_need 44 = .ok (.iconst 0, 1) := by decide +kernel
theorem dX3_need_45 : decode cX3_need 45 = .ok (.iadd, 1) := by decide +kernel
theorem dX3_need_46 : decode cX3_need 46 = .ok (.istore_n 1, 1) := by decide +kernel
theorem dX3_need_47 : decode cX3_need 47 = .ok (.iinc 2 1, 3) := by decide +kernel
theorem dX3_need_50 : decode cX3_need 50 = .ok (.goto (-46), 3) := by decide +kernel
theorem dX3_need_53 : decode cX3_need 53 = .ok (.iload_n 1, 1) := by decide +kernel
theorem dX3_need_54 : decode cX3_need 54 = .ok (.ireturn, 1) := by decide +kernel
set_option maxRecDepth 20000 in
theorem ggX3_sounds_X3_of : GoodIn wsX3_sounds wsX3_of := goodIn_r _ [5] rfl (by decide +kernel)
set_option maxRecDepth 20000 in
theorem gX3_sounds_X3_of : GoodIn wsX3_sounds (va_wsS RX3 86 yX3_of wsX3_of) := goodIn_app (goodIn_r _ [2, 3, 4] rfl (by decide +kernel)) ggX3_sounds_X3_of
theorem dX3_sounds_0 : decode cX3_sounds 0 = .ok (.aload_n 0, 1) := by decide +kernel
theorem dX3_sounds_1 : decode cX3_sounds 1 = .ok (.getfield 7, 3) := by decide +kernel
theorem dX3_sounds_4 : decode cX3_sounds 4 = .ok (.sipush 142, 3) := by decide +kernel
theorem dX3_sounds_7 : decode cX3_sounds 7 = .ok (.iaload, 1) := by decide +kernel
theorem dX3_sounds_8 : decode cX3_sounds 8 = .ok (.iconst 2, 1) := by decide +kernel
theorem dX3_sounds_9 : decode cX3_sounds 9 = .ok (.iload_n 1, 1) := by decide +kernel
theorem dX3_sounds_10 : decode cX3_sounds 10 = .ok (.imul, 1) := by decide +kernel
theorem dX3_sounds_11 : decode cX3_sounds 11 = .ok (.isub, 1) := by decide +kernel
theorem dX3_sounds_12 : decode cX3_sounds 12 = .ok (.istore_n 2, 1) := by decide +kernel
theorem dX3_sounds_13 : decode cX3_sounds 13 = .ok (.aload_n 0, 1) := by decide +kernel
theorem dX3_sounds_14 : decode cX3_sounds 14 = .ok (.getfield 7, 3) := by decide +kernel
theorem dX3_sounds_17 : decode cX3_sounds 17 = .ok (.iload_n 1, 1) := by decide +kernel
theorem dX3_sounds_18 : decode cX3_sounds 18 = .ok (.iconst 0, 1) := by decide +kernel
theorem dX3_sounds_19 : decode cX3_sounds 19 = .ok (.invokestatic 86, 3) := by decide +kernel
theorem dX3_sounds_22 : decode cX3_sounds 22 = .ok (.iload_n 2, 1) := by decide +kernel
theorem dX3_sounds_23 : decode cX3_sounds 23 = .ok (.iconst 4, 1) := by decide +kernel
theorem dX3_sounds_24 : decode cX3_sounds 24 = .ok (.if_icmp .ge 7, 3) := by decide +kernel
theorem dX3_sounds_27 : decode cX3_sounds 27 = .ok (.iconst 4, 1) := by decide +kernel
theorem dX3_sounds_28 : decode cX3_sounds 28 = .ok (.goto 4, 3) := by decide +kernel
theorem dX3_sounds_31 : decode cX3_sounds 31 = .ok (.iload_n 2, 1) := by decide +kernel
theorem dX3_sounds_32 : decode cX3_sounds 32 = .ok (.iastore, 1) := by decide +kernel
theorem dX3_sounds_33 : decode cX3_sounds 33 = .ok (.aload_n 0, 1) := by decide +kernel
theorem dX3_sounds_34 : decode cX3_sounds 34 = .ok (.getfield 7, 3) := by decide +kernel
theorem dX3_sounds_37 : decode cX3_sounds 37 = .ok (.iload_n 1, 1) := by decide +kernel
theorem dX3_sounds_38 : decode cX3_sounds 38 = .ok (.iconst 3, 1) := by decide +kernel
theorem dX3_sounds_39 : decode cX3_sounds 39 = .ok (.invokestatic 86, 3) := by decide +kernel
theorem dX3_sounds_42 : decode cX3_sounds 42 = .ok (.dup2, 1) := by decide +kernel
theorem dX3_sounds_43 : decode cX3_sounds 43 = .ok (.iaload, 1) := by decide +kernel
theorem dX3_sounds_44 : decode cX3_sounds 44 = .ok (.iconst 1, 1) := by decide +kernel
theorem dX3_sounds_45 : decode cX3_sounds 45 = .ok (.iadd, 1) := by decide +kernel
theorem dX3_sounds_46 : decode cX3_sounds 46 = .ok (.iastore, 1) := by decide +kernel
theorem dX3_sounds_47 : decode cX3_sounds 47 = .ok (.aload_n 0, 1) := by decide +kernel
theorem dX3_sounds_48 : decode cX3_sounds 48 = .ok (.getfield 7, 3) := by decide +kernel
theorem dX3_sounds_51 : decode cX3_sounds 51 = .ok (.sipush 139, 3) := by decide +kernel
theorem dX3_sounds_54 : decode cX3_sounds 54 = .ok (.dup2, 1) := by decide +kernel
theorem dX3_sounds_55 : decode cX3_sounds 55 = .ok (.iaload, 1) := by decide +kernel
theorem dX3_sounds_56 : decode cX3_sounds 56 = .ok (.iconst 1, 1) := by decide +kernel
theorem dX3_sounds_57 : decode cX3_sounds 57 = .ok (.iadd, 1) := by decide +kernel
theorem dX3_sounds_58 : decode cX3_sounds 58 = .ok (.iastore, 1) := by decide +kernel
theorem dX3_sounds_59 : decode cX3_sounds 59 = .ok (.bipush 47, 2) := by decide +kernel
theorem dX3_sounds_61 : decode cX3_sounds 61 = .ok (.istore_n 3, 1) := by decide +kernel
theorem dX3_sounds_62 : decode cX3_sounds 62 = .ok (.iload_n 3, 1) := by decide +kernel
theorem dX3_sounds_63 : decode cX3_sounds 63 = .ok (.iconst 1, 1) := by decide +kernel
theorem dX3_sounds_64 : decode cX3_sounds 64 = .ok (.if_icmp .le 29, 3) := by decide +kernel
theorem dX3_sounds_67 : decode cX3_sounds 67 = .ok (.aload_n 0, 1) := by decide +kernel
theorem dX3_sounds_68 : decode cX3_sounds 68 = .ok (.getfield 7, 3) := by decide +kernel
theorem dX3_sounds_71 : decode cX3_sounds 71 = .ok (.bipush 84, 2) := by decide +kernel
theorem dX3_sounds_73 : decode cX3_sounds 73 = .ok (.iload_n 3, 1) := by decide +kernel
theorem dX3_sounds_74 : decode cX3_sounds 74 = .ok (.iadd, 1) := by decide +kernel
theorem dX3_sounds_75 : decode cX3_sounds 75 = .ok (.aload_n 0, 1) := by decide +kernel
theorem dX3_sounds_76 : decode cX3_sounds 76 = .ok (.getfield 7, 3) := by decide +kernel
theorem dX3_sounds_79 : decode cX3_sounds 79 = .ok (.bipush 84, 2) := by decide +kernel
theorem dX3_sounds_81 : decode cX3_sounds 81 = .ok (.iload_n 3, 1) := by decide +kernel
theorem dX3_sounds_82 : decode cX3_sounds 82 = .ok (.iadd, 1) := by decide +kernel
theorem dX3_sounds_83 : decode cX3_sounds 83 = .ok (.iconst 2, 1) := by decide +kernel
theorem dX3_sounds_84 : decode cX3_sounds 84 = .ok (.isub, 1) := by decide +kernel
theorem dX3_sounds_85 : decode cX3_sounds 85 = .ok (.iaload, 1) := by decide +kernel
theorem dX3_sounds_86 : decode cX3_sounds 86 = .ok (.iastore, 1) := by decide +kernel
theorem dX3_sounds_87 : decode cX3_sounds 87 = .ok (.iinc 3 (-1), 3) := by decide +kernel
theorem dX3_sounds_90 : decode cX3_sounds 90 = .ok (.goto (-28), 3) := by decide +kernel
theorem dX3_sounds_93 : decode cX3_sounds 93 = .ok (.aload_n 0, 1) := by decide +kernel
theorem dX3_sounds_94 : decode cX3_sounds 94 = .ok (.getfield 7, 3) := by decide +kernel
theorem dX3_sounds_97 : decode cX3_sounds 97 = .ok (.bipush 84, 2) := by decide +kernel
theorem dX3_sounds_99 : decode cX3_sounds 99 = .ok (.iload_n 1, 1) := by decide +kernel
theorem dX3_sounds_100 : decode cX3_sounds 100 = .ok (.iastore, 1) := by decide +kernel
theorem dX3_sounds_101 : decode cX3_sounds 101 = .ok (.aload_n 0, 1) := by decide +kernel
theorem dX3_sounds_102 : decode cX3_sounds 102 = .ok (.getfield 7, 3) := by decide +kernel
theorem dX3_sounds_105 : decode cX3_sounds 105 = .ok (.bipush 85, 2) := by decide +kernel
theorem dX3_sounds_107 : decode cX3_sounds 107 = .ok (.aload_n 0, 1) := by decide +kernel
theorem dX3_sounds_108 : decode cX3_sounds 108 = .ok (.getfield 7, 3) := by decide +kernel
theorem dX3_sounds_111 : decode cX3_sounds 111 = .ok (.sipush 137, 3) := by decide +kernel
theorem dX3_sounds_114 : decode cX3_sounds 114 = .ok (.iaload, 1) := by decide +kernel
theorem dX3_sounds_115 : decode cX3_sounds 115 = .ok (.iastore, 1) := by decide +kernel
theorem dX3_sounds_116 : decode cX3_sounds 116 = .ok (.aload_n 0, 1) := by decide +kernel
theorem dX3_sounds_117 : decode cX3_sounds 117 = .ok (.getfield 7, 3) := by decide +kernel
theorem dX3_sounds_120 : decode cX3_sounds 120 = .ok (.sipush 132, 3) := by decide +kernel
theorem dX3_sounds_123 : decode cX3_sounds 123 = .ok (.dup2, 1) := by decide +kernel
theorem dX3_sounds_124 : decode cX3_sounds 124 = .ok (.iaload, 1) := by decide +kernel
theorem dX3_sounds_125 : decode cX3_sounds 125 = .ok (.aload_n 0, 1) := by decide +kernel
theorem dX3_sounds_126 : decode cX3_sounds 126 = .ok (.getfield 7, 3) := by decide +kernel
theorem dX3_sounds_129 : decode cX3_sounds 129 = .ok (.sipush 132, 3) := by decide +kernel
theorem dX3_sounds_132 : decode cX3_sounds 132 = .ok (.iaload, 1) := by decide +kernel
theorem dX3_sounds_133 : decode cX3_sounds 133 = .ok (.bipush 24, 2) := by decide +kernel
theorem dX3_sounds_135 : decode cX3_sounds 135 = .ok (.if_icmp .ge 7, 3) := by decide +kernel
theorem dX3_sounds_138 : decode cX3_sounds 138 = .ok (.iconst 1, 1) := by decide +kernel
theorem dX3_sounds_139 : decode cX3_sounds 139 = .ok (.goto 4, 3) := by decide +kernel
theorem dX3_sounds_142 : decode cX3_sounds 142 = .ok (.iconst 0, 1) := by decide +kernel
theorem dX3_sounds_143 : decode cX3_sounds 143 = .ok (.iadd, 1) := by decide +kernel
theorem dX3_sounds_144 : decode cX3_sounds 144 = .ok (.iastore, 1) := by decide +kernel
theorem dX3_sounds_145 : decode cX3_sounds 145 = .ok (.return_, 1) := by decide +kernel
set_option maxRecDepth 20000 in
theorem ggX3_plucks_X3_of : GoodIn wsX3_plucks wsX3_of := goodIn_r _ [5] rfl (by decide +kernel)
set_option maxRecDepth 20000 in
theorem gX3_plucks_X3_of : GoodIn wsX3_plucks (va_wsS RX3 86 yX3_of wsX3_of) := goodIn_app (goodIn_r _ [2, 3, 4] rfl (by decide +kernel)) ggX3_plucks_X3_of
set_option maxRecDepth 20000 in
theorem ggX3_plucks_X3_sounds : GoodIn wsX3_plucks wsX3_sounds := goodIn_r _ [9, 1, 2, 3, 4, 5, 10, 11, 12, 13, 14, 15, 16, 17, 18, 19, 20, 21, 22] rfl (by decide +kernel)
set_option maxRecDepth 20000 in
theorem gX3_plucks_X3_sounds : GoodIn wsX3_plucks (wsV RX3 89 RX3 yX3_sounds wsX3_sounds) := goodIn_app (goodIn_r _ [6, 7, 8, 4] rfl (by decide +kernel)) ggX3_plucks_X3_sounds
theorem dX3_plucks_0 : decode cX3_plucks 0 = .ok (.aload_n 0, 1) := by decide +kernel
theorem dX3_plucks_1 : decode cX3_plucks 1 = .ok (.getfield 7, 3) := by decide +kernel
theorem dX3_plucks_4 : decode cX3_plucks 4 = .ok (.iload_n 1, 1) := by decide +kernel
theorem dX3_plucks_5 : decode cX3_plucks 5 = .ok (.iconst 0, 1) := by decide +kernel
theorem dX3_plucks_6 : decode cX3_plucks 6 = .ok (.invokestatic 86, 3) := by decide +kernel
theorem dX3_plucks_9 : decode cX3_plucks 9 = .ok (.iaload, 1) := by decide +kernel
theorem dX3_plucks_10 : decode cX3_plucks 10 = .ok (.ifCond .le 128, 3) := by decide +kernel
theorem dX3_plucks_13 : decode cX3_plucks 13 = .ok (.iload_n 2, 1) := by decide +kernel
theorem dX3_plucks_14 : decode cX3_plucks 14 = .ok (.aload_n 0, 1) := by decide +kernel
theorem dX3_plucks_15 : decode cX3_plucks 15 = .ok (.getfield 7, 3) := by decide +kernel
theorem dX3_plucks_18 : decode cX3_plucks 18 = .ok (.sipush 143, 3) := by decide +kernel
theorem dX3_plucks_21 : decode cX3_plucks 21 = .ok (.iaload, 1) := by decide +kernel
theorem dX3_plucks_22 : decode cX3_plucks 22 = .ok (.aload_n 0, 1) := by decide +kernel
theorem dX3_plucks_23 : decode cX3_plucks 23 = .ok (.getfield 7, 3) := by decide +kernel
theorem dX3_plucks_26 : decode cX3_plucks 26 = .ok (.iload_n 1, 1) := by decide +kernel
theorem dX3_plucks_27 : decode cX3_plucks 27 = .ok (.iconst 1, 1) := by decide +kernel
theorem dX3_plucks_28 : decode cX3_plucks 28 = .ok (.invokestatic 86, 3) := by decide +kernel
theorem dX3_plucks_31 : decode cX3_plucks 31 = .ok (.iaload, 1) := by decide +kernel
theorem dX3_plucks_32 : decode cX3_plucks 32 = .ok (.iadd, 1) := by decide +kernel
theorem dX3_plucks_33 : decode cX3_plucks 33 = .ok (.if_icmp .gt 105, 3) := by decide +kernel
theorem dX3_plucks_36 : decode cX3_plucks 36 = .ok (.aload_n 0, 1) := by decide +kernel
theorem dX3_plucks_37 : decode cX3_plucks 37 = .ok (.getfield 7, 3) := by decide +kernel
theorem dX3_plucks_40 : decode cX3_plucks 40 = .ok (.sipush 140, 3) := by decide +kernel
theorem dX3_plucks_43 : decode cX3_plucks 43 = .ok (.dup2, 1) := by decide +kernel
theorem dX3_plucks_44 : decode cX3_plucks 44 = .ok (.iaload, 1) := by decide +kernel
theorem dX3_plucks_45 : decode cX3_plucks 45 = .ok (.iconst 1, 1) := by decide +kernel
theorem dX3_plucks_46 : decode cX3_plucks 46 = .ok (.iadd, 1) := by decide +kernel
theorem dX3_plucks_47 : decode cX3_plucks 47 = .ok (.iastore, 1) := by decide +kernel
theorem dX3_plucks_48 : decode cX3_plucks 48 = .ok (.aload_n 0, 1) := by decide +kernel
theorem dX3_plucks_49 : decode cX3_plucks 49 = .ok (.getfield 7, 3) := by decide +kernel
theorem dX3_plucks_52 : decode cX3_plucks 52 = .ok (.iload_n 1, 1) := by decide +kernel
theorem dX3_plucks_53 : decode cX3_plucks 53 = .ok (.iconst 1, 1) := by decide +kernel
theorem dX3_plucks_54 : decode cX3_plucks 54 = .ok (.invokestatic 86, 3) := by decide +kernel
theorem dX3_plucks_57 : decode cX3_plucks 57 = .ok (.iaload, 1) := by decide +kernel
theorem dX3_plucks_58 : decode cX3_plucks 58 = .ok (.bipush 9, 2) := by decide +kernel
theorem dX3_plucks_60 : decode cX3_plucks 60 = .ok (.if_icmp .ne 7, 3) := by decide +kernel
theorem dX3_plucks_63 : decode cX3_plucks 63 = .ok (.iconst 1, 1) := by decide +kernel
theorem dX3_plucks_64 : decode cX3_plucks 64 = .ok (.goto 4, 3) := by decide +kernel
theorem dX3_plucks_67 : decode cX3_plucks 67 = .ok (.iconst 0, 1) := by decide +kernel
theorem dX3_plucks_68 : decode cX3_plucks 68 = .ok (.istore_n 3, 1) := by decide +kernel
theorem dX3_plucks_69 : decode cX3_plucks 69 = .ok (.aload_n 0, 1) := by decide +kernel
theorem dX3_plucks_70 : decode cX3_plucks 70 = .ok (.getfield 7, 3) := by decide +kernel
theorem dX3_plucks_73 : decode cX3_plucks 73 = .ok (.iload_n 1, 1) := by decide +kernel
theorem dX3_plucks_74 : decode cX3_plucks 74 = .ok (.iconst 1, 1) := by decide +kernel
theorem dX3_plucks_75 : decode cX3_plucks 75 = .ok (.invokestatic 86, 3) := by decide +kernel
theorem dX3_plucks_78 : decode cX3_plucks 78 = .ok (.dup2, 1) := by decide +kernel
theorem dX3_plucks_79 : decode cX3_plucks 79 = .ok (.iaload, 1) := by decide +kernel
theorem dX3_plucks_80 : decode cX3_plucks 80 = .ok (.iload_n 3, 1) := by decide +kernel
theorem dX3_plucks_81 : decode cX3_plucks 81 = .ok (.ifCond .eq 7, 3) := by decide +kernel
theorem dX3_plucks_84 : decode cX3_plucks 84 = .ok (.iconst 0, 1) := by decide +kernel
theorem dX3_plucks_85 : decode cX3_plucks 85 = .ok (.goto 4, 3) := by decide +kernel
theorem dX3_plucks_88 : decode cX3_plucks 88 = .ok (.iconst 1, 1) := by decide +kernel
theorem dX3_plucks_89 : decode cX3_plucks 89 = .ok (.iadd, 1) := by decide +kernel
theorem dX3_plucks_90 : decode cX3_plucks 90 = .ok (.iastore, 1) := by decide +kernel
theorem dX3_plucks_91 : decode cX3_plucks 91 = .ok (.aload_n 0, 1) := by decide +kernel
theorem dX3_plucks_92 : decode cX3_plucks 92 = .ok (.getfield 7, 3) := by decide +kernel
theorem dX3_plucks_95 : decode cX3_plucks 95 = .ok (.iload_n 1, 1) := by decide +kernel
theorem dX3_plucks_96 : decode cX3_plucks 96 = .ok (.iconst 2, 1) := by decide +kernel
theorem dX3_plucks_97 : decode cX3_plucks 97 = .ok (.invokestatic 86, 3) := by decide +kernel
theorem dX3_plucks_100 : decode cX3_plucks 100 = .ok (.iload_n 3, 1) := by decide +kernel
theorem dX3_plucks_101 : decode cX3_plucks 101 = .ok (.ifCond .eq 7, 3) := by decide +kernel
theorem dX3_plucks_104 : decode cX3_plucks 104 = .ok (.iconst 1, 1) := by decide +kernel
theorem dX3_plucks_105 : decode cX3_plucks 105 = .ok (.goto 4, 3) := by decide +kernel
theorem dX3_plucks_108 : decode cX3_plucks 108 = .ok (.iconst 0, 1) := by decide +kernel
theorem dX3_plucks_109 : decode cX3_plucks 109 = .ok (.iastore, 1) := by decide +kernel
theorem dX3_plucks_110 : decode cX3_plucks 110 = .ok (.aload_n 0, 1) := by decide +kernel
theorem dX3_plucks_111 : decode cX3_plucks 111 = .ok (.getfield 7, 3) := by decide +kernel
theorem dX3_plucks_114 : decode cX3_plucks 114 = .ok (.iload_n 1, 1) := by decide +kernel
theorem dX3_plucks_115 : decode cX3_plucks 115 = .ok (.iconst 0, 1) := by decide +kernel
theorem dX3_plucks_116 : decode cX3_plucks 116 = .ok (.invokestatic 86, 3) := by decide +kernel
theorem dX3_plucks_119 : decode cX3_plucks 119 = .ok (.iload_n 3, 1) := by decide +kernel
theorem dX3_plucks_120 : decode cX3_plucks 120 = .ok (.ifCond .eq 7, 3) := by decide +kernel
theorem dX3_plucks_123 : decode cX3_plucks 123 = .ok (.iconst 0, 1) := by decide +kernel
theorem dX3_plucks_124 : decode cX3_plucks 124 = .ok (.goto 13, 3) := by decide +kernel
theorem dX3_plucks_127 : decode cX3_plucks 127 = .ok (.aload_n 0, 1) := by decide +kernel
theorem dX3_plucks_128 : decode cX3_plucks 128 = .ok (.getfield 7, 3) := by decide +kernel
theorem dX3_plucks_131 : decode cX3_plucks 131 = .ok (.iload_n 1, 1) := by decide +kernel
theorem dX3_plucks_132 : decode cX3_plucks 132 = .ok (.iconst 0, 1) := by decide +kernel
theorem dX3_plucks_133 : decode cX3_plucks 133 = .ok (.invokestatic 86, 3) := by decide +kernel
theorem dX3_plucks_136 : decode cX3_plucks 136 = .ok (.iaload, 1) := by decide +kernel
theorem dX3_plucks_137 : decode cX3_plucks 137 = .ok (.iastore, 1) := by decide +kernel
theorem dX3_plucks_138 : decode cX3_plucks 138 = .ok (.aload_n 0, 1) := by decide +kernel
theorem dX3_plucks_139 : decode cX3_plucks 139 = .ok (.getfield 7, 3) := by decide +kernel
theorem dX3_plucks_142 : decode cX3_plucks 142 = .ok (.iload_n 1, 1) := by decide +kernel
theorem dX3_plucks_143 : decode cX3_plucks 143 = .ok (.iconst 2, 1) := by decide +kernel
theorem dX3_plucks_144 : decode cX3_plucks 144 = .ok (.invokestatic 86, 3) := by decide +kernel
theorem dX3_plucks_147 : decode cX3_plucks 147 = .ok (.iaload, 1) := by decide +kernel
theorem dX3_plucks_148 : decode cX3_plucks 148 = .ok (.ifCond .ne 8, 3) := by decide +kernel
theorem dX3_plucks_151 : decode cX3_plucks 151 = .ok (.aload_n 0, 1) := by decide +kernel
theorem dX3_plucks_152 : decode cX3_plucks 152 = .ok (.iload_n 1, 1) := by decide +kernel
theorem dX3_plucks_153 : decode cX3_plucks 153 = .ok (.invokevirtual 89, 3) := by decide +kernel
theorem dX3_plucks_156 : decode cX3_plucks 156 = .ok (.return_, 1) := by decide +kernel
set_option maxRecDepth 20000 in
theorem ggX3_goes_X3_need : GoodIn wsX3_goes wsX3_need := goodIn_r _ [6, 1, 7, 8, 9, 5, 10, 11, 12, 13, 14, 15, 16, 17, 18, 19, 20, 21, 22, 23, 24, 33, 34, 35, 36, 37, 38, 39, 40, 41, 42, 43, 44, 45] rfl (by decide +kernel)
set_option maxRecDepth 20000 in
theorem gX3_goes_X3_need : GoodIn wsX3_goes (wsV RX3 93 RX3 yX3_need wsX3_need) := goodIn_app (goodIn_r _ [2, 3, 4, 5] rfl (by decide +kernel)) ggX3_goes_X3_need
set_option maxRecDepth 20000 in
theorem ggX3_goes_X3_nextTune : GoodIn wsX3_goes wsX3_nextTune := goodIn_r _ [10, 1, 11, 12, 13, 5, 14, 33, 34, 35, 36, 37, 38, 39, 40, 41, 42, 43, 44, 45] rfl (by decide +kernel)
set_option maxRecDepth 20000 in
theorem gX3_goes_X3_nextTune : GoodIn wsX3_goes (wsV RX3 83 RX3 yX3_nextTune wsX3_nextTune) := goodIn_app (goodIn_r _ [7, 8, 9, 5] rfl (by decide +kernel)) ggX3_goes_X3_nextTune
set_option maxRecDepth 20000 in
theorem ggX3_goes_X3_nextStep : GoodIn wsX3_goes wsX3_nextStep := goodIn_r _ [14, 1, 33, 34, 35, 36, 37, 38, 39, 40, 41, 42, 43, 44, 45] rfl (by decide +kernel)
set_option maxRecDepth 20000 in
theorem gX3_goes_X3_nextStep : GoodIn wsX3_goes (wsV RX3 79 RX3 yX3_nextStep wsX3_nextStep) := goodIn_app (goodIn_r _ [11, 12, 13, 5] rfl (by decide +kernel)) ggX3_goes_X3_nextStep
set_option maxRecDepth 20000 in
theorem ggX3_goes_X3_of : GoodIn wsX3_goes wsX3_of := goodIn_r _ [24] rfl (by decide +kernel)
set_option maxRecDepth 20000 in
theorem gX3_goes_X3_of : GoodIn wsX3_goes (va_wsS RX3 86 yX3_of wsX3_of) := goodIn_app (goodIn_r _ [22, 23, 5] rfl (by decide +kernel)) ggX3_goes_X3_of
set_option maxRecDepth 20000 in
theorem ggX3_goes_X3_isPin : GoodIn wsX3_goes wsX3_isPin := goodIn_r _ [18, 1, 19, 20, 5, 21, 33, 34, 35, 36, 37, 38, 39, 40, 41, 42, 43, 44, 45] rfl (by decide +kernel)
set_option maxRecDepth 20000 in
theorem gX3_goes_X3_isPin : GoodIn wsX3_goes (wsV RX3 50 RX3 yX3_isPin wsX3_isPin) := goodIn_app (goodIn_r _ [15, 16, 17, 5] rfl (by decide +kernel)) ggX3_goes_X3_isPin
set_option maxRecDepth 20000 in
theorem ggX3_goes_X3_plucks : GoodIn wsX3_goes wsX3_plucks := goodIn_r _ [28, 1, 22, 23, 5, 24, 29, 30, 31, 32, 33, 34, 35, 36, 37, 38, 39, 40, 41, 42, 43, 44, 45] rfl (by decide +kernel)
set_option maxRecDepth 20000 in
theorem gX3_goes_X3_plucks : GoodIn wsX3_goes (wsV RX3 96 RX3 yX3_plucks wsX3_plucks) := goodIn_app (goodIn_r _ [25, 26, 27, 5] rfl (by decide +kernel)) ggX3_goes_X3_plucks
theorem dX3_goes_0 : decode cX3_goes 0 = .ok (.aload_n 0, 1) := by decide +kernel
theorem dX3_goes_1 : decode cX3_goes 1 = .ok (.invokevirtual 93, 3) := by decide +kernel
theorem dX3_goes_4 : decode cX3_goes 4 = .ok (.istore_n 1, 1) := by decide +kernel
theorem dX3_goes_5 : decode cX3_goes 5 = .ok (.aload_n 0, 1) := by decide +kernel
theorem dX3_goes_6 : decode cX3_goes 6 = .ok (.getfield 7, 3) := by decide +kernel
theorem dX3_goes_9 : decode cX3_goes 9 = .ok (.sipush 135, 3) := by decide +kernel
theorem dX3_goes_12 : decode cX3_goes 12 = .ok (.iaload, 1) := by decide +kernel
theorem dX3_goes_13 : decode cX3_goes 13 = .ok (.iload_n 1, 1) := by decide +kernel
theorem dX3_goes_14 : decode cX3_goes 14 = .ok (.if_icmp .ge 5, 3) := by decide +kernel
theorem dX3_goes_17 : decode cX3_goes 17 = .ok (.iconst 0, 1) := by decide +kernel
theorem dX3_goes_18 : decode cX3_goes 18 = .ok (.ireturn, 1) := by decide +kernel
theorem dX3_goes_19 : decode cX3_goes 19 = .ok (.aload_n 0, 1) := by decide +kernel
theorem dX3_goes_20 : decode cX3_goes 20 = .ok (.getfield 7, 3) := by decide +kernel
theorem dX3_goes_23 : decode cX3_goes 23 = .ok (.sipush 134, 3) := by decide +kernel
theorem dX3_goes_26 : decode cX3_goes 26 = .ok (.aload_n 0, 1) := by decide +kernel
theorem dX3_goes_27 : decode cX3_goes 27 = .ok (.invokevirtual 83, 3) := by decide +kernel
theorem dX3_goes_30 : decode cX3_goes 30 = .ok (.iastore, 1) := by decide +kernel
theorem dX3_goes_31 : decode cX3_goes 31 = .ok (.aload_n 0, 1) := by decide +kernel
theorem dX3_goes_32 : decode cX3_goes 32 = .ok (.getfield 7, 3) := by decide +kernel
theorem dX3_goes_35 : decode cX3_goes 35 = .ok (.sipush 133, 3) := by decide +kernel
theorem dX3_goes_38 : decode cX3_goes 38 = .ok (.aload_n 0, 1) := by decide +kernel
theorem dX3_goes_39 : decode cX3_goes 39 = .ok (.invokevirtual 79, 3) := by decide +kernel
theorem dX3_goes_42 : decode cX3_goes 42 = .ok (.iastore, 1) := by decide +kernel
theorem dX3_goes_43 : decode cX3_goes 43 = .ok (.aload_n 0, 1) := by decide +kernel
theorem dX3_goes_44 : decode cX3_goes 44 = .ok (.getfield 7, 3) := by decide +kernel
theorem dX3_goes_47 : decode cX3_goes 47 = .ok (.sipush 135, 3) := by decide +kernel
theorem dX3_goes_50 : decode cX3_goes 50 = .ok (.dup2, 1) := by decide +kernel
theorem dX3_goes_51 : decode cX3_goes 51 = .ok (.iaload, 1) := by decide +kernel
theorem dX3_goes_52 : decode cX3_goes 52 = .ok (.iload_n 1, 1) := by decide +kernel
theorem dX3_goes_53 : decode cX3_goes 53 = .ok (.isub, 1) := by decide +kernel
theorem dX3_goes_54 : decode cX3_goes 54 = .ok (.iastore, 1) := by decide +kernel
theorem dX3_goes_55 : decode cX3_goes 55 = .ok (.aload_n 0, 1) := by decide +kernel
theorem dX3_goes_56 : decode cX3_goes 56 = .ok (.getfield 7, 3) := by decide +kernel
theorem dX3_goes_59 : decode cX3_goes 59 = .ok (.sipush 141, 3) := by decide +kernel
theorem dX3_goes_62 : decode cX3_goes 62 = .ok (.dup2, 1) := by decide +kernel
theorem dX3_goes_63 : decode cX3_goes 63 = .ok (.iaload, 1) := by decide +kernel
theorem dX3_goes_64 : decode cX3_goes 64 = .ok (.iload_n 1, 1) := by decide +kernel
theorem dX3_goes_65 : decode cX3_goes 65 = .ok (.iadd, 1) := by decide +kernel
theorem dX3_goes_66 : decode cX3_goes 66 = .ok (.iastore, 1) := by decide +kernel
theorem dX3_goes_67 : decode cX3_goes 67 = .ok (.aload_n 0, 1) := by decide +kernel
theorem dX3_goes_68 : decode cX3_goes 68 = .ok (.getfield 7, 3) := by decide +kernel
theorem dX3_goes_71 : decode cX3_goes 71 = .ok (.sipush 138, 3) := by decide +kernel
theorem dX3_goes_74 : decode cX3_goes 74 = .ok (.dup2, 1) := by decide +kernel
theorem dX3_goes_75 : decode cX3_goes 75 = .ok (.iaload, 1) := by decide +kernel
theorem dX3_goes_76 : decode cX3_goes 76 = .ok (.iconst 1, 1) := by decide +kernel
theorem dX3_goes_77 : decode cX3_goes 77 = .ok (.iadd, 1) := by decide +kernel
theorem dX3_goes_78 : decode cX3_goes 78 = .ok (.iastore, 1) := by decide +kernel
theorem dX3_goes_79 : decode cX3_goes 79 = .ok (.bipush 12, 2) := by decide +kernel
theorem dX3_goes_81 : decode cX3_goes 81 = .ok (.aload_n 0, 1) := by decide +kernel
theorem dX3_goes_82 : decode cX3_goes 82 = .ok (.getfield 7, 3) := by decide +kernel
theorem dX3_goes_85 : decode cX3_goes 85 = .ok (.sipush 135, 3) := by decide +kernel
theorem dX3_goes_88 : decode cX3_goes 88 = .ok (.iaload, 1) := by decide +kernel
theorem dX3_goes_89 : decode cX3_goes 89 = .ok (.bipush 50, 2) := by decide +kernel
theorem dX3_goes_91 : decode cX3_goes 91 = .ok (.idiv, 1) := by decide +kernel
theorem dX3_goes_92 : decode cX3_goes 92 = .ok (.isub, 1) := by decide +kernel
theorem dX3_goes_93 : decode cX3_goes 93 = .ok (.aload_n 0, 1) := by decide +kernel
theorem dX3_goes_94 : decode cX3_goes 94 = .ok (.getfield 7, 3) := by decide +kernel
theorem dX3_goes_97 : decode cX3_goes 97 = .ok (.sipush 136, 3) := by decide +kernel
theorem dX3_goes_100 : decode cX3_goes 100 = .ok (.iaload, 1) := by decide +kernel
theorem dX3_goes_101 : decode cX3_goes 101 = .ok (.iadd, 1) := by decide +kernel
theorem dX3_goes_102 : decode cX3_goes 102 = .ok (.istore_n 2, 1) := by decide +kernel
theorem dX3_goes_103 : decode cX3_goes 103 = .ok (.iload_n 2, 1) := by decide +kernel
theorem dX3_goes_104 : decode cX3_goes 104 = .ok (.iconst 2, 1) := by decide +kernel
theorem dX3_goes_105 : decode cX3_goes 105 = .ok (.if_icmp .ge 7, 3) := by decide +kernel
theorem dX3_goes_108 : decode cX3_goes 108 = .ok (.iconst 2, 1) := by decide +kernel
theorem dX3_goes_109 : decode cX3_goes 109 = .ok (.goto 4, 3) := by decide +kernel
theorem dX3_goes_112 : decode cX3_goes 112 = .ok (.iload_n 2, 1) := by decide +kernel
theorem dX3_goes_113 : decode cX3_goes 113 = .ok (.istore_n 2, 1) := by decide +kernel
theorem dX3_goes_114 : decode cX3_goes 114 = .ok (.aload_n 0, 1) := by decide +kernel
theorem dX3_goes_115 : decode cX3_goes 115 = .ok (.getfield 7, 3) := by decide +kernel
theorem dX3_goes_118 : decode cX3_goes 118 = .ok (.sipush 137, 3) := by decide +kernel
theorem dX3_goes_121 : decode cX3_goes 121 = .ok (.dup2, 1) := by decide +kernel
theorem dX3_goes_122 : decode cX3_goes 122 = .ok (.iaload, 1) := by decide +kernel
theorem dX3_goes_123 : decode cX3_goes 123 = .ok (.iload_n 2, 1) := by decide +kernel
theorem dX3_goes_124 : decode cX3_goes 124 = .ok (.iadd, 1) := by decide +kernel
theorem dX3_goes_125 : decode cX3_goes 125 = .ok (.iastore, 1) := by decide +kernel
theorem dX3_goes_126 : decode cX3_goes 126 = .ok (.iconst 0, 1) := by decide +kernel
theorem dX3_goes_127 : decode cX3_goes 127 = .ok (.istore_n 3, 1) := by decide +kernel
theorem dX3_goes_128 : decode cX3_goes 128 = .ok (.iload_n 3, 1) := by decide +kernel
theorem dX3_goes_129 : decode cX3_goes 129 = .ok (.bipush 12, 2) := by decide +kernel
theorem dX3_goes_131 : decode cX3_goes 131 = .ok (.if_icmp .ge 49, 3) := by decide +kernel
theorem dX3_goes_134 : decode cX3_goes 134 = .ok (.aload_n 0, 1) := by decide +kernel
theorem dX3_goes_135 : decode cX3_goes 135 = .ok (.getfield 7, 3) := by decide +kernel
theorem dX3_goes_138 : decode cX3_goes 138 = .ok (.iload_n 3, 1) := by decide +kernel
theorem dX3_goes_139 : decode cX3_goes 139 = .ok (.iconst 0, 1) := by decide +kernel
theorem dX3_goes_140 : decode cX3_goes 140 = .ok (.invokestatic 86, 3) := by decide +kernel
theorem dX3_goes_143 : decode cX3_goes 143 = .ok (.aload_n 0, 1) := by decide +kernel
theorem dX3_goes_144 : decode cX3_goes 144 = .ok (.getfield 7, 3) := by decide +kernel
theorem dX3_goes_147 : decode cX3_goes 147 = .ok (.iload_n 3, 1) := by decide +kernel
theorem dX3_goes_148 : decode cX3_goes 148 = .ok (.iconst 0, 1) := by decide +kernel
theorem dX3_goes_149 : decode cX3_goes 149 = .ok (.invokestatic 86, 3) := by decide +kernel
theorem dX3_goes_152 : decode cX3_goes 152 = .ok (.iaload, 1) := by decide +kernel
theorem dX3_goes_153 : decode cX3_goes 153 = .ok (.iload_n 2, 1) := by decide +kernel
theorem dX3_goes_154 : decode cX3_goes 154 = .ok (.if_icmp .le 18, 3) := by decide +kernel
theorem dX3_goes_157 : decode cX3_goes 157 = .ok (.aload_n 0, 1) := by decide +kernel
theorem dX3_goes_158 : decode cX3_goes 158 = .ok (.getfield 7, 3) := by decide +kernel
theorem dX3_goes_161 : decode cX3_goes 161 = .ok (.iload_n 3, 1) := by decide +kernel
theorem dX3_goes_162 : decode cX3_goes 162 = .ok (.iconst 0, 1) := by decide +kernel
theorem dX3_goes_163 : decode cX3_goes 163 = .ok (.invokestatic 86, 3) := by decide +kernel
theorem dX3_goes_166 : decode cX3_goes 166 = .ok (.iaload, 1) := by decide +kernel
theorem dX3_goes_167 : decode cX3_goes 167 = .ok (.iload_n 2, 1) := by decide +kernel
theorem dX3_goes_168 : decode cX3_goes 168 = .ok (.isub, 1) := by decide +kernel
theorem dX3_goes_169 : decode cX3_goes 169 = .ok (.goto 4, 3) := by decide +kernel
theorem dX3_goes_172 : decode cX3_goes 172 = .ok (.iconst 0, 1) := by decide +kernel
theorem dX3_goes_173 : decode cX3_goes 173 = .ok (.iastore, 1) := by decide +kernel
theorem dX3_goes_174 : decode cX3_goes 174 = .ok (.iinc 3 1, 3) := by decide +kernel
theorem dX3_goes_177 : decode cX3_goes 177 = .ok (.goto (-49), 3) := by decide +kernel
theorem dX3_goes_180 : decode cX3_goes 180 = .ok (.iconst 0, 1) := by decide +kernel
theorem dX3_goes_181 : decode cX3_goes 181 = .ok (.istore_n 3, 1) := by decide +kernel
theorem dX3_goes_182 : decode cX3_goes 182 = .ok (.iload_n 3, 1) := by decide +kernel
theorem dX3_goes_183 : decode cX3_goes 183 = .ok (.bipush 12, 2) := by decide +kernel
theorem dX3_goes_185 : decode cX3_goes 185 = .ok (.if_icmp .ge 52, 3) := by decide +kernel
theorem dX3_goes_188 : decode cX3_goes 188 = .ok (.aload_n 0, 1) := by decide +kernel
theorem dX3_goes_189 : decode cX3_goes 189 = .ok (.aload_n 0, 1) := by decide +kernel
theorem dX3_goes_190 : decode cX3_goes 190 = .ok (.getfield 7, 3) := by decide +kernel
theorem dX3_goes_193 : decode cX3_goes 193 = .ok (.sipush 134, 3) := by decide +kernel
theorem dX3_goes_196 : decode cX3_goes 196 = .ok (.iaload, 1) := by decide +kernel
theorem dX3_goes_197 : decode cX3_goes 197 = .ok (.iload_n 3, 1) := by decide +kernel
theorem dX3_goes_198 : decode cX3_goes 198 = .ok (.aload_n 0, 1) := by decide +kernel
theorem dX3_goes_199 : decode cX3_goes 199 = .ok (.getfield 7, 3) := by decide +kernel
theorem dX3_goes_202 : decode cX3_goes 202 = .ok (.sipush 133, 3) := by decide +kernel
theorem dX3_goes_205 : decode cX3_goes 205 = .ok (.iaload, 1) := by decide +kernel
theorem dX3_goes_206 : decode cX3_goes 206 = .ok (.invokevirtual 50, 3) := by decide +kernel
theorem dX3_goes_209 : decode cX3_goes 209 = .ok (.ifCond .eq 22, 3) := by decide +kernel
theorem dX3_goes_212 : decode cX3_goes 212 = .ok (.aload_n 0, 1) := by decide +kernel
theorem dX3_goes_213 : decode cX3_goes 213 = .ok (.getfield 7, 3) := by decide +kernel
theorem dX3_goes_216 : decode cX3_goes 216 = .ok (.iload_n 3, 1) := by decide +kernel
theorem dX3_goes_217 : decode cX3_goes 217 = .ok (.iconst 2, 1) := by decide +kernel
theorem dX3_goes_218 : decode cX3_goes 218 = .ok (.invokestatic 86, 3) := by decide +kernel
theorem dX3_goes_221 : decode cX3_goes 221 = .ok (.iaload, 1) := by decide +kernel
theorem dX3_goes_222 : decode cX3_goes 222 = .ok (.ifCond .ne 9, 3) := by decide +kernel
theorem dX3_goes_225 : decode cX3_goes 225 = .ok (.aload_n 0, 1) := by decide +kernel
theorem dX3_goes_226 : decode cX3_goes 226 = .ok (.iload_n 3, 1) := by decide +kernel
theorem dX3_goes_227 : decode cX3_goes 227 = .ok (.iload_n 2, 1) := by decide +kernel
theorem dX3_goes_228 : decode cX3_goes 228 = .ok (.invokevirtual 96, 3) := by decide +kernel
theorem dX3_goes_231 : decode cX3_goes 231 = .ok (.iinc 3 1, 3) := by decide +kernel
theorem dX3_goes_234 : decode cX3_goes 234 = .ok (.goto (-52), 3) := by decide +kernel
theorem dX3_goes_237 : decode cX3_goes 237 = .ok (.iconst 1, 1) := by decide +kernel
theorem dX3_goes_238 : decode cX3_goes 238 = .ok (.ireturn, 1) := by decide +kernel
set_option maxRecDepth 20000 in
theorem ggX3_goesOn_X3_goes : GoodIn wsX3_goesOn wsX3_goes := goodIn_r _ [5, 6, 7, 8, 9, 4, 10, 11, 12, 13, 14, 15, 16, 17, 18, 19, 20, 21, 22, 23, 24, 25, 26, 27, 28, 29, 30, 31, 32, 33, 34, 35, 36, 37, 38, 39, 40, 41, 42, 43, 44, 45, 46, 47, 48, 49] rfl (by decide +kernel)
set_option maxRecDepth 20000 in
theorem gX3_goesOn_X3_goes : GoodIn wsX3_goesOn (wsV RX3 100 RX3 yX3_goes wsX3_goes) := goodIn_app (goodIn_r _ [1, 2, 3, 4] rfl (by decide +kernel)) ggX3_goesOn_X3_goes
theorem dX3_goesOn_0 : decode cX3_goesOn 0 = .ok (.iconst 0, 1) := by decide +kernel
theorem dX3_goesOn_1 : decode cX3_goesOn 1 = .ok (.istore_n 2, 1) := by decide +kernel
theorem dX3_goesOn_2 : decode cX3_goesOn 2 = .ok (.iload_n 2, 1) := by decide +kernel
theorem dX3_goesOn_3 : decode cX3_goesOn 3 = .ok (.iload_n 1, 1) := by decide +kernel
theorem dX3_goesOn_4 : decode cX3_goesOn 4 = .ok (.if_icmp .ge 16, 3) := by decide +kernel
theorem dX3_goesOn_7 : decode cX3_goesOn 7 = .ok (.aload_n 0, 1) := by decide +kernel
theorem dX3_goesOn_8 : decode cX3_goesOn 8 = .ok (.invokevirtual 100, 3) := by decide +kernel
theorem dX3_goesOn_11 : decode cX3_goesOn 11 = .ok (.ifCond .eq 9, 3) := by decide +kernel
theorem dX3_goesOn_14 : decode cX3_goesOn 14 = .ok (.iinc 2 1, 3) := by decide +kernel
theorem dX3_goesOn_17 : decode cX3_goesOn 17 = .ok (.goto (-15), 3) := by decide +kernel
theorem dX3_goesOn_20 : decode cX3_goesOn 20 = .ok (.iload_n 2, 1) := by decide +kernel
theorem dX3_goesOn_21 : decode cX3_goesOn 21 = .ok (.ireturn, 1) := by decide +kernel
set_option maxRecDepth 20000 in
theorem ggX3_wind_X3_in : GoodIn wsX3_wind wsX3_in := goodIn_r _ [5] rfl (by decide +kernel)
set_option maxRecDepth 20000 in
theorem gX3_wind_X3_in : GoodIn wsX3_wind (va_wsS RX3 29 yX3_in wsX3_in) := goodIn_app (goodIn_r _ [2, 3, 4] rfl (by decide +kernel)) ggX3_wind_X3_in
set_option maxRecDepth 20000 in
theorem ggX3_wind_X3_holds : GoodIn wsX3_wind wsX3_holds := goodIn_r _ [9, 10, 17, 18, 19, 20, 21, 22, 23, 24, 25, 26, 27, 28, 29] rfl (by decide +kernel)
set_option maxRecDepth 20000 in
theorem gX3_wind_X3_holds : GoodIn wsX3_wind (wsV RX3 73 RX3 yX3_holds wsX3_holds) := goodIn_app (goodIn_r _ [6, 7, 8, 4] rfl (by decide +kernel)) ggX3_wind_X3_holds
set_option maxRecDepth 20000 in
theorem ggX3_wind_X3_save : GoodIn wsX3_wind wsX3_save := goodIn_r _ [14, 15, 16, 1, 17, 18, 19, 20, 21, 22, 23, 24, 25, 26, 27, 28, 29] rfl (by decide +kernel)
set_option maxRecDepth 20000 in
theorem gX3_wind_X3_save : GoodIn wsX3_wind (wsV RX3 76 RX3 yX3_save wsX3_save) := goodIn_app (goodIn_r _ [11, 12, 13, 4] rfl (by decide +kernel)) ggX3_wind_X3_save
theorem dX3_wind_0 : decode cX3_wind 0 = .ok (.aload_n 0, 1) := by decide +kernel
theorem dX3_wind_1 : decode cX3_wind 1 = .ok (.iload_n 1, 1) := by decide +kernel
theorem dX3_wind_2 : decode cX3_wind 2 = .ok (.iconst 1, 1) := by decide +kernel
theorem dX3_wind_3 : decode cX3_wind 3 = .ok (.sipush 400, 3) := by decide +kernel
theorem dX3_wind_6 : decode cX3_wind 6 = .ok (.invokestatic 29, 3) := by decide +kernel
theorem dX3_wind_9 : decode cX3_wind 9 = .ok (.ifCond .eq 7, 3) := by decide +kernel
theorem dX3_wind_12 : decode cX3_wind 12 = .ok (.iconst 0, 1) := by decide +kernel
theorem dX3_wind_13 : decode cX3_wind 13 = .ok (.goto 4, 3) := by decide +kernel
theorem dX3_wind_16 : decode cX3_wind 16 = .ok (.iconst 1, 1) := by decide +kernel
theorem dX3_wind_17 : decode cX3_wind 17 = .ok (.invokevirtual 73, 3) := by decide +kernel
theorem dX3_wind_20 : decode cX3_wind 20 = .ok (.ifCond .ne 5, 3) := by decide +kernel
theorem dX3_wind_23 : decode cX3_wind 23 = .ok (.iconst 0, 1) := by decide +kernel
theorem dX3_wind_24 : decode cX3_wind 24 = .ok (.ireturn, 1) := by decide +kernel
theorem dX3_wind_25 : decode cX3_wind 25 = .ok (.aload_n 0, 1) := by decide +kernel
theorem dX3_wind_26 : decode cX3_wind 26 = .ok (.invokevirtual 76, 3) := by decide +kernel
theorem dX3_wind_29 : decode cX3_wind 29 = .ok (.aload_n 0, 1) := by decide +kernel
theorem dX3_wind_30 : decode cX3_wind 30 = .ok (.getfield 7, 3) := by decide +kernel
theorem dX3_wind_33 : decode cX3_wind 33 = .ok (.sipush 135, 3) := by decide +kernel
theorem dX3_wind_36 : decode cX3_wind 36 = .ok (.aload_n 0, 1) := by decide +kernel
theorem dX3_wind_37 : decode cX3_wind 37 = .ok (.getfield 7, 3) := by decide +kernel
theorem dX3_wind_40 : decode cX3_wind 40 = .ok (.sipush 135, 3) := by decide +kernel
theorem dX3_wind_43 : decode cX3_wind 43 = .ok (.iaload, 1) := by decide +kernel
theorem dX3_wind_44 : decode cX3_wind 44 = .ok (.iload_n 1, 1) := by decide +kernel
theorem dX3_wind_45 : decode cX3_wind 45 = .ok (.iadd, 1) := by decide +kernel
theorem dX3_wind_46 : decode cX3_wind 46 = .ok (.sipush 400, 3) := by decide +kernel
theorem dX3_wind_49 : decode cX3_wind 49 = .ok (.if_icmp .le 9, 3) := by decide +kernel
theorem dX3_wind_52 : decode cX3_wind 52 = .ok (.sipush 400, 3) := by decide +kernel
theorem dX3_wind_55 : decode cX3_wind 55 = .ok (.goto 13, 3) := by decide +kernel
theorem dX3_wind_58 : decode cX3_wind 58 = .ok (.aload_n 0, 1) := by decide +kernel
theorem dX3_wind_59 : decode cX3_wind 59 = .ok (.getfield 7, 3) := by decide +kernel
theorem dX3_wind_62 : decode cX3_wind 62 = .ok (.sipush 135, 3) := by decide +kernel
theorem dX3_wind_65 : decode cX3_wind 65 = .ok (.iaload, 1) := by decide +kernel
theorem dX3_wind_66 : decode cX3_wind 66 = .ok (.iload_n 1, 1) := by decide +kernel
theorem dX3_wind_67 : decode cX3_wind 67 = .ok (.iadd, 1) := by decide +kernel
theorem dX3_wind_68 : decode cX3_wind 68 = .ok (.iastore, 1) := by decide +kernel
theorem dX3_wind_69 : decode cX3_wind 69 = .ok (.aload_n 0, 1) := by decide +kernel
theorem dX3_wind_70 : decode cX3_wind 70 = .ok (.getfield 7, 3) := by decide +kernel
theorem dX3_wind_73 : decode cX3_wind 73 = .ok (.sipush 135, 3) := by decide +kernel
theorem dX3_wind_76 : decode cX3_wind 76 = .ok (.iaload, 1) := by decide +kernel
theorem dX3_wind_77 : decode cX3_wind 77 = .ok (.ireturn, 1) := by decide +kernel
set_option maxRecDepth 20000 in
theorem ggX3_becomes_X3_save : GoodIn wsX3_becomes wsX3_save := goodIn_r _ [6, 7, 8, 1, 9, 10, 11, 12, 13, 14, 15, 16, 17, 18, 19, 20, 21] rfl (by decide +kernel)
set_option maxRecDepth 20000 in
theorem gX3_becomes_X3_save : GoodIn wsX3_becomes (wsV RX3 76 RX3 yX3_save wsX3_save) := goodIn_app (goodIn_r _ [2, 3, 4, 5] rfl (by decide +kernel)) ggX3_becomes_X3_save
theorem dX3_becomes_0 : decode cX3_becomes 0 = .ok (.aload_n 0, 1) := by decide +kernel
theorem dX3_becomes_1 : decode cX3_becomes 1 = .ok (.invokevirtual 76, 3) := by decide +kernel
theorem dX3_becomes_4 : decode cX3_becomes 4 = .ok (.aload_n 0, 1) := by decide +kernel
theorem dX3_becomes_5 : decode cX3_becomes 5 = .ok (.getfield 7, 3) := by decide +kernel
theorem dX3_becomes_8 : decode cX3_becomes 8 = .ok (.iload_n 1, 1) := by decide +kernel
theorem dX3_becomes_9 : decode cX3_becomes 9 = .ok (.iaload, 1) := by decide +kernel
theorem dX3_becomes_10 : decode cX3_becomes 10 = .ok (.istore_n 3, 1) := by decide +kernel
theorem dX3_becomes_11 : decode cX3_becomes 11 = .ok (.aload_n 0, 1) := by decide +kernel
theorem dX3_becomes_12 : decode cX3_becomes 12 = .ok (.getfield 7, 3) := by decide +kernel
theorem dX3_becomes_15 : decode cX3_becomes 15 = .ok (.iload_n 1, 1) := by decide +kernel
theorem dX3_becomes_16 : decode cX3_becomes 16 = .ok (.iload_n 2, 1) := by decide +kernel
theorem dX3_becomes_17 : decode cX3_becomes 17 = .ok (.iastore, 1) := by decide +kernel
theorem dX3_becomes_18 : decode cX3_becomes 18 = .ok (.iload_n 3, 1) := by decide +kernel
theorem dX3_becomes_19 : decode cX3_becomes 19 = .ok (.ireturn, 1) := by decide +kernel
set_option maxRecDepth 20000 in
theorem ggX3_vanes_X3_in : GoodIn wsX3_vanes wsX3_in := goodIn_r _ [4] rfl (by decide +kernel)
set_option maxRecDepth 20000 in
theorem gX3_vanes_X3_in : GoodIn wsX3_vanes (va_wsS RX3 29 yX3_in wsX3_in) := goodIn_app (goodIn_r _ [1, 2, 3] rfl (by decide +kernel)) ggX3_vanes_X3_in
set_option maxRecDepth 20000 in
theorem ggX3_vanes_X3_holds : GoodIn wsX3_vanes wsX3_holds := goodIn_r _ [8, 9, 21, 22, 23, 24, 25, 26, 27, 28, 29, 30, 31, 32, 33] rfl (by decide +kernel)
set_option maxRecDepth 20000 in
theorem gX3_vanes_X3_holds : GoodIn wsX3_vanes (wsV RX3 73 RX3 yX3_holds wsX3_holds) := goodIn_app (goodIn_r _ [5, 6, 7, 3] rfl (by decide +kernel)) ggX3_vanes_X3_holds
set_option maxRecDepth 20000 in
theorem ggX3_vanes_X3_becomes : GoodIn wsX3_vanes wsX3_becomes := goodIn_r _ [13, 14, 15, 16, 17, 3, 18, 19, 20, 21, 22, 23, 24, 25, 26, 27, 28, 29, 30, 31, 32, 33] rfl (by decide +kernel)
set_option maxRecDepth 20000 in
theorem gX3_vanes_X3_becomes : GoodIn wsX3_vanes (wsV RX3 104 RX3 yX3_becomes wsX3_becomes) := goodIn_app (goodIn_r _ [10, 11, 12, 3] rfl (by decide +kernel)) ggX3_vanes_X3_becomes
theorem dX3_vanes_0 : decode cX3_vanes 0 = .ok (.aload_n 0, 1) := by decide +kernel
theorem dX3_vanes_1 : decode cX3_vanes 1 = .ok (.iload_n 1, 1) := by decide +kernel
theorem dX3_vanes_2 : decode cX3_vanes 2 = .ok (.iconst 1, 1) := by decide +kernel
theorem dX3_vanes_3 : decode cX3_vanes 3 = .ok (.bipush 9, 2) := by decide +kernel
theorem dX3_vanes_5 : decode cX3_vanes 5 = .ok (.invokestatic 29, 3) := by decide +kernel
theorem dX3_vanes_8 : decode cX3_vanes 8 = .ok (.ifCond .eq 7, 3) := by decide +kernel
theorem dX3_vanes_11 : decode cX3_vanes 11 = .ok (.iconst 0, 1) := by decide +kernel
theorem dX3_vanes_12 : decode cX3_vanes 12 = .ok (.goto 4, 3) := by decide +kernel
theorem dX3_vanes_15 : decode cX3_vanes 15 = .ok (.iconst 1, 1) := by decide +kernel
theorem dX3_vanes_16 : decode cX3_vanes 16 = .ok (.invokevirtual 73, 3) := by decide +kernel
theorem dX3_vanes_19 : decode cX3_vanes 19 = .ok (.ifCond .eq 14, 3) := by decide +kernel
theorem dX3_vanes_22 : decode cX3_vanes 22 = .ok (.aload_n 0, 1) := by decide +kernel
theorem dX3_vanes_23 : decode cX3_vanes 23 = .ok (.sipush 136, 3) := by decide +kernel
theorem dX3_vanes_26 : decode cX3_vanes 26 = .ok (.iload_n 1, 1) := by decide +kernel
theorem dX3_vanes_27 : decode cX3_vanes 27 = .ok (.invokevirtual 104, 3) := by decide +kernel
theorem dX3_vanes_30 : decode cX3_vanes 30 = .ok (.goto 4, 3) := by decide +kernel
theorem dX3_vanes_33 : decode cX3_vanes 33 = .ok (.iconst 0, 1) := by decide +kernel
theorem dX3_vanes_34 : decode cX3_vanes 34 = .ok (.ireturn, 1) := by decide +kernel
set_option maxRecDepth 20000 in
theorem ggX3_shift_X3_isTune : GoodIn wsX3_shift wsX3_isTune := goodIn_r _ [4, 5, 6, 3, 7] rfl (by decide +kernel)
set_option maxRecDepth 20000 in
theorem gX3_shift_X3_isTune : GoodIn wsX3_shift (va_wsS RX3 33 yX3_isTune wsX3_isTune) := goodIn_app (goodIn_r _ [1, 2, 3] rfl (by decide +kernel)) ggX3_shift_X3_isTune
set_option maxRecDepth 20000 in
theorem ggX3_shift_X3_holds : GoodIn wsX3_shift wsX3_holds := goodIn_r _ [11, 12, 24, 25, 26, 27, 28, 29, 30, 31, 32, 33, 34, 35, 36] rfl (by decide +kernel)
set_option maxRecDepth 20000 in
theorem gX3_shift_X3_holds : GoodIn wsX3_shift (wsV RX3 73 RX3 yX3_holds wsX3_holds) := goodIn_app (goodIn_r _ [8, 9, 10, 3] rfl (by decide +kernel)) ggX3_shift_X3_holds
set_option maxRecDepth 20000 in
theorem ggX3_shift_X3_becomes : GoodIn wsX3_shift wsX3_becomes := goodIn_r _ [16, 17, 18, 19, 20, 3, 21, 22, 23, 24, 25, 26, 27, 28, 29, 30, 31, 32, 33, 34, 35, 36] rfl (by decide +kernel)
set_option maxRecDepth 20000 in
theorem gX3_shift_X3_becomes : GoodIn wsX3_shift (wsV RX3 104 RX3 yX3_becomes wsX3_becomes) := goodIn_app (goodIn_r _ [13, 14, 15, 3] rfl (by decide +kernel)) ggX3_shift_X3_becomes
theorem dX3_shift_0 : decode cX3_shift 0 = .ok (.aload_n 0, 1) := by decide +kernel
theorem dX3_shift_1 : decode cX3_shift 1 = .ok (.iload_n 1, 1) := by decide +kernel
theorem dX3_shift_2 : decode cX3_shift 2 = .ok (.invokestatic 33, 3) := by decide +kernel
theorem dX3_shift_5 : decode cX3_shift 5 = .ok (.ifCond .eq 7, 3) := by decide +kernel
theorem dX3_shift_8 : decode cX3_shift 8 = .ok (.iconst 0, 1) := by decide +kernel
theorem dX3_shift_9 : decode cX3_shift 9 = .ok (.goto 4, 3) := by decide +kernel
theorem dX3_shift_12 : decode cX3_shift 12 = .ok (.iconst 1, 1) := by decide +kernel
theorem dX3_shift_13 : decode cX3_shift 13 = .ok (.invokevirtual 73, 3) := by decide +kernel
theorem dX3_shift_16 : decode cX3_shift 16 = .ok (.ifCond .eq 14, 3) := by decide +kernel
theorem dX3_shift_19 : decode cX3_shift 19 = .ok (.aload_n 0, 1) := by decide +kernel
theorem dX3_shift_20 : decode cX3_shift 20 = .ok (.sipush 134, 3) := by decide +kernel
theorem dX3_shift_23 : decode cX3_shift 23 = .ok (.iload_n 1, 1) := by decide +kernel
theorem dX3_shift_24 : decode cX3_shift 24 = .ok (.invokevirtual 104, 3) := by decide +kernel
theorem dX3_shift_27 : decode cX3_shift 27 = .ok (.goto 4, 3) := by decide +kernel
theorem dX3_shift_30 : decode cX3_shift 30 = .ok (.iconst 0, 1) := by decide +kernel
theorem dX3_shift_31 : decode cX3_shift 31 = .ok (.ireturn, 1) := by decide +kernel
set_option maxRecDepth 20000 in
theorem ggX3_play_X3_in : GoodIn wsX3_play wsX3_in := goodIn_r _ [4] rfl (by decide +kernel)
set_option maxRecDepth 20000 in
theorem gX3_play_X3_in : GoodIn wsX3_play (va_wsS RX3 29 yX3_in wsX3_in) := goodIn_app (goodIn_r _ [1, 2, 3] rfl (by decide +kernel)) ggX3_play_X3_in
set_option maxRecDepth 20000 in
theorem ggX3_play_X3_holds : GoodIn wsX3_play wsX3_holds := goodIn_r _ [8, 9, 55, 56, 57, 58, 59, 60, 61, 62, 63, 64, 65, 66, 67] rfl (by decide +kernel)
set_option maxRecDepth 20000 in
theorem gX3_play_X3_holds : GoodIn wsX3_play (wsV RX3 73 RX3 yX3_holds wsX3_holds) := goodIn_app (goodIn_r _ [5, 6, 7, 3] rfl (by decide +kernel)) ggX3_play_X3_holds
set_option maxRecDepth 20000 in
theorem ggX3_play_X3_save : GoodIn wsX3_play wsX3_save := goodIn_r _ [13, 14, 15, 16, 55, 56, 57, 58, 59, 60, 61, 62, 63, 64, 65, 66, 67] rfl (by decide +kernel)
set_option maxRecDepth 20000 in
theorem gX3_play_X3_save : GoodIn wsX3_play (wsV RX3 76 RX3 yX3_save wsX3_save) := goodIn_app (goodIn_r _ [10, 11, 12, 3] rfl (by decide +kernel)) ggX3_play_X3_save
set_option maxRecDepth 20000 in
theorem ggX3_play_X3_goesOn : GoodIn wsX3_play wsX3_goesOn := goodIn_r _ [20, 21, 22, 23, 3, 24, 16, 25, 26, 27, 28, 29, 30, 31, 32, 33, 34, 35, 36, 37, 38, 39, 40, 41, 42, 43, 44, 45, 46, 47, 48, 49, 50, 51, 52, 53, 54, 55, 56, 57, 58, 59, 60, 61, 62, 63, 64, 65, 66, 67] rfl (by decide +kernel)
set_option maxRecDepth 20000 in
theorem gX3_play_X3_goesOn : GoodIn wsX3_play (wsV RX3 107 RX3 yX3_goesOn wsX3_goesOn) := goodIn_app (goodIn_r _ [17, 18, 19, 3] rfl (by decide +kernel)) ggX3_play_X3_goesOn
theorem dX3_play_0 : decode cX3_play 0 = .ok (.aload_n 0, 1) := by decide +kernel
theorem dX3_play_1 : decode cX3_play 1 = .ok (.iload_n 1, 1) := by decide +kernel
theorem dX3_play_2 : decode cX3_play 2 = .ok (.iconst 1, 1) := by decide +kernel
theorem dX3_play_3 : decode cX3_play 3 = .ok (.sipush 128, 3) := by decide +kernel
theorem dX3_play_6 : decode cX3_play 6 = .ok (.invokestatic 29, 3) := by decide +kernel
theorem dX3_play_9 : decode cX3_play 9 = .ok (.ifCond .eq 7, 3) := by decide +kernel
theorem dX3_play_12 : decode cX3_play 12 = .ok (.iconst 0, 1) := by decide +kernel
theorem dX3_play_13 : decode cX3_play 13 = .ok (.goto 4, 3) := by decide +kernel
theorem dX3_play_16 : decode cX3_play 16 = .ok (.iconst 1, 1) := by decide +kernel
theorem dX3_play_17 : decode cX3_play 17 = .ok (.invokevirtual 73, 3) := by decide +kernel
theorem dX3_play_20 : decode cX3_play 20 = .ok (.ifCond .ne 5, 3) := by decide +kernel
theorem dX3_play_23 : decode cX3_play 23 = .ok (.iconst 0, 1) := by decide +kernel
theorem dX3_play_24 : decode cX3_play 24 = .ok (.ireturn, 1) := by decide +kernel
theorem dX3_play_25 : decode cX3_play 25 = .ok (.aload_n 0, 1) := by decide +kernel
theorem dX3_play_26 : decode cX3_play 26 = .ok (.invokevirtual 76, 3) := by decide +kernel
theorem dX3_play_29 : decode cX3_play 29 = .ok (.aload_n 0, 1) := by decide +kernel
theorem dX3_play_30 : decode cX3_play 30 = .ok (.iload_n 1, 1) := by decide +kernel
theorem dX3_play_31 : decode cX3_play 31 = .ok (.invokevirtual 107, 3) := by decide +kernel
theorem dX3_play_34 : decode cX3_play 34 = .ok (.ireturn, 1) := by decide +kernel
set_option maxRecDepth 20000 in
theorem ggX3_mend_X3_isTooth : GoodIn wsX3_mend wsX3_isTooth := goodIn_r _ [5, 6, 7, 4, 8] rfl (by decide +kernel)
set_option maxRecDepth 20000 in
theorem gX3_mend_X3_isTooth : GoodIn wsX3_mend (va_wsS RX3 37 yX3_isTooth wsX3_isTooth) := goodIn_app (goodIn_r _ [2, 3, 4] rfl (by decide +kernel)) ggX3_mend_X3_isTooth
set_option maxRecDepth 20000 in
theorem ggX3_mend_X3_holds : GoodIn wsX3_mend wsX3_holds := goodIn_r _ [12, 13, 27, 28, 29, 30, 31, 32, 33, 34, 35, 36, 37, 38, 39] rfl (by decide +kernel)
set_option maxRecDepth 20000 in
theorem gX3_mend_X3_holds : GoodIn wsX3_mend (wsV RX3 73 RX3 yX3_holds wsX3_holds) := goodIn_app (goodIn_r _ [9, 10, 11, 4] rfl (by decide +kernel)) ggX3_mend_X3_holds
set_option maxRecDepth 20000 in
theorem ggX3_mend_X3_of : GoodIn wsX3_mend wsX3_of := goodIn_r _ [16] rfl (by decide +kernel)
set_option maxRecDepth 20000 in
theorem gX3_mend_X3_of : GoodIn wsX3_mend (va_wsS RX3 86 yX3_of wsX3_of) := goodIn_app (goodIn_r _ [14, 15, 4] rfl (by decide +kernel)) ggX3_mend_X3_of
set_option maxRecDepth 20000 in
theorem ggX3_mend_X3_becomes : GoodIn wsX3_mend wsX3_becomes := goodIn_r _ [20, 1, 21, 22, 23, 4, 24, 25, 26, 27, 28, 29, 30, 31, 32, 33, 34, 35, 36, 37, 38, 39] rfl (by decide +kernel)
set_option maxRecDepth 20000 in
theorem gX3_mend_X3_becomes : GoodIn wsX3_mend (wsV RX3 104 RX3 yX3_becomes wsX3_becomes) := goodIn_app (goodIn_r _ [17, 18, 19, 4] rfl (by decide +kernel)) ggX3_mend_X3_becomes
theorem dX3_mend_0 : decode cX3_mend 0 = .ok (.aload_n 0, 1) := by decide +kernel
theorem dX3_mend_1 : decode cX3_mend 1 = .ok (.iload_n 1, 1) := by decide +kernel
theorem dX3_mend_2 : decode cX3_mend 2 = .ok (.invokestatic 37, 3) := by decide +kernel
theorem dX3_mend_5 : decode cX3_mend 5 = .ok (.ifCond .eq 7, 3) := by decide +kernel
theorem dX3_mend_8 : decode cX3_mend 8 = .ok (.iconst 0, 1) := by decide +kernel
theorem dX3_mend_9 : decode cX3_mend 9 = .ok (.goto 4, 3) := by decide +kernel
theorem dX3_mend_12 : decode cX3_mend 12 = .ok (.iconst 1, 1) := by decide +kernel
theorem dX3_mend_13 : decode cX3_mend 13 = .ok (.invokevirtual 73, 3) := by decide +kernel
theorem dX3_mend_16 : decode cX3_mend 16 = .ok (.ifCond .ne 5, 3) := by decide +kernel
theorem dX3_mend_19 : decode cX3_mend 19 = .ok (.iconst 0, 1) := by decide +kernel
theorem dX3_mend_20 : decode cX3_mend 20 = .ok (.ireturn, 1) := by decide +kernel
theorem dX3_mend_21 : decode cX3_mend 21 = .ok (.aload_n 0, 1) := by decide +kernel
theorem dX3_mend_22 : decode cX3_mend 22 = .ok (.iload_n 1, 1) := by decide +kernel
theorem dX3_mend_23 : decode cX3_mend 23 = .ok (.iconst 1, 1) := by decide +kernel
theorem dX3_mend_24 : decode cX3_mend 24 = .ok (.invokestatic 86, 3) := by decide +kernel
theorem dX3_mend_27 : decode cX3_mend 27 = .ok (.iconst 0, 1) := by decide +kernel
theorem dX3_mend_28 : decode cX3_mend 28 = .ok (.invokevirtual 104, 3) := by decide +kernel
theorem dX3_mend_31 : decode cX3_mend 31 = .ok (.istore_n 2, 1) := by decide +kernel
theorem dX3_mend_32 : decode cX3_mend 32 = .ok (.aload_n 0, 1) := by decide +kernel
theorem dX3_mend_33 : decode cX3_mend 33 = .ok (.getfield 7, 3) := by decide +kernel
theorem dX3_mend_36 : decode cX3_mend 36 = .ok (.iload_n 1, 1) := by decide +kernel
theorem dX3_mend_37 : decode cX3_mend 37 = .ok (.iconst 0, 1) := by decide +kernel
theorem dX3_mend_38 : decode cX3_mend 38 = .ok (.invokestatic 86, 3) := by decide +kernel
theorem dX3_mend_41 : decode cX3_mend 41 = .ok (.iconst 0, 1) := by decide +kernel
theorem dX3_mend_42 : decode cX3_mend 42 = .ok (.iastore, 1) := by decide +kernel
theorem dX3_mend_43 : decode cX3_mend 43 = .ok (.aload_n 0, 1) := by decide +kernel
theorem dX3_mend_44 : decode cX3_mend 44 = .ok (.getfield 7, 3) := by decide +kernel
theorem dX3_mend_47 : decode cX3_mend 47 = .ok (.iload_n 1, 1) := by decide +kernel
theorem dX3_mend_48 : decode cX3_mend 48 = .ok (.iconst 2, 1) := by decide +kernel
theorem dX3_mend_49 : decode cX3_mend 49 = .ok (.invokestatic 86, 3) := by decide +kernel
theorem dX3_mend_52 : decode cX3_mend 52 = .ok (.iconst 0, 1) := by decide +kernel
theorem dX3_mend_53 : decode cX3_mend 53 = .ok (.iastore, 1) := by decide +kernel
theorem dX3_mend_54 : decode cX3_mend 54 = .ok (.iload_n 2, 1) := by decide +kernel
theorem dX3_mend_55 : decode cX3_mend 55 = .ok (.ireturn, 1) := by decide +kernel
set_option maxRecDepth 20000 in
theorem ggX3_isValue_X3_in : GoodIn wsX3_isValue wsX3_in := goodIn_r _ [4] rfl (by decide +kernel)
set_option maxRecDepth 20000 in
theorem gX3_isValue_X3_in : GoodIn wsX3_isValue (va_wsS RX3 29 yX3_in wsX3_in) := goodIn_app (goodIn_r _ [1, 2, 3] rfl (by decide +kernel)) ggX3_isValue_X3_in
theorem dX3_isValue_0 : decode cX3_isValue 0 = .ok (.iload_n 0, 1) := by decide +kernel
theorem dX3_isValue_1 : decode cX3_isValue 1 = .ok (.tableswitch 62 0 3 #[31, 39, 47, 54], 31) := by decide +kernel
theorem dX3_isValue_32 : decode cX3_isValue 32 = .ok (.iload_n 1, 1) := by decide +kernel
theorem dX3_isValue_33 : decode cX3_isValue 33 = .ok (.iconst 4, 1) := by decide +kernel
theorem dX3_isValue_34 : decode cX3_isValue 34 = .ok (.bipush 90, 2) := by decide +kernel
theorem dX3_isValue_36 : decode cX3_isValue 36 = .ok (.invokestatic 29, 3) := by decide +kernel
theorem dX3_isValue_39 : decode cX3_isValue 39 = .ok (.ireturn, 1) := by decide +kernel
theorem dX3_isValue_40 : decode cX3_isValue 40 = .ok (.iload_n 1, 1) := by decide +kernel
theorem dX3_isValue_41 : decode cX3_isValue 41 = .ok (.iconst 0, 1) := by decide +kernel
theorem dX3_isValue_42 : decode cX3_isValue 42 = .ok (.bipush 20, 2) := by decide +kernel
theorem dX3_isValue_44 : decode cX3_isValue 44 = .ok (.invokestatic 29, 3) := by decide +kernel
theorem dX3_isValue_47 : decode cX3_isValue 47 = .ok (.ireturn, 1) := by decide +kernel
theorem dX3_isValue_48 : decode cX3_isValue 48 = .ok (.iload_n 1, 1) := by decide +kernel
theorem dX3_isValue_49 : decode cX3_isValue 49 = .ok (.iconst 0, 1) := by decide +kernel
theorem dX3_isValue_50 : decode cX3_isValue 50 = .ok (.iconst 1, 1) := by decide +kernel
theorem dX3_isValue_51 : decode cX3_isValue 51 = .ok (.invokestatic 29, 3) := by decide +kernel
theorem dX3_isValue_54 : decode cX3_isValue 54 = .ok (.ireturn, 1) := by decide +kernel
theorem dX3_isValue_55 : decode cX3_isValue 55 = .ok (.iload_n 1, 1) := by decide +kernel
theorem dX3_isValue_56 : decode cX3_isValue 56 = .ok (.iconst 1, 1) := by decide +kernel
theorem dX3_isValue_57 : decode cX3_isValue 57 = .ok (.bipush 8, 2) := by decide +kernel
theorem dX3_isValue_59 : decode cX3_isValue 59 = .ok (.invokestatic 29, 3) := by decide +kernel
theorem dX3_isValue_62 : decode cX3_isValue 62 = .ok (.ireturn, 1) := by decide +kernel
theorem dX3_isValue_63 : decode cX3_isValue 63 = .ok (.iload_n 1, 1) := by decide +kernel
theorem dX3_isValue_64 : decode cX3_isValue 64 = .ok (.iconst 1, 1) := by decide +kernel
theorem dX3_isValue_65 : decode cX3_isValue 65 = .ok (.bipush 12, 2) := by decide +kernel
theorem dX3_isValue_67 : decode cX3_isValue 67 = .ok (.invokestatic 29, 3) := by decide +kernel
theorem dX3_isValue_70 : decode cX3_isValue 70 = .ok (.ireturn, 1) := by decide +kernel
set_option maxRecDepth 20000 in
theorem ggX3_set_X3_in : GoodIn wsX3_set wsX3_in := goodIn_r _ [4] rfl (by decide +kernel)
set_option maxRecDepth 20000 in
theorem gX3_set_X3_in : GoodIn wsX3_set (va_wsS RX3 29 yX3_in wsX3_in) := goodIn_app (goodIn_r _ [1, 2, 3] rfl (by decide +kernel)) ggX3_set_X3_in
set_option maxRecDepth 20000 in
theorem ggX3_set_X3_isValue : GoodIn wsX3_set wsX3_isValue := goodIn_r _ [7, 1, 2, 3, 4] rfl (by decide +kernel)
set_option maxRecDepth 20000 in
theorem gX3_set_X3_isValue : GoodIn wsX3_set (va_wsS RX3 110 yX3_isValue wsX3_isValue) := goodIn_app (goodIn_r _ [5, 6, 3] rfl (by decide +kernel)) ggX3_set_X3_isValue
set_option maxRecDepth 20000 in
theorem ggX3_set_X3_holds : GoodIn wsX3_set wsX3_holds := goodIn_r _ [11, 12, 24, 25, 26, 27, 28, 29, 30, 31, 32, 33, 34, 35, 36] rfl (by decide +kernel)
set_option maxRecDepth 20000 in
theorem gX3_set_X3_holds : GoodIn wsX3_set (wsV RX3 73 RX3 yX3_holds wsX3_holds) := goodIn_app (goodIn_r _ [8, 9, 10, 3] rfl (by decide +kernel)) ggX3_set_X3_holds
set_option maxRecDepth 20000 in
theorem ggX3_set_X3_becomes : GoodIn wsX3_set wsX3_becomes := goodIn_r _ [16, 17, 18, 19, 20, 3, 21, 22, 23, 24, 25, 26, 27, 28, 29, 30, 31, 32, 33, 34, 35, 36] rfl (by decide +kernel)
set_option maxRecDepth 20000 in
theorem gX3_set_X3_becomes : GoodIn wsX3_set (wsV RX3 104 RX3 yX3_becomes wsX3_becomes) := goodIn_app (goodIn_r _ [13, 14, 15, 3] rfl (by decide +kernel)) ggX3_set_X3_becomes
theorem dX3_set_0 : decode cX3_set 0 = .ok (.aload_n 0, 1) := by decide +kernel
theorem dX3_set_1 : decode cX3_set 1 = .ok (.iload_n 1, 1) := by decide +kernel
theorem dX3_set_2 : decode cX3_set 2 = .ok (.iconst 0, 1) := by decide +kernel
theorem dX3_set_3 : decode cX3_set 3 = .ok (.iconst 4, 1) := by decide +kernel
theorem dX3_set_4 : decode cX3_set 4 = .ok (.invokestatic 29, 3) := by decide +kernel
theorem dX3_set_7 : decode cX3_set 7 = .ok (.ifCond .ne 7, 3) := by decide +kernel
theorem dX3_set_10 : decode cX3_set 10 = .ok (.iconst 1, 1) := by decide +kernel
theorem dX3_set_11 : decode cX3_set 11 = .ok (.goto 16, 3) := by decide +kernel
theorem dX3_set_14 : decode cX3_set 14 = .ok (.iload_n 1, 1) := by decide +kernel
theorem dX3_set_15 : decode cX3_set 15 = .ok (.iload_n 2, 1) := by decide +kernel
theorem dX3_set_16 : decode cX3_set 16 = .ok (.invokestatic 110, 3) := by decide +kernel
theorem dX3_set_19 : decode cX3_set 19 = .ok (.ifCond .eq 7, 3) := by decide +kernel
theorem dX3_set_22 : decode cX3_set 22 = .ok (.iconst 0, 1) := by decide +kernel
theorem dX3_set_23 : decode cX3_set 23 = .ok (.goto 4, 3) := by decide +kernel
theorem dX3_set_26 : decode cX3_set 26 = .ok (.iconst 2, 1) := by decide +kernel
theorem dX3_set_27 : decode cX3_set 27 = .ok (.invokevirtual 73, 3) := by decide +kernel
theorem dX3_set_30 : decode cX3_set 30 = .ok (.ifCond .eq 16, 3) := by decide +kernel
theorem dX3_set_33 : decode cX3_set 33 = .ok (.aload_n 0, 1) := by decide +kernel
theorem dX3_set_34 : decode cX3_set 34 = .ok (.sipush 142, 3) := by decide +kernel
theorem dX3_set_37 : decode cX3_set 37 = .ok (.iload_n 1, 1) := by decide +kernel
theorem dX3_set_38 : decode cX3_set 38 = .ok (.iadd, 1) := by decide +kernel
theorem dX3_set_39 : decode cX3_set 39 = .ok (.iload_n 2, 1) := by decide +kernel
theorem dX3_set_40 : decode cX3_set 40 = .ok (.invokevirtual 104, 3) := by decide +kernel
theorem dX3_set_43 : decode cX3_set 43 = .ok (.goto 4, 3) := by decide +kernel
theorem dX3_set_46 : decode cX3_set 46 = .ok (.iconst 0, 1) := by decide +kernel
theorem dX3_set_47 : decode cX3_set 47 = .ok (.ireturn, 1) := by decide +kernel
set_option maxRecDepth 20000 in
theorem ggX3_append_X3_in : GoodIn wsX3_append wsX3_in := goodIn_r _ [6] rfl (by decide +kernel)
set_option maxRecDepth 20000 in
theorem gX3_append_X3_in : GoodIn wsX3_append (va_wsS RX3 29 yX3_in wsX3_in) := goodIn_app (goodIn_r _ [3, 4, 5] rfl (by decide +kernel)) ggX3_append_X3_in
set_option maxRecDepth 20000 in
theorem ggX3_append_X3_holds : GoodIn wsX3_append wsX3_holds := goodIn_r _ [10, 11, 12, 13, 14, 15, 16, 17, 18, 19, 20, 21, 22, 23, 24] rfl (by decide +kernel)
set_option maxRecDepth 20000 in
theorem gX3_append_X3_holds : GoodIn wsX3_append (wsV RX3 73 RX3 yX3_holds wsX3_holds) := goodIn_app (goodIn_r _ [7, 8, 9, 5] rfl (by decide +kernel)) ggX3_append_X3_holds
theorem dX3_append_0 : decode cX3_append 0 = .ok (.aload_n 0, 1) := by decide +kernel
theorem dX3_append_1 : decode cX3_append 1 = .ok (.iload_n 1, 1) := by decide +kernel
theorem dX3_append_2 : decode cX3_append 2 = .ok (.bipush 33, 2) := by decide +kernel
theorem dX3_append_4 : decode cX3_append 4 = .ok (.bipush 126, 2) := by decide +kernel
theorem dX3_append_6 : decode cX3_append 6 = .ok (.invokestatic 29, 3) := by decide +kernel
theorem dX3_append_9 : decode cX3_append 9 = .ok (.ifCond .ne 7, 3) := by decide +kernel
theorem dX3_append_12 : decode cX3_append 12 = .ok (.iconst 1, 1) := by decide +kernel
theorem dX3_append_13 : decode cX3_append 13 = .ok (.goto 17, 3) := by decide +kernel
theorem dX3_append_16 : decode cX3_append 16 = .ok (.aload_n 0, 1) := by decide +kernel
theorem dX3_append_17 : decode cX3_append 17 = .ok (.getfield 114, 3) := by decide +kernel
theorem dX3_append_20 : decode cX3_append 20 = .ok (.bipush 60, 2) := by decide +kernel
theorem dX3_append_22 : decode cX3_append 22 = .ok (.if_icmp .ne 7, 3) := by decide +kernel
theorem dX3_append_25 : decode cX3_append 25 = .ok (.iconst 2, 1) := by decide +kernel
theorem dX3_append_26 : decode cX3_append 26 = .ok (.goto 4, 3) := by decide +kernel
theorem dX3_append_29 : decode cX3_append 29 = .ok (.iconst 0, 1) := by decide +kernel
theorem dX3_append_30 : decode cX3_append 30 = .ok (.invokevirtual 73, 3) := by decide +kernel
theorem dX3_append_33 : decode cX3_append 33 = .ok (.ifCond .ne 5, 3) := by decide +kernel
theorem dX3_append_36 : decode cX3_append 36 = .ok (.iconst 0, 1) := by decide +kernel
theorem dX3_append_37 : decode cX3_append 37 = .ok (.ireturn, 1) := by decide +kernel
theorem dX3_append_38 : decode cX3_append 38 = .ok (.aload_n 0, 1) := by decide +kernel
theorem dX3_append_39 : decode cX3_append 39 = .ok (.getfield 22, 3) := by decide +kernel
theorem dX3_append_42 : decode cX3_append 42 = .ok (.aload_n 0, 1) := by decide +kernel
theorem dX3_append_43 : decode cX3_append 43 = .ok (.getfield 114, 3) := by decide +kernel
theorem dX3_append_46 : decode cX3_append 46 = .ok (.iload_n 1, 1) := by decide +kernel
theorem dX3_append_47 : decode cX3_append 47 = .ok (.iastore, 1) := by decide +kernel
theorem dX3_append_48 : decode cX3_append 48 = .ok (.aload_n 0, 1) := by decide +kernel
theorem dX3_append_49 : decode cX3_append 49 = .ok (.dup, 1) := by decide +kernel
theorem dX3_append_50 : decode cX3_append 50 = .ok (.getfield 114, 3) := by decide +kernel
theorem dX3_append_53 : decode cX3_append 53 = .ok (.iconst 1, 1) := by decide +kernel
theorem dX3_append_54 : decode cX3_append 54 = .ok (.iadd, 1) := by decide +kernel
theorem dX3_append_55 : decode cX3_append 55 = .ok (.putfield 114, 3) := by decide +kernel
theorem dX3_append_58 : decode cX3_append 58 = .ok (.aload_n 0, 1) := by decide +kernel
theorem dX3_append_59 : decode cX3_append 59 = .ok (.getfield 114, 3) := by decide +kernel
theorem dX3_append_62 : decode cX3_append 62 = .ok (.ireturn, 1) := by decide +kernel
theorem dX3_clearBuffer_0 : decode cX3_clearBuffer 0 = .ok (.aload_n 0, 1) := by decide +kernel
theorem dX3_clearBuffer_1 : decode cX3_clearBuffer 1 = .ok (.iconst 0, 1) := by decide +kernel
theorem dX3_clearBuffer_2 : decode cX3_clearBuffer 2 = .ok (.putfield 25, 3) := by decide +kernel
theorem dX3_clearBuffer_5 : decode cX3_clearBuffer 5 = .ok (.aload_n 0, 1) := by decide +kernel
theorem dX3_clearBuffer_6 : decode cX3_clearBuffer 6 = .ok (.getfield 114, 3) := by decide +kernel
theorem dX3_clearBuffer_9 : decode cX3_clearBuffer 9 = .ok (.istore_n 1, 1) := by decide +kernel
theorem dX3_clearBuffer_10 : decode cX3_clearBuffer 10 = .ok (.aload_n 0, 1) := by decide +kernel
theorem dX3_clearBuffer_11 : decode cX3_clearBuffer 11 = .ok (.iconst 0, 1) := by decide +kernel
theorem dX3_clearBuffer_12 : decode cX3_clearBuffer 12 = .ok (.putfield 114, 3) := by decide +kernel
theorem dX3_clearBuffer_15 : decode cX3_clearBuffer 15 = .ok (.iload_n 1, 1) := by decide +kernel
theorem dX3_clearBuffer_16 : decode cX3_clearBuffer 16 = .ok (.ireturn, 1) := by decide +kernel
set_option maxRecDepth 20000 in
theorem ggX3_isNext_X3_in : GoodIn wsX3_isNext wsX3_in := goodIn_r _ [8] rfl (by decide +kernel)
set_option maxRecDepth 20000 in
theorem gX3_isNext_X3_in : GoodIn wsX3_isNext (va_wsS RX3 29 yX3_in wsX3_in) := goodIn_app (goodIn_r _ [5, 6, 7] rfl (by decide +kernel)) ggX3_isNext_X3_in
theorem dX3_isNext_0 : decode cX3_isNext 0 = .ok (.aload_n 0, 1) := by decide +kernel
theorem dX3_isNext_1 : decode cX3_isNext 1 = .ok (.getfield 117, 3) := by decide +kernel
theorem dX3_isNext_4 : decode cX3_isNext 4 = .ok (.ifCond .ne 35, 3) := by decide +kernel
theorem dX3_isNext_7 : decode cX3_isNext 7 = .ok (.aload_n 0, 1) := by decide +kernel
theorem dX3_isNext_8 : decode cX3_isNext 8 = .ok (.getfield 121, 3) := by decide +kernel
theorem dX3_isNext_11 : decode cX3_isNext 11 = .ok (.aload_n 0, 1) := by decide +kernel
theorem dX3_isNext_12 : decode cX3_isNext 12 = .ok (.getfield 114, 3) := by decide +kernel
theorem dX3_isNext_15 : decode cX3_isNext 15 = .ok (.if_icmp .ge 24, 3) := by decide +kernel
theorem dX3_isNext_18 : decode cX3_isNext 18 = .ok (.aload_n 0, 1) := by decide +kernel
theorem dX3_isNext_19 : decode cX3_isNext 19 = .ok (.getfield 22, 3) := by decide +kernel
theorem dX3_isNext_22 : decode cX3_isNext 22 = .ok (.aload_n 0, 1) := by decide +kernel
theorem dX3_isNext_23 : decode cX3_isNext 23 = .ok (.getfield 121, 3) := by decide +kernel
theorem dX3_isNext_26 : decode cX3_isNext 26 = .ok (.iaload, 1) := by decide +kernel
theorem dX3_isNext_27 : decode cX3_isNext 27 = .ok (.iload_n 1, 1) := by decide +kernel
theorem dX3_isNext_28 : decode cX3_isNext 28 = .ok (.iload_n 2, 1) := by decide +kernel
theorem dX3_isNext_29 : decode cX3_isNext 29 = .ok (.invokestatic 29, 3) := by decide +kernel
theorem dX3_isNext_32 : decode cX3_isNext 32 = .ok (.ifCond .eq 7, 3) := by decide +kernel
theorem dX3_isNext_35 : decode cX3_isNext 35 = .ok (.iconst 1, 1) := by decide +kernel
theorem dX3_isNext_36 : decode cX3_isNext 36 = .ok (.goto 4, 3) := by decide +kernel
theorem dX3_isNext_39 : decode cX3_isNext 39 = .ok (.iconst 0, 1) := by decide +kernel
theorem dX3_isNext_40 : decode cX3_isNext 40 = .ok (.ireturn, 1) := by decide +kernel
set_option maxRecDepth 20000 in
theorem ggX3_takes_X3_isNext : GoodIn wsX3_takes wsX3_isNext := goodIn_r _ [8, 3, 2, 9, 1, 10, 11, 7, 12, 13, 14, 15, 16, 17, 18, 19, 20, 21, 22, 23, 24, 25] rfl (by decide +kernel)
set_option maxRecDepth 20000 in
theorem gX3_takes_X3_isNext : GoodIn wsX3_takes (wsV RX3 124 RX3 yX3_isNext wsX3_isNext) := goodIn_app (goodIn_r _ [4, 5, 6, 7] rfl (by decide +kernel)) ggX3_takes_X3_isNext
theorem dX3_takes_0 : decode cX3_takes 0 = .ok (.aload_n 0, 1) := by decide +kernel
theorem dX3_takes_1 : decode cX3_takes 1 = .ok (.iload_n 1, 1) := by decide +kernel
theorem dX3_takes_2 : decode cX3_takes 2 = .ok (.iload_n 2, 1) := by decide +kernel
theorem dX3_takes_3 : decode cX3_takes 3 = .ok (.invokevirtual 124, 3) := by decide +kernel
theorem dX3_takes_6 : decode cX3_takes 6 = .ok (.istore_n 3, 1) := by decide +kernel
theorem dX3_takes_7 : decode cX3_takes 7 = .ok (.iload_n 3, 1) := by decide +kernel
theorem dX3_takes_8 : decode cX3_takes 8 = .ok (.ifCond .eq 17, 3) := by decide +kernel
theorem dX3_takes_11 : decode cX3_takes 11 = .ok (.aload_n 0, 1) := by decide +kernel
theorem dX3_takes_12 : decode cX3_takes 12 = .ok (.getfield 22, 3) := by decide +kernel
theorem dX3_takes_15 : decode cX3_takes 15 = .ok (.aload_n 0, 1) := by decide +kernel
theorem dX3_takes_16 : decode cX3_takes 16 = .ok (.getfield 121, 3) := by decide +kernel
theorem dX3_takes_19 : decode cX3_takes 19 = .ok (.iaload, 1) := by decide +kernel
theorem dX3_takes_20 : decode cX3_takes 20 = .ok (.iload_n 1, 1) := by decide +kernel
theorem dX3_takes_21 : decode cX3_takes 21 = .ok (.isub, 1) := by decide +kernel
theorem dX3_takes_22 : decode cX3_takes 22 = .ok (.goto 4, 3) := by decide +kernel
theorem dX3_takes_25 : decode cX3_takes 25 = .ok (.iconst 0, 1) := by decide +kernel
theorem dX3_takes_26 : decode cX3_takes 26 = .ok (.istore 4, 2) := by decide +kernel
theorem dX3_takes_28 : decode cX3_takes 28 = .ok (.aload_n 0, 1) := by decide +kernel
theorem dX3_takes_29 : decode cX3_takes 29 = .ok (.dup, 1) := by decide +kernel
theorem dX3_takes_30 : decode cX3_takes 30 = .ok (.getfield 121, 3) := by decide +kernel
theorem dX3_takes_33 : decode cX3_takes 33 = .ok (.iload_n 3, 1) := by decide +kernel
theorem dX3_takes_34 : decode cX3_takes 34 = .ok (.ifCond .eq 7, 3) := by decide +kernel
theorem dX3_takes_37 : decode cX3_takes 37 = .ok (.iconst 1, 1) := by decide +kernel
theorem dX3_takes_38 : decode cX3_takes 38 = .ok (.goto 4, 3) := by decide +kernel
theorem dX3_takes_41 : decode cX3_takes 41 = .ok (.iconst 0, 1) := by decide +kernel
theorem dX3_takes_42 : decode cX3_takes 42 = .ok (.iadd, 1) := by decide +kernel
theorem dX3_takes_43 : decode cX3_takes 43 = .ok (.putfield 121, 3) := by decide +kernel
theorem dX3_takes_46 : decode cX3_takes 46 = .ok (.aload_n 0, 1) := by decide +kernel
theorem dX3_takes_47 : decode cX3_takes 47 = .ok (.aload_n 0, 1) := by decide +kernel
theorem dX3_takes_48 : decode cX3_takes 48 = .ok (.getfield 117, 3) := by decide +kernel
theorem dX3_takes_51 : decode cX3_takes 51 = .ok (.ifCond .ne 7, 3) := by decide +kernel
theorem dX3_takes_54 : decode cX3_takes 54 = .ok (.iload_n 3, 1) := by decide +kernel
theorem dX3_takes_55 : decode cX3_takes 55 = .ok (.ifCond .ne 7, 3) := by decide +kernel
theorem dX3_takes_58 : decode cX3_takes 58 = .ok (.iconst 1, 1) := by decide +kernel
theorem dX3_takes_59 : decode cX3_takes 59 = .ok (.goto 4, 3) := by decide +kernel
theorem dX3_takes_62 : decode cX3_takes 62 = .ok (.iconst 0, 1) := by decide +kernel
theorem dX3_takes_63 : decode cX3_takes 63 = .ok (.putfield 117, 3) := by decide +kernel
theorem dX3_takes_66 : decode cX3_takes 66 = .ok (.iload 4, 2) := by decide +kernel
theorem dX3_takes_68 : decode cX3_takes 68 = .ok (.ireturn, 1) := by decide +kernel
set_option maxRecDepth 20000 in
theorem ggX3_begins_X3_in : GoodIn wsX3_begins wsX3_in := goodIn_r _ [4] rfl (by decide +kernel)
set_option maxRecDepth 20000 in
theorem gX3_begins_X3_in : GoodIn wsX3_begins (va_wsS RX3 29 yX3_in wsX3_in) := goodIn_app (goodIn_r _ [1, 2, 3] rfl (by decide +kernel)) ggX3_begins_X3_in
theorem dX3_begins_0 : decode cX3_begins 0 = .ok (.iload_n 0, 1) := by decide +kernel
theorem dX3_begins_1 : decode cX3_begins 1 = .ok (.iload_n 1, 1) := by decide +kernel
theorem dX3_begins_2 : decode cX3_begins 2 = .ok (.iload_n 2, 1) := by decide +kernel
theorem dX3_begins_3 : decode cX3_begins 3 = .ok (.invokestatic 29, 3) := by decide +kernel
theorem dX3_begins_6 : decode cX3_begins 6 = .ok (.ifCond .ne 26, 3) := by decide +kernel
theorem dX3_begins_9 : decode cX3_begins 9 = .ok (.iload_n 0, 1) := by decide +kernel
theorem dX3_begins_10 : decode cX3_begins 10 = .ok (.ifCond .le 26, 3) := by decide +kernel
theorem dX3_begins_13 : decode cX3_begins 13 = .ok (.bipush 10, 2) := by decide +kernel
theorem dX3_begins_15 : decode cX3_begins 15 = .ok (.iload_n 0, 1) := by decide +kernel
theorem dX3_begins_16 : decode cX3_begins 16 = .ok (.imul, 1) := by decide +kernel
theorem dX3_begins_17 : decode cX3_begins 17 = .ok (.iload_n 2, 1) := by decide +kernel
theorem dX3_begins_18 : decode cX3_begins 18 = .ok (.if_icmp .gt 18, 3) := by decide +kernel
theorem dX3_begins_21 : decode cX3_begins 21 = .ok (.bipush 10, 2) := by decide +kernel
theorem dX3_begins_23 : decode cX3_begins 23 = .ok (.iload_n 0, 1) := by decide +kernel
theorem dX3_begins_24 : decode cX3_begins 24 = .ok (.imul, 1) := by decide +kernel
theorem dX3_begins_25 : decode cX3_begins 25 = .ok (.bipush 9, 2) := by decide +kernel
theorem dX3_begins_27 : decode cX3_begins 27 = .ok (.iadd, 1) := by decide +kernel
theorem dX3_begins_28 : decode cX3_begins 28 = .ok (.iload_n 1, 1) := by decide +kernel
theorem dX3_begins_29 : decode cX3_begins 29 = .ok (.if_icmp .lt 7, 3) := by decide +kernel
theorem dX3_begins_32 : decode cX3_begins 32 = .ok (.iconst 1, 1) := by decide +kernel
theorem dX3_begins_33 : decode cX3_begins 33 = .ok (.goto 4, 3) := by decide +kernel
theorem dX3_begins_36 : decode cX3_begins 36 = .ok (.iconst 0, 1) := by decide +kernel
theorem dX3_begins_37 : decode cX3_begins 37 = .ok (.ireturn, 1) := by decide +kernel
set_option maxRecDepth 20000 in
theorem ggX3_number_X3_isNext : GoodIn wsX3_number wsX3_isNext := goodIn_r _ [8, 3, 2, 9, 1, 10, 11, 7, 12, 16, 17, 18, 19, 20, 21, 22, 23, 24, 25, 26, 27, 28] rfl (by decide +kernel)
set_option maxRecDepth 20000 in
theorem gX3_number_X3_isNext : GoodIn wsX3_number (wsV RX3 124 RX3 yX3_isNext wsX3_isNext) := goodIn_app (goodIn_r _ [4, 5, 6, 7] rfl (by decide +kernel)) ggX3_number_X3_isNext
set_option maxRecDepth 20000 in
theorem ggX3_number_X3_begins : GoodIn wsX3_number wsX3_begins := goodIn_r _ [15, 10, 11, 7, 12] rfl (by decide +kernel)
set_option maxRecDepth 20000 in
theorem gX3_number_X3_begins : GoodIn wsX3_number (va_wsS RX3 127 yX3_begins wsX3_begins) := goodIn_app (goodIn_r _ [13, 14, 7] rfl (by decide +kernel)) ggX3_number_X3_begins
set_option maxRecDepth 20000 in
theorem ggX3_number_X3_in : GoodIn wsX3_number wsX3_in := goodIn_r _ [12] rfl (by decide +kernel)
set_option maxRecDepth 20000 in
theorem gX3_number_X3_in : GoodIn wsX3_number (va_wsS RX3 29 yX3_in wsX3_in) := goodIn_app (goodIn_r _ [10, 11, 7] rfl (by decide +kernel)) ggX3_number_X3_in
theorem dX3_number_0 : decode cX3_number 0 = .ok (.aload_n 0, 1) := by decide +kernel
theorem dX3_number_1 : decode cX3_number 1 = .ok (.bipush 48, 2) := by decide +kernel
theorem dX3_number_3 : decode cX3_number 3 = .ok (.bipush 57, 2) := by decide +kernel
theorem dX3_number_5 : decode cX3_number 5 = .ok (.invokevirtual 124, 3) := by decide +kernel
theorem dX3_number_8 : decode cX3_number 8 = .ok (.ifCond .eq 18, 3) := by decide +kernel
theorem dX3_number_11 : decode cX3_number 11 = .ok (.aload_n 0, 1) := by decide +kernel
theorem dX3_number_12 : decode cX3_number 12 = .ok (.getfield 22, 3) := by decide +kernel
theorem dX3_number_15 : decode cX3_number 15 = .ok (.aload_n 0, 1) := by decide +kernel
theorem dX3_number_16 : decode cX3_number 16 = .ok (.getfield 121, 3) := by decide +kernel
theorem dX3_number_19 : decode cX3_number 19 = .ok (.iaload, 1) := by decide +kernel
theorem dX3_number_20 : decode cX3_number 20 = .ok (.bipush 48, 2) := by decide +kernel
theorem dX3_number_22 : decode cX3_number 22 = .ok (.isub, 1) := by decide +kernel
theorem dX3_number_23 : decode cX3_number 23 = .ok (.goto 4, 3) := by decide +kernel
theorem dX3_number_26 : decode cX3_number 26 = .ok (.iconst (-1), 1) := by decide +kernel
theorem dX3_number_27 : decode cX3_number 27 = .ok (.istore_n 3, 1) := by decide +kernel
theorem dX3_number_28 : decode cX3_number 28 = .ok (.aload_n 0, 1) := by decide +kernel
theorem dX3_number_29 : decode cX3_number 29 = .ok (.aload_n 0, 1) := by decide +kernel
theorem dX3_number_30 : decode cX3_number 30 = .ok (.getfield 117, 3) := by decide +kernel
theorem dX3_number_33 : decode cX3_number 33 = .ok (.ifCond .ne 12, 3) := by decide +kernel
theorem dX3_number_36 : decode cX3_number 36 = .ok (.iload_n 3, 1) := by decide +kernel
theorem dX3_number_37 : decode cX3_number 37 = .ok (.iload_n 1, 1) := by decide +kernel
theorem dX3_number_38 : decode cX3_number 38 = .ok (.iload_n 2, 1) := by decide +kernel
theorem dX3_number_39 : decode cX3_number 39 = .ok (.invokestatic 127, 3) := by decide +kernel
theorem dX3_number_42 : decode cX3_number 42 = .ok (.ifCond .ne 7, 3) := by decide +kernel
theorem dX3_number_45 : decode cX3_number 45 = .ok (.iconst 1, 1) := by decide +kernel
theorem dX3_number_46 : decode cX3_number 46 = .ok (.goto 4, 3) := by decide +kernel
theorem dX3_number_49 : decode cX3_number 49 = .ok (.iconst 0, 1) := by decide +kernel
theorem dX3_number_50 : decode cX3_number 50 = .ok (.putfield 117, 3) := by decide +kernel
theorem dX3_number_53 : decode cX3_number 53 = .ok (.aload_n 0, 1) := by decide +kernel
theorem dX3_number_54 : decode cX3_number 54 = .ok (.dup, 1) := by decide +kernel
theorem dX3_number_55 : decode cX3_number 55 = .ok (.getfield 121, 3) := by decide +kernel
theorem dX3_number_58 : decode cX3_number 58 = .ok (.aload_n 0, 1) := by decide +kernel
theorem dX3_number_59 : decode cX3_number 59 = .ok (.getfield 117, 3) := by decide +kernel
theorem dX3_number_62 : decode cX3_number 62 = .ok (.ifCond .eq 7, 3) := by decide +kernel
theorem dX3_number_65 : decode cX3_number 65 = .ok (.iconst 0, 1) := by decide +kernel
theorem dX3_number_66 : decode cX3_number 66 = .ok (.goto 4, 3) := by decide +kernel
theorem dX3_number_69 : decode cX3_number 69 = .ok (.iconst 1, 1) := by decide +kernel
theorem dX3_number_70 : decode cX3_number 70 = .ok (.iadd, 1) := by decide +kernel
theorem dX3_number_71 : decode cX3_number 71 = .ok (.putfield 121, 3) := by decide +kernel
theorem dX3_number_74 : decode cX3_number 74 = .ok (.iload_n 3, 1) := by decide +kernel
theorem dX3_number_75 : decode cX3_number 75 = .ok (.ifCond .le 67, 3) := by decide +kernel
theorem dX3_number_78 : decode cX3_number 78 = .ok (.aload_n 0, 1) := by decide +kernel
theorem dX3_number_79 : decode cX3_number 79 = .ok (.bipush 48, 2) := by decide +kernel
theorem dX3_number_81 : decode cX3_number 81 = .ok (.bipush 57, 2) := by decide +kernel
theorem dX3_number_83 : decode cX3_number 83 = .ok (.invokevirtual 124, 3) := by decide +kernel
theorem dX3_number_86 : decode cX3_number 86 = .ok (.ifCond .eq 56, 3) := by decide +kernel
theorem dX3_number_89 : decode cX3_number 89 = .ok (.bipush 10, 2) := by decide +kernel
theorem dX3_number_91 : decode cX3_number 91 = .ok (.iload_n 3, 1) := by decide +kernel
theorem dX3_number_92 : decode cX3_number 92 = .ok (.imul, 1) := by decide +kernel
theorem dX3_number_93 : decode cX3_number 93 = .ok (.aload_n 0, 1) := by decide +kernel
theorem dX3_number_94 : decode cX3_number 94 = .ok (.getfield 22, 3) := by decide +kernel
theorem dX3_number_97 : decode cX3_number 97 = .ok (.aload_n 0, 1) := by decide +kernel
theorem dX3_number_98 : decode cX3_number 98 = .ok (.getfield 121, 3) := by decide +kernel
theorem dX3_number_101 : decode cX3_number 101 = .ok (.iaload, 1) := by decide +kernel
theorem dX3_number_102 : decode cX3_number 102 = .ok (.iadd, 1) := by decide +kernel
theorem dX3_number_103 : decode cX3_number 103 = .ok (.bipush 48, 2) := by decide +kernel
theorem dX3_number_105 : decode cX3_number 105 = .ok (.isub, 1) := by decide +kernel
theorem dX3_number_106 : decode cX3_number 106 = .ok (.iload_n 1, 1) := by decide +kernel
theorem dX3_number_107 : decode cX3_number 107 = .ok (.iload_n 2, 1) := by decide +kernel
theorem dX3_number_108 : decode cX3_number 108 = .ok (.invokestatic 29, 3) := by decide +kernel
theorem dX3_number_111 : decode cX3_number 111 = .ok (.ifCond .eq 31, 3) := by decide +kernel
theorem dX3_number_114 : decode cX3_number 114 = .ok (.bipush 10, 2) := by decide +kernel
theorem dX3_number_116 : decode cX3_number 116 = .ok (.iload_n 3, 1) := by decide +kernel
theorem dX3_number_117 : decode cX3_number 117 = .ok (.imul, 1) := by decide +kernel
theorem dX3_number_118 : decode cX3_number 118 = .ok (.aload_n 0, 1) := by decide +kernel
theorem dX3_number_119 : decode cX3_number 119 = .ok (.getfield 22, 3) := by decide +kernel
theorem dX3_number_122 : decode cX3_number 122 = .ok (.aload_n 0, 1) := by decide +kernel
theorem dX3_number_123 : decode cX3_number 123 = .ok (.getfield 121, 3) := by decide +kernel
theorem dX3_number_126 : decode cX3_number 126 = .ok (.iaload, 1) := by decide +kernel
theorem dX3_number_127 : decode cX3_number 127 = .ok (.iadd, 1) := by decide +kernel
theorem dX3_number_128 : decode cX3_number 128 = .ok (.bipush 48, 2) := by decide +kernel
theorem dX3_number_130 : decode cX3_number 130 = .ok (.isub, 1) := by decide +kernel
theorem dX3_number_131 : decode cX3_number 131 = .ok (.istore_n 3, 1) := by decide +kernel
theorem dX3_number_132 : decode cX3_number 132 = .ok (.aload_n 0, 1) := by decide +kernel
theorem dX3_number_133 : decode cX3_number 133 = .ok (.dup, 1) := by decide +kernel
theorem dX3_number_134 : decode cX3_number 134 = .ok (.getfield 121, 3) := by decide +kernel
theorem dX3_number_137 : decode cX3_number 137 = .ok (.iconst 1, 1) := by decide +kernel
theorem dX3_number_138 : decode cX3_number 138 = .ok (.iadd, 1) := by decide +kernel
theorem dX3_number_139 : decode cX3_number 139 = .ok (.putfield 121, 3) := by decide +kernel
theorem dX3_number_142 : decode cX3_number 142 = .ok (.aload_n 0, 1) := by decide +kernel
theorem dX3_number_143 : decode cX3_number 143 = .ok (.aload_n 0, 1) := by decide +kernel
theorem dX3_number_144 : decode cX3_number 144 = .ok (.getfield 117, 3) := by decide +kernel
theorem dX3_number_147 : decode cX3_number 147 = .ok (.ifCond .ne 12, 3) := by decide +kernel
theorem dX3_number_150 : decode cX3_number 150 = .ok (.iload_n 3, 1) := by decide +kernel
theorem dX3_number_151 : decode cX3_number 151 = .ok (.iload_n 1, 1) := by decide +kernel
theorem dX3_number_152 : decode cX3_number 152 = .ok (.iload_n 2, 1) := by decide +kernel
theorem dX3_number_153 : decode cX3_number 153 = .ok (.invokestatic 29, 3) := by decide +kernel
theorem dX3_number_156 : decode cX3_number 156 = .ok (.ifCond .ne 7, 3) := by decide +kernel
theorem dX3_number_159 : decode cX3_number 159 = .ok (.iconst 1, 1) := by decide +kernel
theorem dX3_number_160 : decode cX3_number 160 = .ok (.goto 4, 3) := by decide +kernel
theorem dX3_number_163 : decode cX3_number 163 = .ok (.iconst 0, 1) := by decide +kernel
theorem dX3_number_164 : decode cX3_number 164 = .ok (.putfield 117, 3) := by decide +kernel
theorem dX3_number_167 : decode cX3_number 167 = .ok (.iload_n 3, 1) := by decide +kernel
theorem dX3_number_168 : decode cX3_number 168 = .ok (.ireturn, 1) := by decide +kernel
set_option maxRecDepth 20000 in
theorem ggX3_readSteps_X3_number : GoodIn wsX3_readSteps wsX3_number := goodIn_r _ [8, 9, 1, 10, 11, 12, 13, 7, 14, 15, 16, 17, 18, 19, 20, 21, 44, 45, 46, 47, 48, 49, 50, 51, 52, 53, 54, 55, 56] rfl (by decide +kernel)
set_option maxRecDepth 20000 in
theorem gX3_readSteps_X3_number : GoodIn wsX3_readSteps (wsV RX3 130 RX3 yX3_number wsX3_number) := goodIn_app (goodIn_r _ [4, 5, 6, 7] rfl (by decide +kernel)) ggX3_readSteps_X3_number
set_option maxRecDepth 20000 in
theorem ggX3_readSteps_X3_isNext : GoodIn wsX3_readSteps wsX3_isNext := goodIn_r _ [14, 10, 1, 15, 9, 16, 17, 7, 18, 44, 45, 46, 47, 48, 49, 50, 51, 52, 53, 54, 55, 56] rfl (by decide +kernel)
set_option maxRecDepth 20000 in
theorem gX3_readSteps_X3_isNext : GoodIn wsX3_readSteps (wsV RX3 124 RX3 yX3_isNext wsX3_isNext) := goodIn_app (goodIn_r _ [11, 12, 13, 7] rfl (by decide +kernel)) ggX3_readSteps_X3_isNext
set_option maxRecDepth 20000 in
theorem ggX3_readSteps_X3_hindrance : GoodIn wsX3_readSteps wsX3_hindrance := goodIn_r _ [25, 2, 26, 27, 28, 7, 29, 30, 31, 32, 33, 34, 35, 36, 37, 38, 39, 40, 41, 42, 43, 44, 45, 46, 47, 48, 49, 50, 51, 52, 53, 54, 55, 56] rfl (by decide +kernel)
set_option maxRecDepth 20000 in
theorem gX3_readSteps_X3_hindrance : GoodIn wsX3_readSteps (wsV RX3 69 RX3 yX3_hindrance wsX3_hindrance) := goodIn_app (goodIn_r _ [22, 23, 24, 7] rfl (by decide +kernel)) ggX3_readSteps_X3_hindrance
set_option maxRecDepth 20000 in
theorem ggX3_readSteps_X3_ofPins : GoodIn wsX3_readSteps wsX3_ofPins := goodIn_r _ [32] rfl (by decide +kernel)
set_option maxRecDepth 20000 in
theorem gX3_readSteps_X3_ofPins : GoodIn wsX3_readSteps (va_wsS RX3 46 yX3_ofPins wsX3_ofPins) := goodIn_app (goodIn_r _ [30, 31, 7] rfl (by decide +kernel)) ggX3_readSteps_X3_ofPins
theorem dX3_readSteps_0 : decode cX3_readSteps 0 = .ok (.aload_n 0, 1) := by decide +kernel
theorem dX3_readSteps_1 : decode cX3_readSteps 1 = .ok (.iconst 0, 1) := by decide +kernel
theorem dX3_readSteps_2 : decode cX3_readSteps 2 = .ok (.bipush 31, 2) := by decide +kernel
theorem dX3_readSteps_4 : decode cX3_readSteps 4 = .ok (.invokevirtual 130, 3) := by decide +kernel
theorem dX3_readSteps_7 : decode cX3_readSteps 7 = .ok (.istore 4, 2) := by decide +kernel
theorem dX3_readSteps_9 : decode cX3_readSteps 9 = .ok (.iload 4, 2) := by decide +kernel
theorem dX3_readSteps_11 : decode cX3_readSteps 11 = .ok (.istore 5, 2) := by decide +kernel
theorem dX3_readSteps_13 : decode cX3_readSteps 13 = .ok (.iload 4, 2) := by decide +kernel
theorem dX3_readSteps_15 : decode cX3_readSteps 15 = .ok (.bipush 31, 2) := by decide +kernel
theorem dX3_readSteps_17 : decode cX3_readSteps 17 = .ok (.if_icmp .ge 36, 3) := by decide +kernel
theorem dX3_readSteps_20 : decode cX3_readSteps 20 = .ok (.aload_n 0, 1) := by decide +kernel
theorem dX3_readSteps_21 : decode cX3_readSteps 21 = .ok (.bipush 45, 2) := by decide +kernel
theorem dX3_readSteps_23 : decode cX3_readSteps 23 = .ok (.bipush 45, 2) := by decide +kernel
theorem dX3_readSteps_25 : decode cX3_readSteps 25 = .ok (.invokevirtual 124, 3) := by decide +kernel
theorem dX3_readSteps_28 : decode cX3_readSteps 28 = .ok (.ifCond .eq 25, 3) := by decide +kernel
theorem dX3_readSteps_31 : decode cX3_readSteps 31 = .ok (.aload_n 0, 1) := by decide +kernel
theorem dX3_readSteps_32 : decode cX3_readSteps 32 = .ok (.dup, 1) := by decide +kernel
theorem dX3_readSteps_33 : decode cX3_readSteps 33 = .ok (.getfield 121, 3) := by decide +kernel
theorem dX3_readSteps_36 : decode cX3_readSteps 36 = .ok (.iconst 1, 1) := by decide +kernel
theorem dX3_readSteps_37 : decode cX3_readSteps 37 = .ok (.iadd, 1) := by decide +kernel
theorem dX3_readSteps_38 : decode cX3_readSteps 38 = .ok (.putfield 121, 3) := by decide +kernel
theorem dX3_readSteps_41 : decode cX3_readSteps 41 = .ok (.aload_n 0, 1) := by decide +kernel
theorem dX3_readSteps_42 : decode cX3_readSteps 42 = .ok (.iload 4, 2) := by decide +kernel
theorem dX3_readSteps_44 : decode cX3_readSteps 44 = .ok (.iconst 1, 1) := by decide +kernel
theorem dX3_readSteps_45 : decode cX3_readSteps 45 = .ok (.iadd, 1) := by decide +kernel
theorem dX3_readSteps_46 : decode cX3_readSteps 46 = .ok (.bipush 31, 2) := by decide +kernel
theorem dX3_readSteps_48 : decode cX3_readSteps 48 = .ok (.invokevirtual 130, 3) := by decide +kernel
theorem dX3_readSteps_51 : decode cX3_readSteps 51 = .ok (.istore 5, 2) := by decide +kernel
theorem dX3_readSteps_53 : decode cX3_readSteps 53 = .ok (.iload 4, 2) := by decide +kernel
theorem dX3_readSteps_55 : decode cX3_readSteps 55 = .ok (.istore 6, 2) := by decide +kernel
theorem dX3_readSteps_57 : decode cX3_readSteps 57 = .ok (.iload 6, 2) := by decide +kernel
theorem dX3_readSteps_59 : decode cX3_readSteps 59 = .ok (.iload 5, 2) := by decide +kernel
theorem dX3_readSteps_61 : decode cX3_readSteps 61 = .ok (.if_icmp .gt 51, 3) := by decide +kernel
theorem dX3_readSteps_64 : decode cX3_readSteps 64 = .ok (.iload_n 3, 1) := by decide +kernel
theorem dX3_readSteps_65 : decode cX3_readSteps 65 = .ok (.ifCond .eq 47, 3) := by decide +kernel
theorem dX3_readSteps_68 : decode cX3_readSteps 68 = .ok (.aload_n 0, 1) := by decide +kernel
theorem dX3_readSteps_69 : decode cX3_readSteps 69 = .ok (.iload_n 1, 1) := by decide +kernel
theorem dX3_readSteps_70 : decode cX3_readSteps 70 = .ok (.iload_n 2, 1) := by decide +kernel
theorem dX3_readSteps_71 : decode cX3_readSteps 71 = .ok (.iload 6, 2) := by decide +kernel
theorem dX3_readSteps_73 : decode cX3_readSteps 73 = .ok (.invokevirtual 69, 3) := by decide +kernel
theorem dX3_readSteps_76 : decode cX3_readSteps 76 = .ok (.ifCond .ne 30, 3) := by decide +kernel
theorem dX3_readSteps_79 : decode cX3_readSteps 79 = .ok (.aload_n 0, 1) := by decide +kernel
theorem dX3_readSteps_80 : decode cX3_readSteps 80 = .ok (.getfield 7, 3) := by decide +kernel
theorem dX3_readSteps_83 : decode cX3_readSteps 83 = .ok (.iload_n 1, 1) := by decide +kernel
theorem dX3_readSteps_84 : decode cX3_readSteps 84 = .ok (.iload_n 2, 1) := by decide +kernel
theorem dX3_readSteps_85 : decode cX3_readSteps 85 = .ok (.invokestatic 46, 3) := by decide +kernel
theorem dX3_readSteps_88 : decode cX3_readSteps 88 = .ok (.dup2, 1) := by decide +kernel
theorem dX3_readSteps_89 : decode cX3_readSteps 89 = .ok (.iaload, 1) := by decide +kernel
theorem dX3_readSteps_90 : decode cX3_readSteps 90 = .ok (.iconst 1, 1) := by decide +kernel
theorem dX3_readSteps_91 : decode cX3_readSteps 91 = .ok (.iload 6, 2) := by decide +kernel
theorem dX3_readSteps_93 : decode cX3_readSteps 93 = .ok (.ishl, 1) := by decide +kernel
theorem dX3_readSteps_94 : decode cX3_readSteps 94 = .ok (.ior, 1) := by decide +kernel
theorem dX3_readSteps_95 : decode cX3_readSteps 95 = .ok (.iastore, 1) := by decide +kernel
theorem dX3_readSteps_96 : decode cX3_readSteps 96 = .ok (.aload_n 0, 1) := by decide +kernel
theorem dX3_readSteps_97 : decode cX3_readSteps 97 = .ok (.dup, 1) := by decide +kernel
theorem dX3_readSteps_98 : decode cX3_readSteps 98 = .ok (.getfield 133, 3) := by decide +kernel
theorem dX3_readSteps_101 : decode cX3_readSteps 101 = .ok (.iconst 1, 1) := by decide +kernel
theorem dX3_readSteps_102 : decode cX3_readSteps 102 = .ok (.iadd, 1) := by decide +kernel
theorem dX3_readSteps_103 : decode cX3_readSteps 103 = .ok (.putfield 133, 3) := by decide +kernel
theorem dX3_readSteps_106 : decode cX3_readSteps 106 = .ok (.iinc 6 1, 3) := by decide +kernel
theorem dX3_readSteps_109 : decode cX3_readSteps 109 = .ok (.goto (-52), 3) := by decide +kernel
theorem dX3_readSteps_112 : decode cX3_readSteps 112 = .ok (.return_, 1) := by decide +kernel
set_option maxRecDepth 20000 in
theorem ggX3_readPart_X3_takes : GoodIn wsX3_readPart wsX3_takes := goodIn_r _ [6, 7, 1, 8, 9, 10, 11, 5, 12, 13, 14, 15, 16, 52, 53, 54, 55, 56, 57, 58, 59, 60, 61, 62, 63, 64] rfl (by decide +kernel)
set_option maxRecDepth 20000 in
theorem gX3_readPart_X3_takes : GoodIn wsX3_readPart (wsV RX3 136 RX3 yX3_takes wsX3_takes) := goodIn_app (goodIn_r _ [2, 3, 4, 5] rfl (by decide +kernel)) ggX3_readPart_X3_takes
set_option maxRecDepth 20000 in
theorem ggX3_readPart_X3_number : GoodIn wsX3_readPart wsX3_number := goodIn_r _ [20, 7, 1, 8, 9, 10, 11, 5, 12, 13, 14, 15, 16, 21, 22, 23, 52, 53, 54, 55, 56, 57, 58, 59, 60, 61, 62, 63, 64] rfl (by decide +kernel)
set_option maxRecDepth 20000 in
theorem gX3_readPart_X3_number : GoodIn wsX3_readPart (wsV RX3 130 RX3 yX3_number wsX3_number) := goodIn_app (goodIn_r _ [17, 18, 19, 5] rfl (by decide +kernel)) ggX3_readPart_X3_number
set_option maxRecDepth 20000 in
theorem ggX3_readPart_X3_readSteps : GoodIn wsX3_readPart wsX3_readSteps := goodIn_r _ [27, 1, 28, 29, 17, 18, 19, 5, 20, 7, 8, 9, 10, 11, 12, 13, 14, 15, 16, 21, 22, 23, 30, 31, 32, 33, 34, 35, 36, 37, 38, 39, 40, 41, 42, 43, 44, 45, 46, 47, 48, 49, 50, 51, 52, 53, 54, 55, 56, 57, 58, 59, 60, 61, 62, 63, 64] rfl (by decide +kernel)
set_option maxRecDepth 20000 in
theorem gX3_readPart_X3_readSteps : GoodIn wsX3_readPart (wsV RX3 139 RX3 yX3_readSteps wsX3_readSteps) := goodIn_app (goodIn_r _ [24, 25, 26, 5] rfl (by decide +kernel)) ggX3_readPart_X3_readSteps
set_option maxRecDepth 20000 in
theorem ggX3_readPart_X3_isNext : GoodIn wsX3_readPart wsX3_isNext := goodIn_r _ [12, 8, 1, 13, 7, 14, 15, 5, 16, 52, 53, 54, 55, 56, 57, 58, 59, 60, 61, 62, 63, 64] rfl (by decide +kernel)
set_option maxRecDepth 20000 in
theorem gX3_readPart_X3_isNext : GoodIn wsX3_readPart (wsV RX3 124 RX3 yX3_isNext wsX3_isNext) := goodIn_app (goodIn_r _ [9, 10, 11, 5] rfl (by decide +kernel)) ggX3_readPart_X3_isNext
theorem dX3_readPart_0 : decode cX3_readPart 0 = .ok (.aload_n 0, 1) := by decide +kernel
theorem dX3_readPart_1 : decode cX3_readPart 1 = .ok (.bipush 48, 2) := by decide +kernel
theorem dX3_readPart_3 : decode cX3_readPart 3 = .ok (.bipush 50, 2) := by decide +kernel
theorem dX3_readPart_5 : decode cX3_readPart 5 = .ok (.invokevirtual 136, 3) := by decide +kernel
theorem dX3_readPart_8 : decode cX3_readPart 8 = .ok (.istore_n 2, 1) := by decide +kernel
theorem dX3_readPart_9 : decode cX3_readPart 9 = .ok (.aload_n 0, 1) := by decide +kernel
theorem dX3_readPart_10 : decode cX3_readPart 10 = .ok (.bipush 47, 2) := by decide +kernel
theorem dX3_readPart_12 : decode cX3_readPart 12 = .ok (.bipush 47, 2) := by decide +kernel
theorem dX3_readPart_14 : decode cX3_readPart 14 = .ok (.invokevirtual 136, 3) := by decide +kernel
theorem dX3_readPart_17 : decode cX3_readPart 17 = .ok (.istore_n 3, 1) := by decide +kernel
theorem dX3_readPart_18 : decode cX3_readPart 18 = .ok (.aload_n 0, 1) := by decide +kernel
theorem dX3_readPart_19 : decode cX3_readPart 19 = .ok (.iconst 0, 1) := by decide +kernel
theorem dX3_readPart_20 : decode cX3_readPart 20 = .ok (.bipush 11, 2) := by decide +kernel
theorem dX3_readPart_22 : decode cX3_readPart 22 = .ok (.invokevirtual 130, 3) := by decide +kernel
theorem dX3_readPart_25 : decode cX3_readPart 25 = .ok (.istore 4, 2) := by decide +kernel
theorem dX3_readPart_27 : decode cX3_readPart 27 = .ok (.aload_n 0, 1) := by decide +kernel
theorem dX3_readPart_28 : decode cX3_readPart 28 = .ok (.bipush 58, 2) := by decide +kernel
theorem dX3_readPart_30 : decode cX3_readPart 30 = .ok (.bipush 58, 2) := by decide +kernel
theorem dX3_readPart_32 : decode cX3_readPart 32 = .ok (.invokevirtual 136, 3) := by decide +kernel
theorem dX3_readPart_35 : decode cX3_readPart 35 = .ok (.istore_n 3, 1) := by decide +kernel
theorem dX3_readPart_36 : decode cX3_readPart 36 = .ok (.aload_n 0, 1) := by decide +kernel
theorem dX3_readPart_37 : decode cX3_readPart 37 = .ok (.iload_n 2, 1) := by decide +kernel
theorem dX3_readPart_38 : decode cX3_readPart 38 = .ok (.iload 4, 2) := by decide +kernel
theorem dX3_readPart_40 : decode cX3_readPart 40 = .ok (.iload_n 1, 1) := by decide +kernel
theorem dX3_readPart_41 : decode cX3_readPart 41 = .ok (.invokevirtual 139, 3) := by decide +kernel
theorem dX3_readPart_44 : decode cX3_readPart 44 = .ok (.aload_n 0, 1) := by decide +kernel
theorem dX3_readPart_45 : decode cX3_readPart 45 = .ok (.bipush 44, 2) := by decide +kernel
theorem dX3_readPart_47 : decode cX3_readPart 47 = .ok (.bipush 44, 2) := by decide +kernel
theorem dX3_readPart_49 : decode cX3_readPart 49 = .ok (.invokevirtual 124, 3) := by decide +kernel
theorem dX3_readPart_52 : decode cX3_readPart 52 = .ok (.ifCond .eq 24, 3) := by decide +kernel
theorem dX3_readPart_55 : decode cX3_readPart 55 = .ok (.aload_n 0, 1) := by decide +kernel
theorem dX3_readPart_56 : decode cX3_readPart 56 = .ok (.dup, 1) := by decide +kernel
theorem dX3_readPart_57 : decode cX3_readPart 57 = .ok (.getfield 121, 3) := by decide +kernel
theorem dX3_readPart_60 : decode cX3_readPart 60 = .ok (.iconst 1, 1) := by decide +kernel
theorem dX3_readPart_61 : decode cX3_readPart 61 = .ok (.iadd, 1) := by decide +kernel
theorem dX3_readPart_62 : decode cX3_readPart 62 = .ok (.putfield 121, 3) := by decide +kernel
theorem dX3_readPart_65 : decode cX3_readPart 65 = .ok (.aload_n 0, 1) := by decide +kernel
theorem dX3_readPart_66 : decode cX3_readPart 66 = .ok (.iload_n 2, 1) := by decide +kernel
theorem dX3_readPart_67 : decode cX3_readPart 67 = .ok (.iload 4, 2) := by decide +kernel
theorem dX3_readPart_69 : decode cX3_readPart 69 = .ok (.iload_n 1, 1) := by decide +kernel
theorem dX3_readPart_70 : decode cX3_readPart 70 = .ok (.invokevirtual 139, 3) := by decide +kernel
theorem dX3_readPart_73 : decode cX3_readPart 73 = .ok (.goto (-29), 3) := by decide +kernel
theorem dX3_readPart_76 : decode cX3_readPart 76 = .ok (.return_, 1) := by decide +kernel
set_option maxRecDepth 20000 in
theorem ggX3_reads_X3_readPart : GoodIn wsX3_reads wsX3_readPart := goodIn_r _ [9, 1, 10, 11, 12, 8, 13, 14, 2, 15, 16, 17, 18, 4, 19, 20, 21, 22, 23, 24, 25, 26, 27, 28, 29, 30, 31, 32, 33, 3, 34, 35, 36, 37, 38, 39, 40, 41, 42, 43, 44, 45, 46, 47, 48, 49, 50, 51, 52, 53, 54, 55, 56, 57, 58, 59, 60, 61, 62, 63, 64, 65, 66, 67, 68] rfl (by decide +kernel)
set_option maxRecDepth 20000 in
theorem gX3_reads_X3_readPart : GoodIn wsX3_reads (wsV RX3 143 RX3 yX3_readPart wsX3_readPart) := goodIn_app (goodIn_r _ [5, 6, 7, 8] rfl (by decide +kernel)) ggX3_reads_X3_readPart
set_option maxRecDepth 20000 in
theorem ggX3_reads_X3_isNext : GoodIn wsX3_reads wsX3_isNext := goodIn_r _ [18, 2, 1, 4, 14, 19, 20, 8, 21, 56, 57, 58, 59, 60, 61, 62, 63, 64, 65, 66, 67, 68] rfl (by decide +kernel)
set_option maxRecDepth 20000 in
theorem gX3_reads_X3_isNext : GoodIn wsX3_reads (wsV RX3 124 RX3 yX3_isNext wsX3_isNext) := goodIn_app (goodIn_r _ [15, 16, 17, 8] rfl (by decide +kernel)) ggX3_reads_X3_isNext
theorem dX3_reads_0 : decode cX3_reads 0 = .ok (.aload_n 0, 1) := by decide +kernel
theorem dX3_reads_1 : decode cX3_reads 1 = .ok (.iconst 0, 1) := by decide +kernel
theorem dX3_reads_2 : decode cX3_reads 2 = .ok (.putfield 121, 3) := by decide +kernel
theorem dX3_reads_5 : decode cX3_reads 5 = .ok (.aload_n 0, 1) := by decide +kernel
theorem dX3_reads_6 : decode cX3_reads 6 = .ok (.iconst 0, 1) := by decide +kernel
theorem dX3_reads_7 : decode cX3_reads 7 = .ok (.putfield 117, 3) := by decide +kernel
theorem dX3_reads_10 : decode cX3_reads 10 = .ok (.aload_n 0, 1) := by decide +kernel
theorem dX3_reads_11 : decode cX3_reads 11 = .ok (.iconst 0, 1) := by decide +kernel
theorem dX3_reads_12 : decode cX3_reads 12 = .ok (.putfield 133, 3) := by decide +kernel
theorem dX3_reads_15 : decode cX3_reads 15 = .ok (.aload_n 0, 1) := by decide +kernel
theorem dX3_reads_16 : decode cX3_reads 16 = .ok (.iload_n 1, 1) := by decide +kernel
theorem dX3_reads_17 : decode cX3_reads 17 = .ok (.invokevirtual 143, 3) := by decide +kernel
theorem dX3_reads_20 : decode cX3_reads 20 = .ok (.aload_n 0, 1) := by decide +kernel
theorem dX3_reads_21 : decode cX3_reads 21 = .ok (.bipush 59, 2) := by decide +kernel
theorem dX3_reads_23 : decode cX3_reads 23 = .ok (.bipush 59, 2) := by decide +kernel
theorem dX3_reads_25 : decode cX3_reads 25 = .ok (.invokevirtual 124, 3) := by decide +kernel
theorem dX3_reads_28 : decode cX3_reads 28 = .ok (.ifCond .eq 21, 3) := by decide +kernel
theorem dX3_reads_31 : decode cX3_reads 31 = .ok (.aload_n 0, 1) := by decide +kernel
theorem dX3_reads_32 : decode cX3_reads 32 = .ok (.dup, 1) := by decide +kernel
theorem dX3_reads_33 : decode cX3_reads 33 = .ok (.getfield 121, 3) := by decide +kernel
theorem dX3_reads_36 : decode cX3_reads 36 = .ok (.iconst 1, 1) := by decide +kernel
theorem dX3_reads_37 : decode cX3_reads 37 = .ok (.iadd, 1) := by decide +kernel
theorem dX3_reads_38 : decode cX3_reads 38 = .ok (.putfield 121, 3) := by decide +kernel
theorem dX3_reads_41 : decode cX3_reads 41 = .ok (.aload_n 0, 1) := by decide +kernel
theorem dX3_reads_42 : decode cX3_reads 42 = .ok (.iload_n 1, 1) := by decide +kernel
theorem dX3_reads_43 : decode cX3_reads 43 = .ok (.invokevirtual 143, 3) := by decide +kernel
theorem dX3_reads_46 : decode cX3_reads 46 = .ok (.goto (-26), 3) := by decide +kernel
theorem dX3_reads_49 : decode cX3_reads 49 = .ok (.aload_n 0, 1) := by decide +kernel
theorem dX3_reads_50 : decode cX3_reads 50 = .ok (.getfield 117, 3) := by decide +kernel
theorem dX3_reads_53 : decode cX3_reads 53 = .ok (.ifCond .ne 18, 3) := by decide +kernel
theorem dX3_reads_56 : decode cX3_reads 56 = .ok (.aload_n 0, 1) := by decide +kernel
theorem dX3_reads_57 : decode cX3_reads 57 = .ok (.getfield 121, 3) := by decide +kernel
theorem dX3_reads_60 : decode cX3_reads 60 = .ok (.aload_n 0, 1) := by decide +kernel
theorem dX3_reads_61 : decode cX3_reads 61 = .ok (.getfield 114, 3) := by decide +kernel
theorem dX3_reads_64 : decode cX3_reads 64 = .ok (.if_icmp .ne 7, 3) := by decide +kernel
theorem dX3_reads_67 : decode cX3_reads 67 = .ok (.iconst 1, 1) := by decide +kernel
theorem dX3_reads_68 : decode cX3_reads 68 = .ok (.goto 4, 3) := by decide +kernel
theorem dX3_reads_71 : decode cX3_reads 71 = .ok (.iconst 0, 1) := by decide +kernel
theorem dX3_reads_72 : decode cX3_reads 72 = .ok (.ireturn, 1) := by decide +kernel
set_option maxRecDepth 20000 in
theorem ggX3_firstError_X3_reads : GoodIn wsX3_firstError wsX3_reads := goodIn_r _ [8, 3, 9, 10, 2, 11, 12, 13, 7, 14, 15, 16, 17, 18, 19, 20, 21, 22, 23, 24, 25, 26, 27, 28, 29, 30, 31, 32, 33, 34, 35, 36, 37, 38, 39, 40, 41, 42, 43, 44, 45, 46, 47, 48, 49, 50, 51, 52, 53, 54, 55, 56, 57, 58, 59, 60, 61, 62, 63, 64, 65, 66, 67, 68, 69, 70, 71, 72, 73] rfl (by decide +kernel)
set_option maxRecDepth 20000 in
theorem gX3_firstError_X3_reads : GoodIn wsX3_firstError (wsV RX3 147 RX3 yX3_reads wsX3_reads) := goodIn_app (goodIn_r _ [4, 5, 6, 7] rfl (by decide +kernel)) ggX3_firstError_X3_reads
theorem dX3_firstError_0 : decode cX3_firstError 0 = .ok (.aload_n 0, 1) := by decide +kernel
theorem dX3_firstError_1 : decode cX3_firstError 1 = .ok (.iconst 0, 1) := by decide +kernel
theorem dX3_firstError_2 : decode cX3_firstError 2 = .ok (.putfield 25, 3) := by decide +kernel
theorem dX3_firstError_5 : decode cX3_firstError 5 = .ok (.aload_n 0, 1) := by decide +kernel
theorem dX3_firstError_6 : decode cX3_firstError 6 = .ok (.iconst 0, 1) := by decide +kernel
theorem dX3_firstError_7 : decode cX3_firstError 7 = .ok (.invokevirtual 147, 3) := by decide +kernel
theorem dX3_firstError_10 : decode cX3_firstError 10 = .ok (.istore_n 1, 1) := by decide +kernel
theorem dX3_firstError_11 : decode cX3_firstError 11 = .ok (.iload_n 1, 1) := by decide +kernel
theorem dX3_firstError_12 : decode cX3_firstError 12 = .ok (.ifCond .eq 10, 3) := by decide +kernel
theorem dX3_firstError_15 : decode cX3_firstError 15 = .ok (.aload_n 0, 1) := by decide +kernel
theorem dX3_firstError_16 : decode cX3_firstError 16 = .ok (.getfield 114, 3) := by decide +kernel
theorem dX3_firstError_19 : decode cX3_firstError 19 = .ok (.goto 7, 3) := by decide +kernel
theorem dX3_firstError_22 : decode cX3_firstError 22 = .ok (.aload_n 0, 1) := by decide +kernel
theorem dX3_firstError_23 : decode cX3_firstError 23 = .ok (.getfield 121, 3) := by decide +kernel
theorem dX3_firstError_26 : decode cX3_firstError 26 = .ok (.ireturn, 1) := by decide +kernel
set_option maxRecDepth 20000 in
theorem ggX3_pins_X3_reads : GoodIn wsX3_pins wsX3_reads := goodIn_r _ [7, 8, 9, 2, 1, 10, 11, 12, 6, 13, 14, 15, 16, 17, 18, 19, 20, 21, 22, 23, 24, 25, 26, 27, 28, 29, 30, 31, 32, 33, 34, 35, 36, 37, 38, 39, 40, 41, 42, 43, 44, 45, 46, 47, 48, 49, 50, 51, 52, 53, 54, 55, 56, 57, 58, 59, 71, 72, 73, 74, 75, 76, 77, 78, 79, 80, 81, 82, 83] rfl (by decide +kernel)
set_option maxRecDepth 20000 in
theorem gX3_pins_X3_reads : GoodIn wsX3_pins (wsV RX3 147 RX3 yX3_reads wsX3_reads) := goodIn_app (goodIn_r _ [3, 4, 5, 6] rfl (by decide +kernel)) ggX3_pins_X3_reads
set_option maxRecDepth 20000 in
theorem ggX3_pins_X3_holds : GoodIn wsX3_pins wsX3_holds := goodIn_r _ [63, 64, 71, 72, 73, 74, 75, 76, 77, 78, 79, 80, 81, 82, 83] rfl (by decide +kernel)
set_option maxRecDepth 20000 in
theorem gX3_pins_X3_holds : GoodIn wsX3_pins (wsV RX3 73 RX3 yX3_holds wsX3_holds) := goodIn_app (goodIn_r _ [60, 61, 62, 6] rfl (by decide +kernel)) ggX3_pins_X3_holds
set_option maxRecDepth 20000 in
theorem ggX3_pins_X3_save : GoodIn wsX3_pins wsX3_save := goodIn_r _ [68, 69, 70, 37, 71, 72, 73, 74, 75, 76, 77, 78, 79, 80, 81, 82, 83] rfl (by decide +kernel)
set_option maxRecDepth 20000 in
theorem gX3_pins_X3_save : GoodIn wsX3_pins (wsV RX3 76 RX3 yX3_save wsX3_save) := goodIn_app (goodIn_r _ [65, 66, 67, 6] rfl (by decide +kernel)) ggX3_pins_X3_save
theorem dX3_pins_0 : decode cX3_pins 0 = .ok (.aload_n 0, 1) := by decide +kernel
theorem dX3_pins_1 : decode cX3_pins 1 = .ok (.aload_n 0, 1) := by decide +kernel
theorem dX3_pins_2 : decode cX3_pins 2 = .ok (.iconst 0, 1) := by decide +kernel
theorem dX3_pins_3 : decode cX3_pins 3 = .ok (.invokevirtual 147, 3) := by decide +kernel
theorem dX3_pins_6 : decode cX3_pins 6 = .ok (.ifCond .eq 7, 3) := by decide +kernel
theorem dX3_pins_9 : decode cX3_pins 9 = .ok (.iconst 0, 1) := by decide +kernel
theorem dX3_pins_10 : decode cX3_pins 10 = .ok (.goto 4, 3) := by decide +kernel
theorem dX3_pins_13 : decode cX3_pins 13 = .ok (.iconst 1, 1) := by decide +kernel
theorem dX3_pins_14 : decode cX3_pins 14 = .ok (.invokevirtual 73, 3) := by decide +kernel
theorem dX3_pins_17 : decode cX3_pins 17 = .ok (.ifCond .ne 5, 3) := by decide +kernel
theorem dX3_pins_20 : decode cX3_pins 20 = .ok (.iconst 0, 1) := by decide +kernel
theorem dX3_pins_21 : decode cX3_pins 21 = .ok (.ireturn, 1) := by decide +kernel
theorem dX3_pins_22 : decode cX3_pins 22 = .ok (.aload_n 0, 1) := by decide +kernel
theorem dX3_pins_23 : decode cX3_pins 23 = .ok (.invokevirtual 76, 3) := by decide +kernel
theorem dX3_pins_26 : decode cX3_pins 26 = .ok (.aload_n 0, 1) := by decide +kernel
theorem dX3_pins_27 : decode cX3_pins 27 = .ok (.iconst 1, 1) := by decide +kernel
theorem dX3_pins_28 : decode cX3_pins 28 = .ok (.invokevirtual 147, 3) := by decide +kernel
theorem dX3_pins_31 : decode cX3_pins 31 = .ok (.istore_n 1, 1) := by decide +kernel
theorem dX3_pins_32 : decode cX3_pins 32 = .ok (.aload_n 0, 1) := by decide +kernel
theorem dX3_pins_33 : decode cX3_pins 33 = .ok (.iconst 0, 1) := by decide +kernel
theorem dX3_pins_34 : decode cX3_pins 34 = .ok (.putfield 114, 3) := by decide +kernel
theorem dX3_pins_37 : decode cX3_pins 37 = .ok (.aload_n 0, 1) := by decide +kernel
theorem dX3_pins_38 : decode cX3_pins 38 = .ok (.getfield 133, 3) := by decide +kernel
theorem dX3_pins_41 : decode cX3_pins 41 = .ok (.ireturn, 1) := by decide +kernel
set_option maxRecDepth 20000 in
theorem ggX3_undo_X3_holds : GoodIn wsX3_undo wsX3_holds := goodIn_r _ [8, 9, 10, 11, 12, 13, 14, 15, 16, 17, 18, 19, 20, 21, 22] rfl (by decide +kernel)
set_option maxRecDepth 20000 in
theorem gX3_undo_X3_holds : GoodIn wsX3_undo (wsV RX3 73 RX3 yX3_holds wsX3_holds) := goodIn_app (goodIn_r _ [4, 5, 6, 7] rfl (by decide +kernel)) ggX3_undo_X3_holds
theorem dX3_undo_0 : decode cX3_undo 0 = .ok (.aload_n 0, 1) := by decide +kernel
theorem dX3_undo_1 : decode cX3_undo 1 = .ok (.aload_n 0, 1) := by decide +kernel
theorem dX3_undo_2 : decode cX3_undo 2 = .ok (.getfield 43, 3) := by decide +kernel
theorem dX3_undo_5 : decode cX3_undo 5 = .ok (.ifCond .le 7, 3) := by decide +kernel
theorem dX3_undo_8 : decode cX3_undo 8 = .ok (.iconst 0, 1) := by decide +kernel
theorem dX3_undo_9 : decode cX3_undo 9 = .ok (.goto 4, 3) := by decide +kernel
theorem dX3_undo_12 : decode cX3_undo 12 = .ok (.iconst 1, 1) := by decide +kernel
theorem dX3_undo_13 : decode cX3_undo 13 = .ok (.invokevirtual 73, 3) := by decide +kernel
theorem dX3_undo_16 : decode cX3_undo 16 = .ok (.ifCond .ne 5, 3) := by decide +kernel
theorem dX3_undo_19 : decode cX3_undo 19 = .ok (.iconst 0, 1) := by decide +kernel
theorem dX3_undo_20 : decode cX3_undo 20 = .ok (.ireturn, 1) := by decide +kernel
theorem dX3_undo_21 : decode cX3_undo 21 = .ok (.aload_n 0, 1) := by decide +kernel
theorem dX3_undo_22 : decode cX3_undo 22 = .ok (.dup, 1) := by decide +kernel
theorem dX3_undo_23 : decode cX3_undo 23 = .ok (.getfield 43, 3) := by decide +kernel
theorem dX3_undo_26 : decode cX3_undo 26 = .ok (.iconst 1, 1) := by decide +kernel
theorem dX3_undo_27 : decode cX3_undo 27 = .ok (.isub, 1) := by decide +kernel
theorem dX3_undo_28 : decode cX3_undo 28 = .ok (.putfield 43, 3) := by decide +kernel
theorem dX3_undo_31 : decode cX3_undo 31 = .ok (.iconst 0, 1) := by decide +kernel
theorem dX3_undo_32 : decode cX3_undo 32 = .ok (.istore_n 1, 1) := by decide +kernel
theorem dX3_undo_33 : decode cX3_undo 33 = .ok (.iload_n 1, 1) := by decide +kernel
theorem dX3_undo_34 : decode cX3_undo 34 = .ok (.sipush 147, 3) := by decide +kernel
theorem dX3_undo_37 : decode cX3_undo 37 = .ok (.if_icmp .ge 30, 3) := by decide +kernel
theorem dX3_undo_40 : decode cX3_undo 40 = .ok (.aload_n 0, 1) := by decide +kernel
theorem dX3_undo_41 : decode cX3_undo 41 = .ok (.getfield 7, 3) := by decide +kernel
theorem dX3_undo_44 : decode cX3_undo 44 = .ok (.iload_n 1, 1) := by decide +kernel
theorem dX3_undo_45 : decode cX3_undo 45 = .ok (.aload_n 0, 1) := by decide +kernel
theorem dX3_undo_46 : decode cX3_undo 46 = .ok (.getfield 16, 3) := by decide +kernel
theorem dX3_undo_49 : decode cX3_undo 49 = .ok (.sipush 147, 3) := by decide +kernel
theorem dX3_undo_52 : decode cX3_undo 52 = .ok (.aload_n 0, 1) := by decide +kernel
theorem dX3_undo_53 : decode cX3_undo 53 = .ok (.getfield 43, 3) := by decide +kernel
theorem dX3_undo_56 : decode cX3_undo 56 = .ok (.imul, 1) := by decide +kernel
theorem dX3_undo_57 : decode cX3_undo 57 = .ok (.iload_n 1, 1) := by decide +kernel
theorem dX3_undo_58 : decode cX3_undo 58 = .ok (.iadd, 1) := by decide +kernel
theorem dX3_undo_59 : decode cX3_undo 59 = .ok (.iaload, 1) := by decide +kernel
theorem dX3_undo_60 : decode cX3_undo 60 = .ok (.iastore, 1) := by decide +kernel
theorem dX3_undo_61 : decode cX3_undo 61 = .ok (.iinc 1 1, 3) := by decide +kernel
theorem dX3_undo_64 : decode cX3_undo 64 = .ok (.goto (-31), 3) := by decide +kernel
theorem dX3_undo_67 : decode cX3_undo 67 = .ok (.aload_n 0, 1) := by decide +kernel
theorem dX3_undo_68 : decode cX3_undo 68 = .ok (.getfield 43, 3) := by decide +kernel
theorem dX3_undo_71 : decode cX3_undo 71 = .ok (.ireturn, 1) := by decide +kernel
set_option maxRecDepth 20000 in
theorem ggX3_keep_X3_allPins : GoodIn wsX3_keep wsX3_allPins := goodIn_r _ [9, 10, 11, 12, 8, 13, 3, 14, 15, 16, 17, 18, 19, 20, 21, 22, 23, 24, 25, 26, 27, 28, 29, 30, 31, 32] rfl (by decide +kernel)
set_option maxRecDepth 20000 in
theorem gX3_keep_X3_allPins : GoodIn wsX3_keep (wsV RX3 154 RX3 yX3_allPins wsX3_allPins) := goodIn_app (goodIn_r _ [5, 6, 7, 8] rfl (by decide +kernel)) ggX3_keep_X3_allPins
theorem dX3_keep_0 : decode cX3_keep 0 = .ok (.aload_n 0, 1) := by decide +kernel
theorem dX3_keep_1 : decode cX3_keep 1 = .ok (.iconst 0, 1) := by decide +kernel
theorem dX3_keep_2 : decode cX3_keep 2 = .ok (.putfield 25, 3) := by decide +kernel
theorem dX3_keep_5 : decode cX3_keep 5 = .ok (.iconst 0, 1) := by decide +kernel
theorem dX3_keep_6 : decode cX3_keep 6 = .ok (.istore_n 1, 1) := by decide +kernel
theorem dX3_keep_7 : decode cX3_keep 7 = .ok (.iload_n 1, 1) := by decide +kernel
theorem dX3_keep_8 : decode cX3_keep 8 = .ok (.sipush 147, 3) := by decide +kernel
theorem dX3_keep_11 : decode cX3_keep 11 = .ok (.if_icmp .ge 21, 3) := by decide +kernel
theorem dX3_keep_14 : decode cX3_keep 14 = .ok (.aload_n 0, 1) := by decide +kernel
theorem dX3_keep_15 : decode cX3_keep 15 = .ok (.getfield 19, 3) := by decide +kernel
theorem dX3_keep_18 : decode cX3_keep 18 = .ok (.iload_n 1, 1) := by decide +kernel
theorem dX3_keep_19 : decode cX3_keep 19 = .ok (.aload_n 0, 1) := by decide +kernel
theorem dX3_keep_20 : decode cX3_keep 20 = .ok (.getfield 7, 3) := by decide +kernel
theorem dX3_keep_23 : decode cX3_keep 23 = .ok (.iload_n 1, 1) := by decide +kernel
theorem dX3_keep_24 : decode cX3_keep 24 = .ok (.iaload, 1) := by decide +kernel
theorem dX3_keep_25 : decode cX3_keep 25 = .ok (.iastore, 1) := by decide +kernel
theorem dX3_keep_26 : decode cX3_keep 26 = .ok (.iinc 1 1, 3) := by decide +kernel
theorem dX3_keep_29 : decode cX3_keep 29 = .ok (.goto (-22), 3) := by decide +kernel
theorem dX3_keep_32 : decode cX3_keep 32 = .ok (.aload_n 0, 1) := by decide +kernel
theorem dX3_keep_33 : decode cX3_keep 33 = .ok (.iconst 1, 1) := by decide +kernel
theorem dX3_keep_34 : decode cX3_keep 34 = .ok (.putfield 151, 3) := by decide +kernel
theorem dX3_keep_37 : decode cX3_keep 37 = .ok (.aload_n 0, 1) := by decide +kernel
theorem dX3_keep_38 : decode cX3_keep 38 = .ok (.invokevirtual 154, 3) := by decide +kernel
theorem dX3_keep_41 : decode cX3_keep 41 = .ok (.ireturn, 1) := by decide +kernel
set_option maxRecDepth 20000 in
theorem ggX3_restore_X3_holds : GoodIn wsX3_restore wsX3_holds := goodIn_r _ [8, 9, 30, 31, 32, 33, 34, 35, 36, 37, 38, 39, 40, 41, 42] rfl (by decide +kernel)
set_option maxRecDepth 20000 in
theorem gX3_restore_X3_holds : GoodIn wsX3_restore (wsV RX3 73 RX3 yX3_holds wsX3_holds) := goodIn_app (goodIn_r _ [4, 5, 6, 7] rfl (by decide +kernel)) ggX3_restore_X3_holds
set_option maxRecDepth 20000 in
theorem ggX3_restore_X3_save : GoodIn wsX3_restore wsX3_save := goodIn_r _ [13, 14, 15, 2, 30, 31, 32, 33, 34, 35, 36, 37, 38, 39, 40, 41, 42] rfl (by decide +kernel)
set_option maxRecDepth 20000 in
theorem gX3_restore_X3_save : GoodIn wsX3_restore (wsV RX3 76 RX3 yX3_save wsX3_save) := goodIn_app (goodIn_r _ [10, 11, 12, 7] rfl (by decide +kernel)) ggX3_restore_X3_save
set_option maxRecDepth 20000 in
theorem ggX3_restore_X3_allPins : GoodIn wsX3_restore wsX3_allPins := goodIn_r _ [19, 20, 21, 22, 7, 23, 2, 24, 25, 26, 27, 28, 29, 30, 31, 32, 33, 34, 35, 36, 37, 38, 39, 40, 41, 42] rfl (by decide +kernel)
set_option maxRecDepth 20000 in
theorem gX3_restore_X3_allPins : GoodIn wsX3_restore (wsV RX3 154 RX3 yX3_allPins wsX3_allPins) := goodIn_app (goodIn_r _ [16, 17, 18, 7] rfl (by decide +kernel)) ggX3_restore_X3_allPins
theorem dX3_restore_0 : decode cX3_restore 0 = .ok (.aload_n 0, 1) := by decide +kernel
theorem dX3_restore_1 : decode cX3_restore 1 = .ok (.aload_n 0, 1) := by decide +kernel
theorem dX3_restore_2 : decode cX3_restore 2 = .ok (.getfield 151, 3) := by decide +kernel
theorem dX3_restore_5 : decode cX3_restore 5 = .ok (.ifCond .eq 7, 3) := by decide +kernel
theorem dX3_restore_8 : decode cX3_restore 8 = .ok (.iconst 0, 1) := by decide +kernel
theorem dX3_restore_9 : decode cX3_restore 9 = .ok (.goto 4, 3) := by decide +kernel
theorem dX3_restore_12 : decode cX3_restore 12 = .ok (.iconst 1, 1) := by decide +kernel
theorem dX3_restore_13 : decode cX3_restore 13 = .ok (.invokevirtual 73, 3) := by decide +kernel
theorem dX3_restore_16 : decode cX3_restore 16 = .ok (.ifCond .ne 5, 3) := by decide +kernel
theorem dX3_restore_19 : decode cX3_restore 19 = .ok (.iconst 0, 1) := by decide +kernel
theorem dX3_restore_20 : decode cX3_restore 20 = .ok (.ireturn, 1) := by decide +kernel
theorem dX3_restore_21 : decode cX3_restore 21 = .ok (.aload_n 0, 1) := by decide +kernel
theorem dX3_restore_22 : decode cX3_restore 22 = .ok (.invokevirtual 76, 3) := by decide +kernel
theorem dX3_restore_25 : decode cX3_restore 25 = .ok (.iconst 0, 1) := by decide +kernel
theorem dX3_restore_26 : decode cX3_restore 26 = .ok (.istore_n 1, 1) := by decide +kernel
theorem dX3_restore_27 : decode cX3_restore 27 = .ok (.iload_n 1, 1) := by decide +kernel
theorem dX3_restore_28 : decode cX3_restore 28 = .ok (.sipush 147, 3) := by decide +kernel
theorem dX3_restore_31 : decode cX3_restore 31 = .ok (.if_icmp .ge 21, 3) := by decide +kernel
theorem dX3_restore_34 : decode cX3_restore 34 = .ok (.aload_n 0, 1) := by decide +kernel
theorem dX3_restore_35 : decode cX3_restore 35 = .ok (.getfield 7, 3) := by decide +kernel
theorem dX3_restore_38 : decode cX3_restore 38 = .ok (.iload_n 1, 1) := by decide +kernel
theorem dX3_restore_39 : decode cX3_restore 39 = .ok (.aload_n 0, 1) := by decide +kernel
theorem dX3_restore_40 : decode cX3_restore 40 = .ok (.getfield 19, 3) := by decide +kernel
theorem dX3_restore_43 : decode cX3_restore 43 = .ok (.iload_n 1, 1) := by decide +kernel
theorem dX3_restore_44 : decode cX3_restore 44 = .ok (.iaload, 1) := by decide +kernel
theorem dX3_restore_45 : decode cX3_restore 45 = .ok (.iastore, 1) := by decide +kernel
theorem dX3_restore_46 : decode cX3_restore 46 = .ok (.iinc 1 1, 3) := by decide +kernel
theorem dX3_restore_49 : decode cX3_restore 49 = .ok (.goto (-22), 3) := by decide +kernel
theorem dX3_restore_52 : decode cX3_restore 52 = .ok (.aload_n 0, 1) := by decide +kernel
theorem dX3_restore_53 : decode cX3_restore 53 = .ok (.invokevirtual 154, 3) := by decide +kernel
theorem dX3_restore_56 : decode cX3_restore 56 = .ok (.ireturn, 1) := by decide +kernel
set_option maxRecDepth 20000 in
theorem ggX3_whyNot_X3_areThere : GoodIn wsX3_whyNot wsX3_areThere := goodIn_r _ [4, 5, 6, 3, 7, 8, 9, 10, 11, 12, 13, 14, 15, 16] rfl (by decide +kernel)
set_option maxRecDepth 20000 in
theorem gX3_whyNot_X3_areThere : GoodIn wsX3_whyNot (va_wsS RX3 66 yX3_areThere wsX3_areThere) := goodIn_app (goodIn_r _ [1, 2, 3] rfl (by decide +kernel)) ggX3_whyNot_X3_areThere
set_option maxRecDepth 20000 in
theorem ggX3_whyNot_X3_holds : GoodIn wsX3_whyNot wsX3_holds := goodIn_r _ [20, 21, 45, 46, 47, 48, 49, 50, 51, 52, 53, 54, 55, 56, 57] rfl (by decide +kernel)
set_option maxRecDepth 20000 in
theorem gX3_whyNot_X3_holds : GoodIn wsX3_whyNot (wsV RX3 73 RX3 yX3_holds wsX3_holds) := goodIn_app (goodIn_r _ [17, 18, 19, 3] rfl (by decide +kernel)) ggX3_whyNot_X3_holds
set_option maxRecDepth 20000 in
theorem ggX3_whyNot_X3_hindrance : GoodIn wsX3_whyNot wsX3_hindrance := goodIn_r _ [25, 26, 27, 28, 29, 3, 30, 31, 32, 33, 34, 35, 36, 37, 38, 39, 40, 41, 42, 43, 44, 45, 46, 47, 48, 49, 50, 51, 52, 53, 54, 55, 56, 57] rfl (by decide +kernel)
set_option maxRecDepth 20000 in
theorem gX3_whyNot_X3_hindrance : GoodIn wsX3_whyNot (wsV RX3 69 RX3 yX3_hindrance wsX3_hindrance) := goodIn_app (goodIn_r _ [22, 23, 24, 3] rfl (by decide +kernel)) ggX3_whyNot_X3_hindrance
theorem dX3_whyNot_0 : decode cX3_whyNot 0 = .ok (.aload_n 0, 1) := by decide +kernel
theorem dX3_whyNot_1 : decode cX3_whyNot 1 = .ok (.iload_n 1, 1) := by decide +kernel
theorem dX3_whyNot_2 : decode cX3_whyNot 2 = .ok (.iload_n 2, 1) := by decide +kernel
theorem dX3_whyNot_3 : decode cX3_whyNot 3 = .ok (.iload_n 3, 1) := by decide +kernel
theorem dX3_whyNot_4 : decode cX3_whyNot 4 = .ok (.invokestatic 66, 3) := by decide +kernel
theorem dX3_whyNot_7 : decode cX3_whyNot 7 = .ok (.ifCond .eq 7, 3) := by decide +kernel
theorem dX3_whyNot_10 : decode cX3_whyNot 10 = .ok (.iconst 0, 1) := by decide +kernel
theorem dX3_whyNot_11 : decode cX3_whyNot 11 = .ok (.goto 4, 3) := by decide +kernel
theorem dX3_whyNot_14 : decode cX3_whyNot 14 = .ok (.iconst 1, 1) := by decide +kernel
theorem dX3_whyNot_15 : decode cX3_whyNot 15 = .ok (.invokevirtual 73, 3) := by decide +kernel
theorem dX3_whyNot_18 : decode cX3_whyNot 18 = .ok (.ifCond .eq 13, 3) := by decide +kernel
theorem dX3_whyNot_21 : decode cX3_whyNot 21 = .ok (.aload_n 0, 1) := by decide +kernel
theorem dX3_whyNot_22 : decode cX3_whyNot 22 = .ok (.iload_n 1, 1) := by decide +kernel
theorem dX3_whyNot_23 : decode cX3_whyNot 23 = .ok (.iload_n 2, 1) := by decide +kernel
theorem dX3_whyNot_24 : decode cX3_whyNot 24 = .ok (.iload_n 3, 1) := by decide +kernel
theorem dX3_whyNot_25 : decode cX3_whyNot 25 = .ok (.invokevirtual 69, 3) := by decide +kernel
theorem dX3_whyNot_28 : decode cX3_whyNot 28 = .ok (.goto 4, 3) := by decide +kernel
theorem dX3_whyNot_31 : decode cX3_whyNot 31 = .ok (.iconst 0, 1) := by decide +kernel
theorem dX3_whyNot_32 : decode cX3_whyNot 32 = .ok (.ireturn, 1) := by decide +kernel
set_option maxRecDepth 20000 in
theorem ggX3_next_X3_areThere : GoodIn wsX3_next wsX3_areThere := goodIn_r _ [4, 5, 6, 3, 7, 8, 9, 10, 11, 12, 13, 14, 15, 16] rfl (by decide +kernel)
set_option maxRecDepth 20000 in
theorem gX3_next_X3_areThere : GoodIn wsX3_next (va_wsS RX3 66 yX3_areThere wsX3_areThere) := goodIn_app (goodIn_r _ [1, 2, 3] rfl (by decide +kernel)) ggX3_next_X3_areThere
set_option maxRecDepth 20000 in
theorem ggX3_next_X3_holds : GoodIn wsX3_next wsX3_holds := goodIn_r _ [20, 21, 30, 31, 32, 33, 34, 35, 36, 37, 38, 39, 40, 41, 42] rfl (by decide +kernel)
set_option maxRecDepth 20000 in
theorem gX3_next_X3_holds : GoodIn wsX3_next (wsV RX3 73 RX3 yX3_holds wsX3_holds) := goodIn_app (goodIn_r _ [17, 18, 19, 3] rfl (by decide +kernel)) ggX3_next_X3_holds
set_option maxRecDepth 20000 in
theorem ggX3_next_X3_isPin : GoodIn wsX3_next wsX3_isPin := goodIn_r _ [25, 26, 27, 28, 3, 29, 30, 31, 32, 33, 34, 35, 36, 37, 38, 39, 40, 41, 42] rfl (by decide +kernel)
set_option maxRecDepth 20000 in
theorem gX3_next_X3_isPin : GoodIn wsX3_next (wsV RX3 50 RX3 yX3_isPin wsX3_isPin) := goodIn_app (goodIn_r _ [22, 23, 24, 3] rfl (by decide +kernel)) ggX3_next_X3_isPin
theorem dX3_next_0 : decode cX3_next 0 = .ok (.aload_n 0, 1) := by decide +kernel
theorem dX3_next_1 : decode cX3_next 1 = .ok (.iload_n 1, 1) := by decide +kernel
theorem dX3_next_2 : decode cX3_next 2 = .ok (.iload_n 2, 1) := by decide +kernel
theorem dX3_next_3 : decode cX3_next 3 = .ok (.iload_n 3, 1) := by decide +kernel
theorem dX3_next_4 : decode cX3_next 4 = .ok (.invokestatic 66, 3) := by decide +kernel
theorem dX3_next_7 : decode cX3_next 7 = .ok (.ifCond .eq 7, 3) := by decide +kernel
theorem dX3_next_10 : decode cX3_next 10 = .ok (.iconst 0, 1) := by decide +kernel
theorem dX3_next_11 : decode cX3_next 11 = .ok (.goto 4, 3) := by decide +kernel
theorem dX3_next_14 : decode cX3_next 14 = .ok (.iconst 1, 1) := by decide +kernel
theorem dX3_next_15 : decode cX3_next 15 = .ok (.invokevirtual 73, 3) := by decide +kernel
theorem dX3_next_18 : decode cX3_next 18 = .ok (.ifCond .ne 5, 3) := by decide +kernel
theorem dX3_next_21 : decode cX3_next 21 = .ok (.iconst 0, 1) := by decide +kernel
theorem dX3_next_22 : decode cX3_next 22 = .ok (.ireturn, 1) := by decide +kernel
theorem dX3_next_23 : decode cX3_next 23 = .ok (.iconst (-1), 1) := by decide +kernel
theorem dX3_next_24 : decode cX3_next 24 = .ok (.istore 4, 2) := by decide +kernel
theorem dX3_next_26 : decode cX3_next 26 = .ok (.bipush 31, 2) := by decide +kernel
theorem dX3_next_28 : decode cX3_next 28 = .ok (.istore 5, 2) := by decide +kernel
theorem dX3_next_30 : decode cX3_next 30 = .ok (.iload 5, 2) := by decide +kernel
theorem dX3_next_32 : decode cX3_next 32 = .ok (.ifCond .lt 39, 3) := by decide +kernel
theorem dX3_next_35 : decode cX3_next 35 = .ok (.aload_n 0, 1) := by decide +kernel
theorem dX3_next_36 : decode cX3_next 36 = .ok (.iload_n 1, 1) := by decide +kernel
theorem dX3_next_37 : decode cX3_next 37 = .ok (.iload_n 2, 1) := by decide +kernel
theorem dX3_next_38 : decode cX3_next 38 = .ok (.iload_n 3, 1) := by decide +kernel
theorem dX3_next_39 : decode cX3_next 39 = .ok (.iload 5, 2) := by decide +kernel
theorem dX3_next_41 : decode cX3_next 41 = .ok (.iadd, 1) := by decide +kernel
theorem dX3_next_42 : decode cX3_next 42 = .ok (.bipush 32, 2) := by decide +kernel
theorem dX3_next_44 : decode cX3_next 44 = .ok (.irem, 1) := by decide +kernel
theorem dX3_next_45 : decode cX3_next 45 = .ok (.invokevirtual 50, 3) := by decide +kernel
theorem dX3_next_48 : decode cX3_next 48 = .ok (.ifCond .eq 13, 3) := by decide +kernel
theorem dX3_next_51 : decode cX3_next 51 = .ok (.iload_n 3, 1) := by decide +kernel
theorem dX3_next_52 : decode cX3_next 52 = .ok (.iload 5, 2) := by decide +kernel
theorem dX3_next_54 : decode cX3_next 54 = .ok (.iadd, 1) := by decide +kernel
theorem dX3_next_55 : decode cX3_next 55 = .ok (.bipush 32, 2) := by decide +kernel
theorem dX3_next_57 : decode cX3_next 57 = .ok (.irem, 1) := by decide +kernel
theorem dX3_next_58 : decode cX3_next 58 = .ok (.goto 5, 3) := by decide +kernel
theorem dX3_next_61 : decode cX3_next 61 = .ok (.iload 4, 2) := by decide +kernel
theorem dX3_next_63 : decode cX3_next 63 = .ok (.istore 4, 2) := by decide +kernel
theorem dX3_next_65 : decode cX3_next 65 = .ok (.iinc 5 (-1), 3) := by decide +kernel
theorem dX3_next_68 : decode cX3_next 68 = .ok (.goto (-38), 3) := by decide +kernel
theorem dX3_next_71 : decode cX3_next 71 = .ok (.iload 4, 2) := by decide +kernel
theorem dX3_next_73 : decode cX3_next 73 = .ok (.ireturn, 1) := by decide +kernel
set_option maxRecDepth 20000 in
theorem ggX3_fullest_X3_pinsAt : GoodIn wsX3_fullest wsX3_pinsAt := goodIn_r _ [5, 6, 7, 8, 4, 9, 10, 11, 12, 13, 17, 18, 19, 20, 21, 22, 23, 24, 25, 26, 27, 28, 29] rfl (by decide +kernel)
set_option maxRecDepth 20000 in
theorem gX3_fullest_X3_pinsAt : GoodIn wsX3_fullest (wsV RX3 56 RX3 yX3_pinsAt wsX3_pinsAt) := goodIn_app (goodIn_r _ [1, 2, 3, 4] rfl (by decide +kernel)) ggX3_fullest_X3_pinsAt
set_option maxRecDepth 20000 in
theorem ggX3_fullest_X3_ones : GoodIn wsX3_fullest wsX3_ones := goodIn_r _ [16] rfl (by decide +kernel)
set_option maxRecDepth 20000 in
theorem gX3_fullest_X3_ones : GoodIn wsX3_fullest (va_wsS RX3 59 yX3_ones wsX3_ones) := goodIn_app (goodIn_r _ [14, 15, 4] rfl (by decide +kernel)) ggX3_fullest_X3_ones
theorem dX3_fullest_0 : decode cX3_fullest 0 = .ok (.iconst 0, 1) := by decide +kernel
theorem dX3_fullest_1 : decode cX3_fullest 1 = .ok (.istore_n 2, 1) := by decide +kernel
theorem dX3_fullest_2 : decode cX3_fullest 2 = .ok (.iconst 1, 1) := by decide +kernel
theorem dX3_fullest_3 : decode cX3_fullest 3 = .ok (.istore_n 3, 1) := by decide +kernel
theorem dX3_fullest_4 : decode cX3_fullest 4 = .ok (.iload_n 3, 1) := by decide +kernel
theorem dX3_fullest_5 : decode cX3_fullest 5 = .ok (.bipush 32, 2) := by decide +kernel
theorem dX3_fullest_7 : decode cX3_fullest 7 = .ok (.if_icmp .ge 36, 3) := by decide +kernel
theorem dX3_fullest_10 : decode cX3_fullest 10 = .ok (.aload_n 0, 1) := by decide +kernel
theorem dX3_fullest_11 : decode cX3_fullest 11 = .ok (.iload_n 1, 1) := by decide +kernel
theorem dX3_fullest_12 : decode cX3_fullest 12 = .ok (.iload_n 3, 1) := by decide +kernel
theorem dX3_fullest_13 : decode cX3_fullest 13 = .ok (.invokevirtual 56, 3) := by decide +kernel
theorem dX3_fullest_16 : decode cX3_fullest 16 = .ok (.invokestatic 59, 3) := by decide +kernel
theorem dX3_fullest_19 : decode cX3_fullest 19 = .ok (.aload_n 0, 1) := by decide +kernel
theorem dX3_fullest_20 : decode cX3_fullest 20 = .ok (.iload_n 1, 1) := by decide +kernel
theorem dX3_fullest_21 : decode cX3_fullest 21 = .ok (.iload_n 2, 1) := by decide +kernel
theorem dX3_fullest_22 : decode cX3_fullest 22 = .ok (.invokevirtual 56, 3) := by decide +kernel
theorem dX3_fullest_25 : decode cX3_fullest 25 = .ok (.invokestatic 59, 3) := by decide +kernel
theorem dX3_fullest_28 : decode cX3_fullest 28 = .ok (.if_icmp .le 7, 3) := by decide +kernel
theorem dX3_fullest_31 : decode cX3_fullest 31 = .ok (.iload_n 3, 1) := by decide +kernel
theorem dX3_fullest_32 : decode cX3_fullest 32 = .ok (.goto 4, 3) := by decide +kernel
theorem dX3_fullest_35 : decode cX3_fullest 35 = .ok (.iload_n 2, 1) := by decide +kernel
theorem dX3_fullest_36 : decode cX3_fullest 36 = .ok (.istore_n 2, 1) := by decide +kernel
theorem dX3_fullest_37 : decode cX3_fullest 37 = .ok (.iinc 3 1, 3) := by decide +kernel
theorem dX3_fullest_40 : decode cX3_fullest 40 = .ok (.goto (-36), 3) := by decide +kernel
theorem dX3_fullest_43 : decode cX3_fullest 43 = .ok (.iload_n 2, 1) := by decide +kernel
theorem dX3_fullest_44 : decode cX3_fullest 44 = .ok (.ireturn, 1) := by decide +kernel
set_option maxRecDepth 20000 in
theorem ggX3_teethOf_X3_ofPins : GoodIn wsX3_teethOf wsX3_ofPins := goodIn_r _ [5] rfl (by decide +kernel)
set_option maxRecDepth 20000 in
theorem gX3_teethOf_X3_ofPins : GoodIn wsX3_teethOf (va_wsS RX3 46 yX3_ofPins wsX3_ofPins) := goodIn_app (goodIn_r _ [2, 3, 4] rfl (by decide +kernel)) ggX3_teethOf_X3_ofPins
theorem dX3_teethOf_0 : decode cX3_teethOf 0 = .ok (.iconst 0, 1) := by decide +kernel
theorem dX3_teethOf_1 : decode cX3_teethOf 1 = .ok (.istore_n 2, 1) := by decide +kernel
theorem dX3_teethOf_2 : decode cX3_teethOf 2 = .ok (.iconst 0, 1) := by decide +kernel
theorem dX3_teethOf_3 : decode cX3_teethOf 3 = .ok (.istore_n 3, 1) := by decide +kernel
theorem dX3_teethOf_4 : decode cX3_teethOf 4 = .ok (.iload_n 3, 1) := by decide +kernel
theorem dX3_teethOf_5 : decode cX3_teethOf 5 = .ok (.bipush 12, 2) := by decide +kernel
theorem dX3_teethOf_7 : decode cX3_teethOf 7 = .ok (.if_icmp .ge 32, 3) := by decide +kernel
theorem dX3_teethOf_10 : decode cX3_teethOf 10 = .ok (.iload_n 2, 1) := by decide +kernel
theorem dX3_teethOf_11 : decode cX3_teethOf 11 = .ok (.aload_n 0, 1) := by decide +kernel
theorem dX3_teethOf_12 : decode cX3_teethOf 12 = .ok (.getfield 7, 3) := by decide +kernel
theorem dX3_teethOf_15 : decode cX3_teethOf 15 = .ok (.iload_n 1, 1) := by decide +kernel
theorem dX3_teethOf_16 : decode cX3_teethOf 16 = .ok (.iload_n 3, 1) := by decide +kernel
theorem dX3_teethOf_17 : decode cX3_teethOf 17 = .ok (.invokestatic 46, 3) := by decide +kernel
theorem dX3_teethOf_20 : decode cX3_teethOf 20 = .ok (.iaload, 1) := by decide +kernel
theorem dX3_teethOf_21 : decode cX3_teethOf 21 = .ok (.ifCond .eq 9, 3) := by decide +kernel
theorem dX3_teethOf_24 : decode cX3_teethOf 24 = .ok (.iconst 1, 1) := by decide +kernel
theorem dX3_teethOf_25 : decode cX3_teethOf 25 = .ok (.iload_n 3, 1) := by decide +kernel
theorem dX3_teethOf_26 : decode cX3_teethOf 26 = .ok (.ishl, 1) := by decide +kernel
theorem dX3_teethOf_27 : decode cX3_teethOf 27 = .ok (.goto 4, 3) := by decide +kernel
theorem dX3_teethOf_30 : decode cX3_teethOf 30 = .ok (.iconst 0, 1) := by decide +kernel
theorem dX3_teethOf_31 : decode cX3_teethOf 31 = .ok (.ior, 1) := by decide +kernel
theorem dX3_teethOf_32 : decode cX3_teethOf 32 = .ok (.istore_n 2, 1) := by decide +kernel
theorem dX3_teethOf_33 : decode cX3_teethOf 33 = .ok (.iinc 3 1, 3) := by decide +kernel
theorem dX3_teethOf_36 : decode cX3_teethOf 36 = .ok (.goto (-32), 3) := by decide +kernel
theorem dX3_teethOf_39 : decode cX3_teethOf 39 = .ok (.iload_n 2, 1) := by decide +kernel
theorem dX3_teethOf_40 : decode cX3_teethOf 40 = .ok (.ireturn, 1) := by decide +kernel
set_option maxRecDepth 20000 in
theorem ggX3_ofTune_X3_pinsOf : GoodIn wsX3_ofTune wsX3_pinsOf := goodIn_r _ [5, 6, 7, 8, 4, 9, 10, 11, 12, 29, 30, 31, 32, 33, 34, 35, 36, 37, 38, 39, 40, 41] rfl (by decide +kernel)
set_option maxRecDepth 20000 in
theorem gX3_ofTune_X3_pinsOf : GoodIn wsX3_ofTune (wsV RX3 63 RX3 yX3_pinsOf wsX3_pinsOf) := goodIn_app (goodIn_r _ [1, 2, 3, 4] rfl (by decide +kernel)) ggX3_ofTune_X3_pinsOf
set_option maxRecDepth 20000 in
theorem ggX3_ofTune_X3_fullest : GoodIn wsX3_ofTune wsX3_fullest := goodIn_r _ [16, 17, 18, 19, 4, 20, 21, 22, 23, 24, 6, 7, 8, 9, 10, 11, 12, 29, 30, 31, 32, 33, 34, 35, 36, 37, 38, 39, 40, 41] rfl (by decide +kernel)
set_option maxRecDepth 20000 in
theorem gX3_ofTune_X3_fullest : GoodIn wsX3_ofTune (wsV RX3 157 RX3 yX3_fullest wsX3_fullest) := goodIn_app (goodIn_r _ [13, 14, 15, 4] rfl (by decide +kernel)) ggX3_ofTune_X3_fullest
set_option maxRecDepth 20000 in
theorem ggX3_ofTune_X3_pinsAt : GoodIn wsX3_ofTune wsX3_pinsAt := goodIn_r _ [20, 21, 22, 23, 4, 24, 6, 7, 8, 9, 29, 30, 31, 32, 33, 34, 35, 36, 37, 38, 39, 40, 41] rfl (by decide +kernel)
set_option maxRecDepth 20000 in
theorem gX3_ofTune_X3_pinsAt : GoodIn wsX3_ofTune (wsV RX3 56 RX3 yX3_pinsAt wsX3_pinsAt) := goodIn_app (goodIn_r _ [17, 18, 19, 4] rfl (by decide +kernel)) ggX3_ofTune_X3_pinsAt
set_option maxRecDepth 20000 in
theorem ggX3_ofTune_X3_ones : GoodIn wsX3_ofTune wsX3_ones := goodIn_r _ [12] rfl (by decide +kernel)
set_option maxRecDepth 20000 in
theorem gX3_ofTune_X3_ones : GoodIn wsX3_ofTune (va_wsS RX3 59 yX3_ones wsX3_ones) := goodIn_app (goodIn_r _ [10, 11, 4] rfl (by decide +kernel)) ggX3_ofTune_X3_ones
set_option maxRecDepth 20000 in
theorem ggX3_ofTune_X3_teethOf : GoodIn wsX3_ofTune wsX3_teethOf := goodIn_r _ [28, 6, 7, 8, 4, 9, 29, 30, 31, 32, 33, 34, 35, 36, 37, 38, 39, 40, 41] rfl (by decide +kernel)
set_option maxRecDepth 20000 in
theorem gX3_ofTune_X3_teethOf : GoodIn wsX3_ofTune (wsV RX3 160 RX3 yX3_teethOf wsX3_teethOf) := goodIn_app (goodIn_r _ [25, 26, 27, 4] rfl (by decide +kernel)) ggX3_ofTune_X3_teethOf
theorem dX3_ofTune_0 : decode cX3_ofTune 0 = .ok (.iload_n 2, 1) := by decide +kernel
theorem dX3_ofTune_1 : decode cX3_ofTune 1 = .ok (.tableswitch 57 0 3 #[31, 31, 37, 51], 31) := by decide +kernel
theorem dX3_ofTune_32 : decode cX3_ofTune 32 = .ok (.aload_n 0, 1) := by decide +kernel
theorem dX3_ofTune_33 : decode cX3_ofTune 33 = .ok (.iload_n 1, 1) := by decide +kernel
theorem dX3_ofTune_34 : decode cX3_ofTune 34 = .ok (.invokevirtual 63, 3) := by decide +kernel
theorem dX3_ofTune_37 : decode cX3_ofTune 37 = .ok (.ireturn, 1) := by decide +kernel
theorem dX3_ofTune_38 : decode cX3_ofTune 38 = .ok (.aload_n 0, 1) := by decide +kernel
theorem dX3_ofTune_39 : decode cX3_ofTune 39 = .ok (.iload_n 1, 1) := by decide +kernel
theorem dX3_ofTune_40 : decode cX3_ofTune 40 = .ok (.aload_n 0, 1) := by decide +kernel
theorem dX3_ofTune_41 : decode cX3_ofTune 41 = .ok (.iload_n 1, 1) := by decide +kernel
theorem dX3_ofTune_42 : decode cX3_ofTune 42 = .ok (.invokevirtual 157, 3) := by decide +kernel
theorem dX3_ofTune_45 : decode cX3_ofTune 45 = .ok (.invokevirtual 56, 3) := by decide +kernel
theorem dX3_ofTune_48 : decode cX3_ofTune 48 = .ok (.invokestatic 59, 3) := by decide +kernel
theorem dX3_ofTune_51 : decode cX3_ofTune 51 = .ok (.ireturn, 1) := by decide +kernel
theorem dX3_ofTune_52 : decode cX3_ofTune 52 = .ok (.aload_n 0, 1) := by decide +kernel
theorem dX3_ofTune_53 : decode cX3_ofTune 53 = .ok (.iload_n 1, 1) := by decide +kernel
theorem dX3_ofTune_54 : decode cX3_ofTune 54 = .ok (.invokevirtual 157, 3) := by decide +kernel
theorem dX3_ofTune_57 : decode cX3_ofTune 57 = .ok (.ireturn, 1) := by decide +kernel
theorem dX3_ofTune_58 : decode cX3_ofTune 58 = .ok (.aload_n 0, 1) := by decide +kernel
theorem dX3_ofTune_59 : decode cX3_ofTune 59 = .ok (.iload_n 1, 1) := by decide +kernel
theorem dX3_ofTune_60 : decode cX3_ofTune 60 = .ok (.invokevirtual 160, 3) := by decide +kernel
theorem dX3_ofTune_63 : decode cX3_ofTune 63 = .ok (.ireturn, 1) := by decide +kernel
set_option maxRecDepth 20000 in
theorem ggX3_tune_X3_isTune : GoodIn wsX3_tune wsX3_isTune := goodIn_r _ [4, 5, 6, 3, 7] rfl (by decide +kernel)
set_option maxRecDepth 20000 in
theorem gX3_tune_X3_isTune : GoodIn wsX3_tune (va_wsS RX3 33 yX3_isTune wsX3_isTune) := goodIn_app (goodIn_r _ [1, 2, 3] rfl (by decide +kernel)) ggX3_tune_X3_isTune
set_option maxRecDepth 20000 in
theorem ggX3_tune_X3_in : GoodIn wsX3_tune wsX3_in := goodIn_r _ [7] rfl (by decide +kernel)
set_option maxRecDepth 20000 in
theorem gX3_tune_X3_in : GoodIn wsX3_tune (va_wsS RX3 29 yX3_in wsX3_in) := goodIn_app (goodIn_r _ [5, 6, 3] rfl (by decide +kernel)) ggX3_tune_X3_in
set_option maxRecDepth 20000 in
theorem ggX3_tune_X3_holds : GoodIn wsX3_tune wsX3_holds := goodIn_r _ [11, 12, 44, 45, 46, 47, 48, 49, 50, 51, 52, 53, 54, 55, 56] rfl (by decide +kernel)
set_option maxRecDepth 20000 in
theorem gX3_tune_X3_holds : GoodIn wsX3_tune (wsV RX3 73 RX3 yX3_holds wsX3_holds) := goodIn_app (goodIn_r _ [8, 9, 10, 3] rfl (by decide +kernel)) ggX3_tune_X3_holds
set_option maxRecDepth 20000 in
theorem ggX3_tune_X3_ofTune : GoodIn wsX3_tune wsX3_ofTune := goodIn_r _ [16, 17, 18, 19, 3, 20, 21, 22, 23, 24, 25, 26, 27, 28, 29, 30, 31, 32, 33, 34, 35, 36, 37, 38, 39, 40, 41, 42, 43, 44, 45, 46, 47, 48, 49, 50, 51, 52, 53, 54, 55, 56] rfl (by decide +kernel)
set_option maxRecDepth 20000 in
theorem gX3_tune_X3_ofTune : GoodIn wsX3_tune (wsV RX3 163 RX3 yX3_ofTune wsX3_ofTune) := goodIn_app (goodIn_r _ [13, 14, 15, 3] rfl (by decide +kernel)) ggX3_tune_X3_ofTune
theorem dX3_tune_0 : decode cX3_tune 0 = .ok (.aload_n 0, 1) := by decide +kernel
theorem dX3_tune_1 : decode cX3_tune 1 = .ok (.iload_n 1, 1) := by decide +kernel
theorem dX3_tune_2 : decode cX3_tune 2 = .ok (.invokestatic 33, 3) := by decide +kernel
theorem dX3_tune_5 : decode cX3_tune 5 = .ok (.ifCond .ne 7, 3) := by decide +kernel
theorem dX3_tune_8 : decode cX3_tune 8 = .ok (.iconst 1, 1) := by decide +kernel
theorem dX3_tune_9 : decode cX3_tune 9 = .ok (.goto 17, 3) := by decide +kernel
theorem dX3_tune_12 : decode cX3_tune 12 = .ok (.iload_n 2, 1) := by decide +kernel
theorem dX3_tune_13 : decode cX3_tune 13 = .ok (.iconst 0, 1) := by decide +kernel
theorem dX3_tune_14 : decode cX3_tune 14 = .ok (.iconst 4, 1) := by decide +kernel
theorem dX3_tune_15 : decode cX3_tune 15 = .ok (.invokestatic 29, 3) := by decide +kernel
theorem dX3_tune_18 : decode cX3_tune 18 = .ok (.ifCond .eq 7, 3) := by decide +kernel
theorem dX3_tune_21 : decode cX3_tune 21 = .ok (.iconst 0, 1) := by decide +kernel
theorem dX3_tune_22 : decode cX3_tune 22 = .ok (.goto 4, 3) := by decide +kernel
theorem dX3_tune_25 : decode cX3_tune 25 = .ok (.iconst 2, 1) := by decide +kernel
theorem dX3_tune_26 : decode cX3_tune 26 = .ok (.invokevirtual 73, 3) := by decide +kernel
theorem dX3_tune_29 : decode cX3_tune 29 = .ok (.ifCond .eq 12, 3) := by decide +kernel
theorem dX3_tune_32 : decode cX3_tune 32 = .ok (.aload_n 0, 1) := by decide +kernel
theorem dX3_tune_33 : decode cX3_tune 33 = .ok (.iload_n 1, 1) := by decide +kernel
theorem dX3_tune_34 : decode cX3_tune 34 = .ok (.iload_n 2, 1) := by decide +kernel
theorem dX3_tune_35 : decode cX3_tune 35 = .ok (.invokevirtual 163, 3) := by decide +kernel
theorem dX3_tune_38 : decode cX3_tune 38 = .ok (.goto 4, 3) := by decide +kernel
theorem dX3_tune_41 : decode cX3_tune 41 = .ok (.iconst 0, 1) := by decide +kernel
theorem dX3_tune_42 : decode cX3_tune 42 = .ok (.ireturn, 1) := by decide +kernel
set_option maxRecDepth 20000 in
theorem ggX3_chord_X3_isTune : GoodIn wsX3_chord wsX3_isTune := goodIn_r _ [4, 5, 6, 3, 7] rfl (by decide +kernel)
set_option maxRecDepth 20000 in
theorem gX3_chord_X3_isTune : GoodIn wsX3_chord (va_wsS RX3 33 yX3_isTune wsX3_isTune) := goodIn_app (goodIn_r _ [1, 2, 3] rfl (by decide +kernel)) ggX3_chord_X3_isTune
set_option maxRecDepth 20000 in
theorem ggX3_chord_X3_isStep : GoodIn wsX3_chord wsX3_isStep := goodIn_r _ [10, 5, 6, 3, 7] rfl (by decide +kernel)
set_option maxRecDepth 20000 in
theorem gX3_chord_X3_isStep : GoodIn wsX3_chord (va_wsS RX3 40 yX3_isStep wsX3_isStep) := goodIn_app (goodIn_r _ [8, 9, 3] rfl (by decide +kernel)) ggX3_chord_X3_isStep
set_option maxRecDepth 20000 in
theorem ggX3_chord_X3_holds : GoodIn wsX3_chord wsX3_holds := goodIn_r _ [14, 15, 28, 29, 30, 31, 32, 33, 34, 35, 36, 37, 38, 39, 40] rfl (by decide +kernel)
set_option maxRecDepth 20000 in
theorem gX3_chord_X3_holds : GoodIn wsX3_chord (wsV RX3 73 RX3 yX3_holds wsX3_holds) := goodIn_app (goodIn_r _ [11, 12, 13, 3] rfl (by decide +kernel)) ggX3_chord_X3_holds
set_option maxRecDepth 20000 in
theorem ggX3_chord_X3_pinsAt : GoodIn wsX3_chord wsX3_pinsAt := goodIn_r _ [19, 20, 21, 22, 3, 23, 24, 25, 26, 27, 28, 29, 30, 31, 32, 33, 34, 35, 36, 37, 38, 39, 40] rfl (by decide +kernel)
set_option maxRecDepth 20000 in
theorem gX3_chord_X3_pinsAt : GoodIn wsX3_chord (wsV RX3 56 RX3 yX3_pinsAt wsX3_pinsAt) := goodIn_app (goodIn_r _ [16, 17, 18, 3] rfl (by decide +kernel)) ggX3_chord_X3_pinsAt
theorem dX3_chord_0 : decode cX3_chord 0 = .ok (.aload_n 0, 1) := by decide +kernel
theorem dX3_chord_1 : decode cX3_chord 1 = .ok (.iload_n 1, 1) := by decide +kernel
theorem dX3_chord_2 : decode cX3_chord 2 = .ok (.invokestatic 33, 3) := by decide +kernel
theorem dX3_chord_5 : decode cX3_chord 5 = .ok (.ifCond .eq 14, 3) := by decide +kernel
theorem dX3_chord_8 : decode cX3_chord 8 = .ok (.iload_n 2, 1) := by decide +kernel
theorem dX3_chord_9 : decode cX3_chord 9 = .ok (.invokestatic 40, 3) := by decide +kernel
theorem dX3_chord_12 : decode cX3_chord 12 = .ok (.ifCond .eq 7, 3) := by decide +kernel
theorem dX3_chord_15 : decode cX3_chord 15 = .ok (.iconst 0, 1) := by decide +kernel
theorem dX3_chord_16 : decode cX3_chord 16 = .ok (.goto 4, 3) := by decide +kernel
theorem dX3_chord_19 : decode cX3_chord 19 = .ok (.iconst 1, 1) := by decide +kernel
theorem dX3_chord_20 : decode cX3_chord 20 = .ok (.invokevirtual 73, 3) := by decide +kernel
theorem dX3_chord_23 : decode cX3_chord 23 = .ok (.ifCond .eq 12, 3) := by decide +kernel
theorem dX3_chord_26 : decode cX3_chord 26 = .ok (.aload_n 0, 1) := by decide +kernel
theorem dX3_chord_27 : decode cX3_chord 27 = .ok (.iload_n 1, 1) := by decide +kernel
theorem dX3_chord_28 : decode cX3_chord 28 = .ok (.iload_n 2, 1) := by decide +kernel
theorem dX3_chord_29 : decode cX3_chord 29 = .ok (.invokevirtual 56, 3) := by decide +kernel
theorem dX3_chord_32 : decode cX3_chord 32 = .ok (.goto 4, 3) := by decide +kernel
theorem dX3_chord_35 : decode cX3_chord 35 = .ok (.iconst 0, 1) := by decide +kernel
theorem dX3_chord_36 : decode cX3_chord 36 = .ok (.ireturn, 1) := by decide +kernel
set_option maxRecDepth 20000 in
theorem ggX3_widest_X3_ofPins : GoodIn wsX3_widest wsX3_ofPins := goodIn_r _ [5] rfl (by decide +kernel)
set_option maxRecDepth 20000 in
theorem gX3_widest_X3_ofPins : GoodIn wsX3_widest (va_wsS RX3 46 yX3_ofPins wsX3_ofPins) := goodIn_app (goodIn_r _ [2, 3, 4] rfl (by decide +kernel)) ggX3_widest_X3_ofPins
theorem dX3_widest_0 : decode cX3_widest 0 = .ok (.aload_n 0, 1) := by decide +kernel
theorem dX3_widest_1 : decode cX3_widest 1 = .ok (.getfield 7, 3) := by decide +kernel
theorem dX3_widest_4 : decode cX3_widest 4 = .ok (.aload_n 0, 1) := by decide +kernel
theorem dX3_widest_5 : decode cX3_widest 5 = .ok (.getfield 7, 3) := by decide +kernel
theorem dX3_widest_8 : decode cX3_widest 8 = .ok (.sipush 134, 3) := by decide +kernel
theorem dX3_widest_11 : decode cX3_widest 11 = .ok (.iaload, 1) := by decide +kernel
theorem dX3_widest_12 : decode cX3_widest 12 = .ok (.iload_n 1, 1) := by decide +kernel
theorem dX3_widest_13 : decode cX3_widest 13 = .ok (.invokestatic 46, 3) := by decide +kernel
theorem dX3_widest_16 : decode cX3_widest 16 = .ok (.iaload, 1) := by decide +kernel
theorem dX3_widest_17 : decode cX3_widest 17 = .ok (.istore_n 2, 1) := by decide +kernel
theorem dX3_widest_18 : decode cX3_widest 18 = .ok (.iconst 0, 1) := by decide +kernel
theorem dX3_widest_19 : decode cX3_widest 19 = .ok (.istore_n 3, 1) := by decide +kernel
theorem dX3_widest_20 : decode cX3_widest 20 = .ok (.iconst 0, 1) := by decide +kernel
theorem dX3_widest_21 : decode cX3_widest 21 = .ok (.istore 4, 2) := by decide +kernel
theorem dX3_widest_23 : decode cX3_widest 23 = .ok (.iconst 0, 1) := by decide +kernel
theorem dX3_widest_24 : decode cX3_widest 24 = .ok (.istore 5, 2) := by decide +kernel
theorem dX3_widest_26 : decode cX3_widest 26 = .ok (.iload 5, 2) := by decide +kernel
theorem dX3_widest_28 : decode cX3_widest 28 = .ok (.bipush 64, 2) := by decide +kernel
theorem dX3_widest_30 : decode cX3_widest 30 = .ok (.if_icmp .ge 74, 3) := by decide +kernel
theorem dX3_widest_33 : decode cX3_widest 33 = .ok (.iload_n 2, 1) := by decide +kernel
theorem dX3_widest_34 : decode cX3_widest 34 = .ok (.ifCond .eq 70, 3) := by decide +kernel
theorem dX3_widest_37 : decode cX3_widest 37 = .ok (.iinc 4 1, 3) := by decide +kernel
theorem dX3_widest_40 : decode cX3_widest 40 = .ok (.iload_n 2, 1) := by decide +kernel
theorem dX3_widest_41 : decode cX3_widest 41 = .ok (.iload 5, 2) := by decide +kernel
theorem dX3_widest_43 : decode cX3_widest 43 = .ok (.bipush 32, 2) := by decide +kernel
theorem dX3_widest_45 : decode cX3_widest 45 = .ok (.irem, 1) := by decide +kernel
theorem dX3_widest_46 : decode cX3_widest 46 = .ok (.ishr, 1) := by decide +kernel
theorem dX3_widest_47 : decode cX3_widest 47 = .ok (.iconst 1, 1) := by decide +kernel
theorem dX3_widest_48 : decode cX3_widest 48 = .ok (.iand, 1) := by decide +kernel
theorem dX3_widest_49 : decode cX3_widest 49 = .ok (.iconst 1, 1) := by decide +kernel
theorem dX3_widest_50 : decode cX3_widest 50 = .ok (.if_icmp .ne 7, 3) := by decide +kernel
theorem dX3_widest_53 : decode cX3_widest 53 = .ok (.iconst 1, 1) := by decide +kernel
theorem dX3_widest_54 : decode cX3_widest 54 = .ok (.goto 4, 3) := by decide +kernel
theorem dX3_widest_57 : decode cX3_widest 57 = .ok (.iconst 0, 1) := by decide +kernel
theorem dX3_widest_58 : decode cX3_widest 58 = .ok (.istore 6, 2) := by decide +kernel
theorem dX3_widest_60 : decode cX3_widest 60 = .ok (.iload 6, 2) := by decide +kernel
theorem dX3_widest_62 : decode cX3_widest 62 = .ok (.ifCond .eq 21, 3) := by decide +kernel
theorem dX3_widest_65 : decode cX3_widest 65 = .ok (.iload 5, 2) := by decide +kernel
theorem dX3_widest_67 : decode cX3_widest 67 = .ok (.bipush 32, 2) := by decide +kernel
theorem dX3_widest_69 : decode cX3_widest 69 = .ok (.if_icmp .lt 14, 3) := by decide +kernel
theorem dX3_widest_72 : decode cX3_widest 72 = .ok (.iload 4, 2) := by decide +kernel
theorem dX3_widest_74 : decode cX3_widest 74 = .ok (.iload_n 3, 1) := by decide +kernel
theorem dX3_widest_75 : decode cX3_widest 75 = .ok (.if_icmp .le 8, 3) := by decide +kernel
theorem dX3_widest_78 : decode cX3_widest 78 = .ok (.iload 4, 2) := by decide +kernel
theorem dX3_widest_80 : decode cX3_widest 80 = .ok (.goto 4, 3) := by decide +kernel
theorem dX3_widest_83 : decode cX3_widest 83 = .ok (.iload_n 3, 1) := by decide +kernel
theorem dX3_widest_84 : decode cX3_widest 84 = .ok (.istore_n 3, 1) := by decide +kernel
theorem dX3_widest_85 : decode cX3_widest 85 = .ok (.iload 6, 2) := by decide +kernel
theorem dX3_widest_87 : decode cX3_widest 87 = .ok (.ifCond .eq 7, 3) := by decide +kernel
theorem dX3_widest_90 : decode cX3_widest 90 = .ok (.iconst 0, 1) := by decide +kernel
theorem dX3_widest_91 : decode cX3_widest 91 = .ok (.goto 5, 3) := by decide +kernel
theorem dX3_widest_94 : decode cX3_widest 94 = .ok (.iload 4, 2) := by decide +kernel
theorem dX3_widest_96 : decode cX3_widest 96 = .ok (.istore 4, 2) := by decide +kernel
theorem dX3_widest_98 : decode cX3_widest 98 = .ok (.iinc 5 1, 3) := by decide +kernel
theorem dX3_widest_101 : decode cX3_widest 101 = .ok (.goto (-75), 3) := by decide +kernel
theorem dX3_widest_104 : decode cX3_widest 104 = .ok (.iload_n 3, 1) := by decide +kernel
theorem dX3_widest_105 : decode cX3_widest 105 = .ok (.ireturn, 1) := by decide +kernel
set_option maxRecDepth 20000 in
theorem ggX3_ofTooth_X3_of : GoodIn wsX3_ofTooth wsX3_of := goodIn_r _ [5] rfl (by decide +kernel)
set_option maxRecDepth 20000 in
theorem gX3_ofTooth_X3_of : GoodIn wsX3_ofTooth (va_wsS RX3 86 yX3_of wsX3_of) := goodIn_app (goodIn_r _ [2, 3, 4] rfl (by decide +kernel)) ggX3_ofTooth_X3_of
set_option maxRecDepth 20000 in
theorem ggX3_ofTooth_X3_widest : GoodIn wsX3_ofTooth wsX3_widest := goodIn_r _ [9, 1, 10, 11, 4, 12, 13, 14, 15, 16, 17, 18, 19, 20, 21, 22, 23, 24, 25] rfl (by decide +kernel)
set_option maxRecDepth 20000 in
theorem gX3_ofTooth_X3_widest : GoodIn wsX3_ofTooth (wsV RX3 166 RX3 yX3_widest wsX3_widest) := goodIn_app (goodIn_r _ [6, 7, 8, 4] rfl (by decide +kernel)) ggX3_ofTooth_X3_widest
theorem dX3_ofTooth_0 : decode cX3_ofTooth 0 = .ok (.iload_n 2, 1) := by decide +kernel
theorem dX3_ofTooth_1 : decode cX3_ofTooth 1 = .ok (.iconst 4, 1) := by decide +kernel
theorem dX3_ofTooth_2 : decode cX3_ofTooth 2 = .ok (.if_icmp .ge 16, 3) := by decide +kernel
theorem dX3_ofTooth_5 : decode cX3_ofTooth 5 = .ok (.aload_n 0, 1) := by decide +kernel
theorem dX3_ofTooth_6 : decode cX3_ofTooth 6 = .ok (.getfield 7, 3) := by decide +kernel
theorem dX3_ofTooth_9 : decode cX3_ofTooth 9 = .ok (.iload_n 1, 1) := by decide +kernel
theorem dX3_ofTooth_10 : decode cX3_ofTooth 10 = .ok (.iload_n 2, 1) := by decide +kernel
theorem dX3_ofTooth_11 : decode cX3_ofTooth 11 = .ok (.invokestatic 86, 3) := by decide +kernel
theorem dX3_ofTooth_14 : decode cX3_ofTooth 14 = .ok (.iaload, 1) := by decide +kernel
theorem dX3_ofTooth_15 : decode cX3_ofTooth 15 = .ok (.goto 8, 3) := by decide +kernel
theorem dX3_ofTooth_18 : decode cX3_ofTooth 18 = .ok (.aload_n 0, 1) := by decide +kernel
theorem dX3_ofTooth_19 : decode cX3_ofTooth 19 = .ok (.iload_n 1, 1) := by decide +kernel
theorem dX3_ofTooth_20 : decode cX3_ofTooth 20 = .ok (.invokevirtual 166, 3) := by decide +kernel
theorem dX3_ofTooth_23 : decode cX3_ofTooth 23 = .ok (.ireturn, 1) := by decide +kernel
set_option maxRecDepth 20000 in
theorem ggX3_tooth_X3_isTooth : GoodIn wsX3_tooth wsX3_isTooth := goodIn_r _ [4, 5, 6, 3, 7] rfl (by decide +kernel)
set_option maxRecDepth 20000 in
theorem gX3_tooth_X3_isTooth : GoodIn wsX3_tooth (va_wsS RX3 37 yX3_isTooth wsX3_isTooth) := goodIn_app (goodIn_r _ [1, 2, 3] rfl (by decide +kernel)) ggX3_tooth_X3_isTooth
set_option maxRecDepth 20000 in
theorem ggX3_tooth_X3_in : GoodIn wsX3_tooth wsX3_in := goodIn_r _ [7] rfl (by decide +kernel)
set_option maxRecDepth 20000 in
theorem gX3_tooth_X3_in : GoodIn wsX3_tooth (va_wsS RX3 29 yX3_in wsX3_in) := goodIn_app (goodIn_r _ [5, 6, 3] rfl (by decide +kernel)) ggX3_tooth_X3_in
set_option maxRecDepth 20000 in
theorem ggX3_tooth_X3_holds : GoodIn wsX3_tooth wsX3_holds := goodIn_r _ [11, 12, 28, 29, 30, 31, 32, 33, 34, 35, 36, 37, 38, 39, 40] rfl (by decide +kernel)
set_option maxRecDepth 20000 in
theorem gX3_tooth_X3_holds : GoodIn wsX3_tooth (wsV RX3 73 RX3 yX3_holds wsX3_holds) := goodIn_app (goodIn_r _ [8, 9, 10, 3] rfl (by decide +kernel)) ggX3_tooth_X3_holds
set_option maxRecDepth 20000 in
theorem ggX3_tooth_X3_ofTooth : GoodIn wsX3_tooth wsX3_ofTooth := goodIn_r _ [16, 17, 18, 19, 3, 20, 21, 22, 23, 24, 25, 26, 27, 28, 29, 30, 31, 32, 33, 34, 35, 36, 37, 38, 39, 40] rfl (by decide +kernel)
set_option maxRecDepth 20000 in
theorem gX3_tooth_X3_ofTooth : GoodIn wsX3_tooth (wsV RX3 169 RX3 yX3_ofTooth wsX3_ofTooth) := goodIn_app (goodIn_r _ [13, 14, 15, 3] rfl (by decide +kernel)) ggX3_tooth_X3_ofTooth
theorem dX3_tooth_0 : decode cX3_tooth 0 = .ok (.aload_n 0, 1) := by decide +kernel
theorem dX3_tooth_1 : decode cX3_tooth 1 = .ok (.iload_n 1, 1) := by decide +kernel
theorem dX3_tooth_2 : decode cX3_tooth 2 = .ok (.invokestatic 37, 3) := by decide +kernel
theorem dX3_tooth_5 : decode cX3_tooth 5 = .ok (.ifCond .ne 7, 3) := by decide +kernel
theorem dX3_tooth_8 : decode cX3_tooth 8 = .ok (.iconst 1, 1) := by decide +kernel
theorem dX3_tooth_9 : decode cX3_tooth 9 = .ok (.goto 17, 3) := by decide +kernel
theorem dX3_tooth_12 : decode cX3_tooth 12 = .ok (.iload_n 2, 1) := by decide +kernel
theorem dX3_tooth_13 : decode cX3_tooth 13 = .ok (.iconst 0, 1) := by decide +kernel
theorem dX3_tooth_14 : decode cX3_tooth 14 = .ok (.iconst 4, 1) := by decide +kernel
theorem dX3_tooth_15 : decode cX3_tooth 15 = .ok (.invokestatic 29, 3) := by decide +kernel
theorem dX3_tooth_18 : decode cX3_tooth 18 = .ok (.ifCond .eq 7, 3) := by decide +kernel
theorem dX3_tooth_21 : decode cX3_tooth 21 = .ok (.iconst 0, 1) := by decide +kernel
theorem dX3_tooth_22 : decode cX3_tooth 22 = .ok (.goto 4, 3) := by decide +kernel
theorem dX3_tooth_25 : decode cX3_tooth 25 = .ok (.iconst 2, 1) := by decide +kernel
theorem dX3_tooth_26 : decode cX3_tooth 26 = .ok (.invokevirtual 73, 3) := by decide +kernel
theorem dX3_tooth_29 : decode cX3_tooth 29 = .ok (.ifCond .eq 12, 3) := by decide +kernel
theorem dX3_tooth_32 : decode cX3_tooth 32 = .ok (.aload_n 0, 1) := by decide +kernel
theorem dX3_tooth_33 : decode cX3_tooth 33 = .ok (.iload_n 1, 1) := by decide +kernel
theorem dX3_tooth_34 : decode cX3_tooth 34 = .ok (.iload_n 2, 1) := by decide +kernel
theorem dX3_tooth_35 : decode cX3_tooth 35 = .ok (.invokevirtual 169, 3) := by decide +kernel
theorem dX3_tooth_38 : decode cX3_tooth 38 = .ok (.goto 4, 3) := by decide +kernel
theorem dX3_tooth_41 : decode cX3_tooth 41 = .ok (.iconst 0, 1) := by decide +kernel
theorem dX3_tooth_42 : decode cX3_tooth 42 = .ok (.ireturn, 1) := by decide +kernel
set_option maxRecDepth 20000 in
theorem ggX3_note_X3_in : GoodIn wsX3_note wsX3_in := goodIn_r _ [5] rfl (by decide +kernel)
set_option maxRecDepth 20000 in
theorem gX3_note_X3_in : GoodIn wsX3_note (va_wsS RX3 29 yX3_in wsX3_in) := goodIn_app (goodIn_r _ [2, 3, 4] rfl (by decide +kernel)) ggX3_note_X3_in
set_option maxRecDepth 20000 in
theorem ggX3_note_X3_holds : GoodIn wsX3_note wsX3_holds := goodIn_r _ [9, 10, 11, 12, 13, 14, 15, 16, 17, 18, 19, 20, 21, 22, 23] rfl (by decide +kernel)
set_option maxRecDepth 20000 in
theorem gX3_note_X3_holds : GoodIn wsX3_note (wsV RX3 73 RX3 yX3_holds wsX3_holds) := goodIn_app (goodIn_r _ [6, 7, 8, 4] rfl (by decide +kernel)) ggX3_note_X3_holds
theorem dX3_note_0 : decode cX3_note 0 = .ok (.aload_n 0, 1) := by decide +kernel
theorem dX3_note_1 : decode cX3_note 1 = .ok (.iload_n 1, 1) := by decide +kernel
theorem dX3_note_2 : decode cX3_note 2 = .ok (.iconst 0, 1) := by decide +kernel
theorem dX3_note_3 : decode cX3_note 3 = .ok (.bipush 23, 2) := by decide +kernel
theorem dX3_note_5 : decode cX3_note 5 = .ok (.invokestatic 29, 3) := by decide +kernel
theorem dX3_note_8 : decode cX3_note 8 = .ok (.ifCond .eq 16, 3) := by decide +kernel
theorem dX3_note_11 : decode cX3_note 11 = .ok (.iload_n 2, 1) := by decide +kernel
theorem dX3_note_12 : decode cX3_note 12 = .ok (.iconst 0, 1) := by decide +kernel
theorem dX3_note_13 : decode cX3_note 13 = .ok (.iconst 1, 1) := by decide +kernel
theorem dX3_note_14 : decode cX3_note 14 = .ok (.invokestatic 29, 3) := by decide +kernel
theorem dX3_note_17 : decode cX3_note 17 = .ok (.ifCond .eq 7, 3) := by decide +kernel
theorem dX3_note_20 : decode cX3_note 20 = .ok (.iconst 0, 1) := by decide +kernel
theorem dX3_note_21 : decode cX3_note 21 = .ok (.goto 4, 3) := by decide +kernel
theorem dX3_note_24 : decode cX3_note 24 = .ok (.iconst 1, 1) := by decide +kernel
theorem dX3_note_25 : decode cX3_note 25 = .ok (.invokevirtual 73, 3) := by decide +kernel
theorem dX3_note_28 : decode cX3_note 28 = .ok (.ifCond .ne 5, 3) := by decide +kernel
theorem dX3_note_31 : decode cX3_note 31 = .ok (.iconst 0, 1) := by decide +kernel
theorem dX3_note_32 : decode cX3_note 32 = .ok (.ireturn, 1) := by decide +kernel
theorem dX3_note_33 : decode cX3_note 33 = .ok (.iload_n 1, 1) := by decide +kernel
theorem dX3_note_34 : decode cX3_note 34 = .ok (.aload_n 0, 1) := by decide +kernel
theorem dX3_note_35 : decode cX3_note 35 = .ok (.getfield 7, 3) := by decide +kernel
theorem dX3_note_38 : decode cX3_note 38 = .ok (.sipush 132, 3) := by decide +kernel
theorem dX3_note_41 : decode cX3_note 41 = .ok (.iaload, 1) := by decide +kernel
theorem dX3_note_42 : decode cX3_note 42 = .ok (.if_icmp .ge 19, 3) := by decide +kernel
theorem dX3_note_45 : decode cX3_note 45 = .ok (.aload_n 0, 1) := by decide +kernel
theorem dX3_note_46 : decode cX3_note 46 = .ok (.getfield 7, 3) := by decide +kernel
theorem dX3_note_49 : decode cX3_note 49 = .ok (.bipush 84, 2) := by decide +kernel
theorem dX3_note_51 : decode cX3_note 51 = .ok (.iconst 2, 1) := by decide +kernel
theorem dX3_note_52 : decode cX3_note 52 = .ok (.iload_n 1, 1) := by decide +kernel
theorem dX3_note_53 : decode cX3_note 53 = .ok (.imul, 1) := by decide +kernel
theorem dX3_note_54 : decode cX3_note 54 = .ok (.iadd, 1) := by decide +kernel
theorem dX3_note_55 : decode cX3_note 55 = .ok (.iload_n 2, 1) := by decide +kernel
theorem dX3_note_56 : decode cX3_note 56 = .ok (.iadd, 1) := by decide +kernel
theorem dX3_note_57 : decode cX3_note 57 = .ok (.iaload, 1) := by decide +kernel
theorem dX3_note_58 : decode cX3_note 58 = .ok (.goto 4, 3) := by decide +kernel
theorem dX3_note_61 : decode cX3_note 61 = .ok (.iconst (-1), 1) := by decide +kernel
theorem dX3_note_62 : decode cX3_note 62 = .ok (.ireturn, 1) := by decide +kernel
set_option maxRecDepth 20000 in
theorem ggX3_teethThat_X3_of : GoodIn wsX3_teethThat wsX3_of := goodIn_r _ [5] rfl (by decide +kernel)
set_option maxRecDepth 20000 in
theorem gX3_teethThat_X3_of : GoodIn wsX3_teethThat (va_wsS RX3 86 yX3_of wsX3_of) := goodIn_app (goodIn_r _ [2, 3, 4] rfl (by decide +kernel)) ggX3_teethThat_X3_of
theorem dX3_teethThat_0 : decode cX3_teethThat 0 = .ok (.iconst 0, 1) := by decide +kernel
theorem dX3_teethThat_1 : decode cX3_teethThat 1 = .ok (.istore_n 2, 1) := by decide +kernel
theorem dX3_teethThat_2 : decode cX3_teethThat 2 = .ok (.iconst 0, 1) := by decide +kernel
theorem dX3_teethThat_3 : decode cX3_teethThat 3 = .ok (.istore_n 3, 1) := by decide +kernel
theorem dX3_teethThat_4 : decode cX3_teethThat 4 = .ok (.iload_n 3, 1) := by decide +kernel
theorem dX3_teethThat_5 : decode cX3_teethThat 5 = .ok (.bipush 12, 2) := by decide +kernel
theorem dX3_teethThat_7 : decode cX3_teethThat 7 = .ok (.if_icmp .ge 30, 3) := by decide +kernel
theorem dX3_teethThat_10 : decode cX3_teethThat 10 = .ok (.iload_n 2, 1) := by decide +kernel
theorem dX3_teethThat_11 : decode cX3_teethThat 11 = .ok (.aload_n 0, 1) := by decide +kernel
theorem dX3_teethThat_12 : decode cX3_teethThat 12 = .ok (.getfield 7, 3) := by decide +kernel
theorem dX3_teethThat_15 : decode cX3_teethThat 15 = .ok (.iload_n 3, 1) := by decide +kernel
theorem dX3_teethThat_16 : decode cX3_teethThat 16 = .ok (.iload_n 1, 1) := by decide +kernel
theorem dX3_teethThat_17 : decode cX3_teethThat 17 = .ok (.invokestatic 86, 3) := by decide +kernel
theorem dX3_teethThat_20 : decode cX3_teethThat 20 = .ok (.iaload, 1) := by decide +kernel
theorem dX3_teethThat_21 : decode cX3_teethThat 21 = .ok (.ifCond .le 7, 3) := by decide +kernel
theorem dX3_teethThat_24 : decode cX3_teethThat 24 = .ok (.iconst 1, 1) := by decide +kernel
theorem dX3_teethThat_25 : decode cX3_teethThat 25 = .ok (.goto 4, 3) := by decide +kernel
theorem dX3_teethThat_28 : decode cX3_teethThat 28 = .ok (.iconst 0, 1) := by decide +kernel
theorem dX3_teethThat_29 : decode cX3_teethThat 29 = .ok (.iadd, 1) := by decide +kernel
theorem dX3_teethThat_30 : decode cX3_teethThat 30 = .ok (.istore_n 2, 1) := by decide +kernel
theorem dX3_teethThat_31 : decode cX3_teethThat 31 = .ok (.iinc 3 1, 3) := by decide +kernel
theorem dX3_teethThat_34 : decode cX3_teethThat 34 = .ok (.goto (-30), 3) := by decide +kernel
theorem dX3_teethThat_37 : decode cX3_teethThat 37 = .ok (.iload_n 2, 1) := by decide +kernel
theorem dX3_teethThat_38 : decode cX3_teethThat 38 = .ok (.ireturn, 1) := by decide +kernel
set_option maxRecDepth 20000 in
theorem ggX3_counted_X3_teethThat : GoodIn wsX3_counted wsX3_teethThat := goodIn_r _ [7, 1, 8, 9, 6, 10, 25, 26, 27, 28, 29, 30, 31, 32, 33, 34, 35, 36, 37] rfl (by decide +kernel)
set_option maxRecDepth 20000 in
theorem gX3_counted_X3_teethThat : GoodIn wsX3_counted (wsV RX3 172 RX3 yX3_teethThat wsX3_teethThat) := goodIn_app (goodIn_r _ [3, 4, 5, 6] rfl (by decide +kernel)) ggX3_counted_X3_teethThat
set_option maxRecDepth 20000 in
theorem ggX3_counted_X3_allPins : GoodIn wsX3_counted wsX3_allPins := goodIn_r _ [14, 15, 16, 17, 6, 18, 1, 19, 20, 21, 22, 23, 24, 25, 26, 27, 28, 29, 30, 31, 32, 33, 34, 35, 36, 37] rfl (by decide +kernel)
set_option maxRecDepth 20000 in
theorem gX3_counted_X3_allPins : GoodIn wsX3_counted (wsV RX3 154 RX3 yX3_allPins wsX3_allPins) := goodIn_app (goodIn_r _ [11, 12, 13, 6] rfl (by decide +kernel)) ggX3_counted_X3_allPins
theorem dX3_counted_0 : decode cX3_counted 0 = .ok (.iload_n 1, 1) := by decide +kernel
theorem dX3_counted_1 : decode cX3_counted 1 = .ok (.tableswitch 100 8 17 #[55, 61, 67, 72, 81, 81, 81, 81, 81, 95], 55) := by decide +kernel
theorem dX3_counted_56 : decode cX3_counted 56 = .ok (.aload_n 0, 1) := by decide +kernel
theorem dX3_counted_57 : decode cX3_counted 57 = .ok (.iconst 0, 1) := by decide +kernel
theorem dX3_counted_58 : decode cX3_counted 58 = .ok (.invokevirtual 172, 3) := by decide +kernel
theorem dX3_counted_61 : decode cX3_counted 61 = .ok (.ireturn, 1) := by decide +kernel
theorem dX3_counted_62 : decode cX3_counted 62 = .ok (.aload_n 0, 1) := by decide +kernel
theorem dX3_counted_63 : decode cX3_counted 63 = .ok (.iconst 2, 1) := by decide +kernel
theorem dX3_counted_64 : decode cX3_counted 64 = .ok (.invokevirtual 172, 3) := by decide +kernel
theorem dX3_counted_67 : decode cX3_counted 67 = .ok (.ireturn, 1) := by decide +kernel
theorem dX3_counted_68 : decode cX3_counted 68 = .ok (.aload_n 0, 1) := by decide +kernel
theorem dX3_counted_69 : decode cX3_counted 69 = .ok (.invokevirtual 154, 3) := by decide +kernel
theorem dX3_counted_72 : decode cX3_counted 72 = .ok (.ireturn, 1) := by decide +kernel
theorem dX3_counted_73 : decode cX3_counted 73 = .ok (.aload_n 0, 1) := by decide +kernel
theorem dX3_counted_74 : decode cX3_counted 74 = .ok (.getfield 7, 3) := by decide +kernel
theorem dX3_counted_77 : decode cX3_counted 77 = .ok (.sipush 141, 3) := by decide +kernel
theorem dX3_counted_80 : decode cX3_counted 80 = .ok (.iaload, 1) := by decide +kernel
theorem dX3_counted_81 : decode cX3_counted 81 = .ok (.ireturn, 1) := by decide +kernel
theorem dX3_counted_82 : decode cX3_counted 82 = .ok (.aload_n 0, 1) := by decide +kernel
theorem dX3_counted_83 : decode cX3_counted 83 = .ok (.getfield 7, 3) := by decide +kernel
theorem dX3_counted_86 : decode cX3_counted 86 = .ok (.sipush 142, 3) := by decide +kernel
theorem dX3_counted_89 : decode cX3_counted 89 = .ok (.iload_n 1, 1) := by decide +kernel
theorem dX3_counted_90 : decode cX3_counted 90 = .ok (.iadd, 1) := by decide +kernel
theorem dX3_counted_91 : decode cX3_counted 91 = .ok (.bipush 12, 2) := by decide +kernel
theorem dX3_counted_93 : decode cX3_counted 93 = .ok (.isub, 1) := by decide +kernel
theorem dX3_counted_94 : decode cX3_counted 94 = .ok (.iaload, 1) := by decide +kernel
theorem dX3_counted_95 : decode cX3_counted 95 = .ok (.ireturn, 1) := by decide +kernel
theorem dX3_counted_96 : decode cX3_counted 96 = .ok (.aload_n 0, 1) := by decide +kernel
theorem dX3_counted_97 : decode cX3_counted 97 = .ok (.getfield 43, 3) := by decide +kernel
theorem dX3_counted_100 : decode cX3_counted 100 = .ok (.ireturn, 1) := by decide +kernel
theorem dX3_counted_101 : decode cX3_counted 101 = .ok (.aload_n 0, 1) := by decide +kernel
theorem dX3_counted_102 : decode cX3_counted 102 = .ok (.getfield 7, 3) := by decide +kernel
theorem dX3_counted_105 : decode cX3_counted 105 = .ok (.sipush 133, 3) := by decide +kernel
theorem dX3_counted_108 : decode cX3_counted 108 = .ok (.iload_n 1, 1) := by decide +kernel
theorem dX3_counted_109 : decode cX3_counted 109 = .ok (.iadd, 1) := by decide +kernel
theorem dX3_counted_110 : decode cX3_counted 110 = .ok (.iaload, 1) := by decide +kernel
theorem dX3_counted_111 : decode cX3_counted 111 = .ok (.ireturn, 1) := by decide +kernel
set_option maxRecDepth 20000 in
theorem ggX3_count_X3_in : GoodIn wsX3_count wsX3_in := goodIn_r _ [4] rfl (by decide +kernel)
set_option maxRecDepth 20000 in
theorem gX3_count_X3_in : GoodIn wsX3_count (va_wsS RX3 29 yX3_in wsX3_in) := goodIn_app (goodIn_r _ [1, 2, 3] rfl (by decide +kernel)) ggX3_count_X3_in
set_option maxRecDepth 20000 in
theorem ggX3_count_X3_holds : GoodIn wsX3_count wsX3_holds := goodIn_r _ [8, 9, 37, 38, 39, 40, 41, 42, 43, 44, 45, 46, 47, 48, 49] rfl (by decide +kernel)
set_option maxRecDepth 20000 in
theorem gX3_count_X3_holds : GoodIn wsX3_count (wsV RX3 73 RX3 yX3_holds wsX3_holds) := goodIn_app (goodIn_r _ [5, 6, 7, 3] rfl (by decide +kernel)) ggX3_count_X3_holds
set_option maxRecDepth 20000 in
theorem ggX3_count_X3_counted : GoodIn wsX3_count wsX3_counted := goodIn_r _ [13, 14, 15, 16, 17, 18, 3, 19, 20, 21, 22, 23, 24, 25, 26, 27, 28, 29, 30, 31, 32, 33, 34, 35, 36, 37, 38, 39, 40, 41, 42, 43, 44, 45, 46, 47, 48, 49] rfl (by decide +kernel)
set_option maxRecDepth 20000 in
theorem gX3_count_X3_counted : GoodIn wsX3_count (wsV RX3 175 RX3 yX3_counted wsX3_counted) := goodIn_app (goodIn_r _ [10, 11, 12, 3] rfl (by decide +kernel)) ggX3_count_X3_counted
theorem dX3_count_0 : decode cX3_count 0 = .ok (.aload_n 0, 1) := by decide +kernel
theorem dX3_count_1 : decode cX3_count 1 = .ok (.iload_n 1, 1) := by decide +kernel
theorem dX3_count_2 : decode cX3_count 2 = .ok (.iconst 0, 1) := by decide +kernel
theorem dX3_count_3 : decode cX3_count 3 = .ok (.bipush 17, 2) := by decide +kernel
theorem dX3_count_5 : decode cX3_count 5 = .ok (.invokestatic 29, 3) := by decide +kernel
theorem dX3_count_8 : decode cX3_count 8 = .ok (.ifCond .eq 7, 3) := by decide +kernel
theorem dX3_count_11 : decode cX3_count 11 = .ok (.iconst 0, 1) := by decide +kernel
theorem dX3_count_12 : decode cX3_count 12 = .ok (.goto 4, 3) := by decide +kernel
theorem dX3_count_15 : decode cX3_count 15 = .ok (.iconst 1, 1) := by decide +kernel
theorem dX3_count_16 : decode cX3_count 16 = .ok (.invokevirtual 73, 3) := by decide +kernel
theorem dX3_count_19 : decode cX3_count 19 = .ok (.ifCond .eq 11, 3) := by decide +kernel
theorem dX3_count_22 : decode cX3_count 22 = .ok (.aload_n 0, 1) := by decide +kernel
theorem dX3_count_23 : decode cX3_count 23 = .ok (.iload_n 1, 1) := by decide +kernel
theorem dX3_count_24 : decode cX3_count 24 = .ok (.invokevirtual 175, 3) := by decide +kernel
theorem dX3_count_27 : decode cX3_count 27 = .ok (.goto 4, 3) := by decide +kernel
theorem dX3_count_30 : decode cX3_count 30 = .ok (.iconst 0, 1) := by decide +kernel
theorem dX3_count_31 : decode cX3_count 31 = .ok (.ireturn, 1) := by decide +kernel
set_option maxRecDepth 20000 in
theorem ggX3_wouldBe_X3_putAside : GoodIn wsX3_wouldBe wsX3_putAside := goodIn_r _ [7, 2, 1, 54, 55, 56, 57, 58, 59, 60, 61, 62, 63, 64, 65, 66] rfl (by decide +kernel)
set_option maxRecDepth 20000 in
theorem gX3_wouldBe_X3_putAside : GoodIn wsX3_wouldBe (wsV RX3 178 RX3 yX3_putAside wsX3_putAside) := goodIn_app (goodIn_r _ [3, 4, 5, 6] rfl (by decide +kernel)) ggX3_wouldBe_X3_putAside
set_option maxRecDepth 20000 in
theorem ggX3_wouldBe_X3_teethThat : GoodIn wsX3_wouldBe wsX3_teethThat := goodIn_r _ [11, 1, 12, 13, 6, 14, 54, 55, 56, 57, 58, 59, 60, 61, 62, 63, 64, 65, 66] rfl (by decide +kernel)
set_option maxRecDepth 20000 in
theorem gX3_wouldBe_X3_teethThat : GoodIn wsX3_wouldBe (wsV RX3 172 RX3 yX3_teethThat wsX3_teethThat) := goodIn_app (goodIn_r _ [8, 9, 10, 6] rfl (by decide +kernel)) ggX3_wouldBe_X3_teethThat
set_option maxRecDepth 20000 in
theorem ggX3_wouldBe_X3_goesOn : GoodIn wsX3_wouldBe wsX3_goesOn := goodIn_r _ [18, 19, 20, 21, 6, 22, 1, 23, 24, 25, 26, 27, 28, 29, 30, 31, 32, 33, 34, 35, 36, 37, 38, 39, 40, 41, 12, 13, 14, 42, 43, 44, 45, 46, 47, 48, 49, 54, 55, 56, 57, 58, 59, 60, 61, 62, 63, 64, 65, 66] rfl (by decide +kernel)
set_option maxRecDepth 20000 in
theorem gX3_wouldBe_X3_goesOn : GoodIn wsX3_wouldBe (wsV RX3 107 RX3 yX3_goesOn wsX3_goesOn) := goodIn_app (goodIn_r _ [15, 16, 17, 6] rfl (by decide +kernel)) ggX3_wouldBe_X3_goesOn
set_option maxRecDepth 20000 in
theorem ggX3_wouldBe_X3_putBack : GoodIn wsX3_wouldBe wsX3_putBack := goodIn_r _ [53, 1, 2, 54, 55, 56, 57, 58, 59, 60, 61, 62, 63, 64, 65, 66] rfl (by decide +kernel)
set_option maxRecDepth 20000 in
theorem gX3_wouldBe_X3_putBack : GoodIn wsX3_wouldBe (wsV RX3 181 RX3 yX3_putBack wsX3_putBack) := goodIn_app (goodIn_r _ [50, 51, 52, 6] rfl (by decide +kernel)) ggX3_wouldBe_X3_putBack
theorem dX3_wouldBe_0 : decode cX3_wouldBe 0 = .ok (.aload_n 0, 1) := by decide +kernel
theorem dX3_wouldBe_1 : decode cX3_wouldBe 1 = .ok (.invokevirtual 178, 3) := by decide +kernel
theorem dX3_wouldBe_4 : decode cX3_wouldBe 4 = .ok (.aload_n 0, 1) := by decide +kernel
theorem dX3_wouldBe_5 : decode cX3_wouldBe 5 = .ok (.iconst 2, 1) := by decide +kernel
theorem dX3_wouldBe_6 : decode cX3_wouldBe 6 = .ok (.invokevirtual 172, 3) := by decide +kernel
theorem dX3_wouldBe_9 : decode cX3_wouldBe 9 = .ok (.istore_n 3, 1) := by decide +kernel
theorem dX3_wouldBe_10 : decode cX3_wouldBe 10 = .ok (.aload_n 0, 1) := by decide +kernel
theorem dX3_wouldBe_11 : decode cX3_wouldBe 11 = .ok (.iload_n 1, 1) := by decide +kernel
theorem dX3_wouldBe_12 : decode cX3_wouldBe 12 = .ok (.invokevirtual 107, 3) := by decide +kernel
theorem dX3_wouldBe_15 : decode cX3_wouldBe 15 = .ok (.istore 4, 2) := by decide +kernel
theorem dX3_wouldBe_17 : decode cX3_wouldBe 17 = .ok (.aload_n 0, 1) := by decide +kernel
theorem dX3_wouldBe_18 : decode cX3_wouldBe 18 = .ok (.getfield 7, 3) := by decide +kernel
theorem dX3_wouldBe_21 : decode cX3_wouldBe 21 = .ok (.sipush 139, 3) := by decide +kernel
theorem dX3_wouldBe_24 : decode cX3_wouldBe 24 = .ok (.iaload, 1) := by decide +kernel
theorem dX3_wouldBe_25 : decode cX3_wouldBe 25 = .ok (.aload_n 0, 1) := by decide +kernel
theorem dX3_wouldBe_26 : decode cX3_wouldBe 26 = .ok (.getfield 13, 3) := by decide +kernel
theorem dX3_wouldBe_29 : decode cX3_wouldBe 29 = .ok (.sipush 139, 3) := by decide +kernel
theorem dX3_wouldBe_32 : decode cX3_wouldBe 32 = .ok (.iaload, 1) := by decide +kernel
theorem dX3_wouldBe_33 : decode cX3_wouldBe 33 = .ok (.isub, 1) := by decide +kernel
theorem dX3_wouldBe_34 : decode cX3_wouldBe 34 = .ok (.istore 5, 2) := by decide +kernel
theorem dX3_wouldBe_36 : decode cX3_wouldBe 36 = .ok (.aload_n 0, 1) := by decide +kernel
theorem dX3_wouldBe_37 : decode cX3_wouldBe 37 = .ok (.getfield 7, 3) := by decide +kernel
theorem dX3_wouldBe_40 : decode cX3_wouldBe 40 = .ok (.sipush 140, 3) := by decide +kernel
theorem dX3_wouldBe_43 : decode cX3_wouldBe 43 = .ok (.iaload, 1) := by decide +kernel
theorem dX3_wouldBe_44 : decode cX3_wouldBe 44 = .ok (.aload_n 0, 1) := by decide +kernel
theorem dX3_wouldBe_45 : decode cX3_wouldBe 45 = .ok (.getfield 13, 3) := by decide +kernel
theorem dX3_wouldBe_48 : decode cX3_wouldBe 48 = .ok (.sipush 140, 3) := by decide +kernel
theorem dX3_wouldBe_51 : decode cX3_wouldBe 51 = .ok (.iaload, 1) := by decide +kernel
theorem dX3_wouldBe_52 : decode cX3_wouldBe 52 = .ok (.isub, 1) := by decide +kernel
theorem dX3_wouldBe_53 : decode cX3_wouldBe 53 = .ok (.istore 6, 2) := by decide +kernel
theorem dX3_wouldBe_55 : decode cX3_wouldBe 55 = .ok (.aload_n 0, 1) := by decide +kernel
theorem dX3_wouldBe_56 : decode cX3_wouldBe 56 = .ok (.getfield 7, 3) := by decide +kernel
theorem dX3_wouldBe_59 : decode cX3_wouldBe 59 = .ok (.sipush 137, 3) := by decide +kernel
theorem dX3_wouldBe_62 : decode cX3_wouldBe 62 = .ok (.iaload, 1) := by decide +kernel
theorem dX3_wouldBe_63 : decode cX3_wouldBe 63 = .ok (.aload_n 0, 1) := by decide +kernel
theorem dX3_wouldBe_64 : decode cX3_wouldBe 64 = .ok (.getfield 13, 3) := by decide +kernel
theorem dX3_wouldBe_67 : decode cX3_wouldBe 67 = .ok (.sipush 137, 3) := by decide +kernel
theorem dX3_wouldBe_70 : decode cX3_wouldBe 70 = .ok (.iaload, 1) := by decide +kernel
theorem dX3_wouldBe_71 : decode cX3_wouldBe 71 = .ok (.isub, 1) := by decide +kernel
theorem dX3_wouldBe_72 : decode cX3_wouldBe 72 = .ok (.istore 7, 2) := by decide +kernel
theorem dX3_wouldBe_74 : decode cX3_wouldBe 74 = .ok (.aload_n 0, 1) := by decide +kernel
theorem dX3_wouldBe_75 : decode cX3_wouldBe 75 = .ok (.iconst 2, 1) := by decide +kernel
theorem dX3_wouldBe_76 : decode cX3_wouldBe 76 = .ok (.invokevirtual 172, 3) := by decide +kernel
theorem dX3_wouldBe_79 : decode cX3_wouldBe 79 = .ok (.iload_n 3, 1) := by decide +kernel
theorem dX3_wouldBe_80 : decode cX3_wouldBe 80 = .ok (.isub, 1) := by decide +kernel
theorem dX3_wouldBe_81 : decode cX3_wouldBe 81 = .ok (.istore_n 3, 1) := by decide +kernel
theorem dX3_wouldBe_82 : decode cX3_wouldBe 82 = .ok (.aload_n 0, 1) := by decide +kernel
theorem dX3_wouldBe_83 : decode cX3_wouldBe 83 = .ok (.invokevirtual 181, 3) := by decide +kernel
theorem dX3_wouldBe_86 : decode cX3_wouldBe 86 = .ok (.iload_n 2, 1) := by decide +kernel
theorem dX3_wouldBe_87 : decode cX3_wouldBe 87 = .ok (.ifCond .ne 8, 3) := by decide +kernel
theorem dX3_wouldBe_90 : decode cX3_wouldBe 90 = .ok (.iload 4, 2) := by decide +kernel
theorem dX3_wouldBe_92 : decode cX3_wouldBe 92 = .ok (.goto 34, 3) := by decide +kernel
theorem dX3_wouldBe_95 : decode cX3_wouldBe 95 = .ok (.iload_n 2, 1) := by decide +kernel
theorem dX3_wouldBe_96 : decode cX3_wouldBe 96 = .ok (.iconst 1, 1) := by decide +kernel
theorem dX3_wouldBe_97 : decode cX3_wouldBe 97 = .ok (.if_icmp .ne 8, 3) := by decide +kernel
theorem dX3_wouldBe_100 : decode cX3_wouldBe 100 = .ok (.iload 5, 2) := by decide +kernel
theorem dX3_wouldBe_102 : decode cX3_wouldBe 102 = .ok (.goto 24, 3) := by decide +kernel
theorem dX3_wouldBe_105 : decode cX3_wouldBe 105 = .ok (.iload_n 2, 1) := by decide +kernel
theorem dX3_wouldBe_106 : decode cX3_wouldBe 106 = .ok (.iconst 2, 1) := by decide +kernel
theorem dX3_wouldBe_107 : decode cX3_wouldBe 107 = .ok (.if_icmp .ne 8, 3) := by decide +kernel
theorem dX3_wouldBe_110 : decode cX3_wouldBe 110 = .ok (.iload 6, 2) := by decide +kernel
theorem dX3_wouldBe_112 : decode cX3_wouldBe 112 = .ok (.goto 14, 3) := by decide +kernel
theorem dX3_wouldBe_115 : decode cX3_wouldBe 115 = .ok (.iload_n 2, 1) := by decide +kernel
theorem dX3_wouldBe_116 : decode cX3_wouldBe 116 = .ok (.iconst 3, 1) := by decide +kernel
theorem dX3_wouldBe_117 : decode cX3_wouldBe 117 = .ok (.if_icmp .ne 8, 3) := by decide +kernel
theorem dX3_wouldBe_120 : decode cX3_wouldBe 120 = .ok (.iload 7, 2) := by decide +kernel
theorem dX3_wouldBe_122 : decode cX3_wouldBe 122 = .ok (.goto 4, 3) := by decide +kernel
theorem dX3_wouldBe_125 : decode cX3_wouldBe 125 = .ok (.iload_n 3, 1) := by decide +kernel
theorem dX3_wouldBe_126 : decode cX3_wouldBe 126 = .ok (.ireturn, 1) := by decide +kernel
set_option maxRecDepth 20000 in
theorem ggX3_ifPlayed_X3_in : GoodIn wsX3_ifPlayed wsX3_in := goodIn_r _ [4] rfl (by decide +kernel)
set_option maxRecDepth 20000 in
theorem gX3_ifPlayed_X3_in : GoodIn wsX3_ifPlayed (va_wsS RX3 29 yX3_in wsX3_in) := goodIn_app (goodIn_r _ [1, 2, 3] rfl (by decide +kernel)) ggX3_ifPlayed_X3_in
set_option maxRecDepth 20000 in
theorem ggX3_ifPlayed_X3_holds : GoodIn wsX3_ifPlayed wsX3_holds := goodIn_r _ [8, 9, 66, 67, 68, 69, 70, 71, 72, 73, 74, 75, 76, 77, 78] rfl (by decide +kernel)
set_option maxRecDepth 20000 in
theorem gX3_ifPlayed_X3_holds : GoodIn wsX3_ifPlayed (wsV RX3 73 RX3 yX3_holds wsX3_holds) := goodIn_app (goodIn_r _ [5, 6, 7, 3] rfl (by decide +kernel)) ggX3_ifPlayed_X3_holds
set_option maxRecDepth 20000 in
theorem ggX3_ifPlayed_X3_wouldBe : GoodIn wsX3_ifPlayed wsX3_wouldBe := goodIn_r _ [13, 14, 15, 16, 17, 18, 3, 19, 20, 21, 22, 23, 24, 25, 26, 27, 28, 29, 30, 31, 32, 33, 34, 35, 36, 37, 38, 39, 40, 41, 42, 43, 44, 45, 46, 47, 48, 49, 50, 51, 52, 53, 54, 55, 56, 57, 58, 59, 60, 61, 62, 63, 64, 65, 66, 67, 68, 69, 70, 71, 72, 73, 74, 75, 76, 77, 78] rfl (by decide +kernel)
set_option maxRecDepth 20000 in
theorem gX3_ifPlayed_X3_wouldBe : GoodIn wsX3_ifPlayed (wsV RX3 184 RX3 yX3_wouldBe wsX3_wouldBe) := goodIn_app (goodIn_r _ [10, 11, 12, 3] rfl (by decide +kernel)) ggX3_ifPlayed_X3_wouldBe
theorem dX3_ifPlayed_0 : decode cX3_ifPlayed 0 = .ok (.aload_n 0, 1) := by decide +kernel
theorem dX3_ifPlayed_1 : decode cX3_ifPlayed 1 = .ok (.iload_n 1, 1) := by decide +kernel
theorem dX3_ifPlayed_2 : decode cX3_ifPlayed 2 = .ok (.iconst 1, 1) := by decide +kernel
theorem dX3_ifPlayed_3 : decode cX3_ifPlayed 3 = .ok (.sipush 128, 3) := by decide +kernel
theorem dX3_ifPlayed_6 : decode cX3_ifPlayed 6 = .ok (.invokestatic 29, 3) := by decide +kernel
theorem dX3_ifPlayed_9 : decode cX3_ifPlayed 9 = .ok (.ifCond .eq 16, 3) := by decide +kernel
theorem dX3_ifPlayed_12 : decode cX3_ifPlayed 12 = .ok (.iload_n 2, 1) := by decide +kernel
theorem dX3_ifPlayed_13 : decode cX3_ifPlayed 13 = .ok (.iconst 0, 1) := by decide +kernel
theorem dX3_ifPlayed_14 : decode cX3_ifPlayed 14 = .ok (.iconst 4, 1) := by decide +kernel
theorem dX3_ifPlayed_15 : decode cX3_ifPlayed 15 = .ok (.invokestatic 29, 3) := by decide +kernel
theorem dX3_ifPlayed_18 : decode cX3_ifPlayed 18 = .ok (.ifCond .eq 7, 3) := by decide +kernel
theorem dX3_ifPlayed_21 : decode cX3_ifPlayed 21 = .ok (.iconst 0, 1) := by decide +kernel
theorem dX3_ifPlayed_22 : decode cX3_ifPlayed 22 = .ok (.goto 4, 3) := by decide +kernel
theorem dX3_ifPlayed_25 : decode cX3_ifPlayed 25 = .ok (.iconst 1, 1) := by decide +kernel
theorem dX3_ifPlayed_26 : decode cX3_ifPlayed 26 = .ok (.invokevirtual 73, 3) := by decide +kernel
theorem dX3_ifPlayed_29 : decode cX3_ifPlayed 29 = .ok (.ifCond .eq 12, 3) := by decide +kernel
theorem dX3_ifPlayed_32 : decode cX3_ifPlayed 32 = .ok (.aload_n 0, 1) := by decide +kernel
theorem dX3_ifPlayed_33 : decode cX3_ifPlayed 33 = .ok (.iload_n 1, 1) := by decide +kernel
theorem dX3_ifPlayed_34 : decode cX3_ifPlayed 34 = .ok (.iload_n 2, 1) := by decide +kernel
theorem dX3_ifPlayed_35 : decode cX3_ifPlayed 35 = .ok (.invokevirtual 184, 3) := by decide +kernel
theorem dX3_ifPlayed_38 : decode cX3_ifPlayed 38 = .ok (.goto 4, 3) := by decide +kernel
theorem dX3_ifPlayed_41 : decode cX3_ifPlayed 41 = .ok (.iconst 0, 1) := by decide +kernel
theorem dX3_ifPlayed_42 : decode cX3_ifPlayed 42 = .ok (.ireturn, 1) := by decide +kernel
set_option maxRecDepth 20000 in
theorem ggX3_quietVanes_X3_wouldBe : GoodIn wsX3_quietVanes wsX3_wouldBe := goodIn_r _ [6, 1, 7, 8, 9, 10, 5, 11, 12, 13, 14, 15, 16, 17, 18, 19, 20, 21, 22, 23, 24, 25, 26, 27, 28, 29, 30, 31, 32, 33, 34, 35, 36, 37, 38, 39, 40, 41, 42, 43, 44, 45, 46, 47, 48, 49, 50, 51, 52, 53, 54, 55, 56, 57, 58, 59, 60, 61, 62, 63, 64, 65, 66, 67, 68, 69, 70] rfl (by decide +kernel)
set_option maxRecDepth 20000 in
theorem gX3_quietVanes_X3_wouldBe : GoodIn wsX3_quietVanes (wsV RX3 184 RX3 yX3_wouldBe wsX3_wouldBe) := goodIn_app (goodIn_r _ [2, 3, 4, 5] rfl (by decide +kernel)) ggX3_quietVanes_X3_wouldBe
theorem dX3_quietVanes_0 : decode cX3_quietVanes 0 = .ok (.aload_n 0, 1) := by decide +kernel
theorem dX3_quietVanes_1 : decode cX3_quietVanes 1 = .ok (.getfield 7, 3) := by decide +kernel
theorem dX3_quietVanes_4 : decode cX3_quietVanes 4 = .ok (.sipush 136, 3) := by decide +kernel
theorem dX3_quietVanes_7 : decode cX3_quietVanes 7 = .ok (.iaload, 1) := by decide +kernel
theorem dX3_quietVanes_8 : decode cX3_quietVanes 8 = .ok (.istore_n 1, 1) := by decide +kernel
theorem dX3_quietVanes_9 : decode cX3_quietVanes 9 = .ok (.iconst (-1), 1) := by decide +kernel
theorem dX3_quietVanes_10 : decode cX3_quietVanes 10 = .ok (.istore_n 2, 1) := by decide +kernel
theorem dX3_quietVanes_11 : decode cX3_quietVanes 11 = .ok (.bipush 9, 2) := by decide +kernel
theorem dX3_quietVanes_13 : decode cX3_quietVanes 13 = .ok (.istore_n 3, 1) := by decide +kernel
theorem dX3_quietVanes_14 : decode cX3_quietVanes 14 = .ok (.iload_n 3, 1) := by decide +kernel
theorem dX3_quietVanes_15 : decode cX3_quietVanes 15 = .ok (.ifCond .le 34, 3) := by decide +kernel
theorem dX3_quietVanes_18 : decode cX3_quietVanes 18 = .ok (.aload_n 0, 1) := by decide +kernel
theorem dX3_quietVanes_19 : decode cX3_quietVanes 19 = .ok (.getfield 7, 3) := by decide +kernel
theorem dX3_quietVanes_22 : decode cX3_quietVanes 22 = .ok (.sipush 136, 3) := by decide +kernel
theorem dX3_quietVanes_25 : decode cX3_quietVanes 25 = .ok (.iload_n 3, 1) := by decide +kernel
theorem dX3_quietVanes_26 : decode cX3_quietVanes 26 = .ok (.iastore, 1) := by decide +kernel
theorem dX3_quietVanes_27 : decode cX3_quietVanes 27 = .ok (.aload_n 0, 1) := by decide +kernel
theorem dX3_quietVanes_28 : decode cX3_quietVanes 28 = .ok (.bipush 32, 2) := by decide +kernel
theorem dX3_quietVanes_30 : decode cX3_quietVanes 30 = .ok (.iconst 2, 1) := by decide +kernel
theorem dX3_quietVanes_31 : decode cX3_quietVanes 31 = .ok (.invokevirtual 184, 3) := by decide +kernel
theorem dX3_quietVanes_34 : decode cX3_quietVanes 34 = .ok (.ifCond .ne 7, 3) := by decide +kernel
theorem dX3_quietVanes_37 : decode cX3_quietVanes 37 = .ok (.iload_n 3, 1) := by decide +kernel
theorem dX3_quietVanes_38 : decode cX3_quietVanes 38 = .ok (.goto 4, 3) := by decide +kernel
theorem dX3_quietVanes_41 : decode cX3_quietVanes 41 = .ok (.iload_n 2, 1) := by decide +kernel
theorem dX3_quietVanes_42 : decode cX3_quietVanes 42 = .ok (.istore_n 2, 1) := by decide +kernel
theorem dX3_quietVanes_43 : decode cX3_quietVanes 43 = .ok (.iinc 3 (-1), 3) := by decide +kernel
theorem dX3_quietVanes_46 : decode cX3_quietVanes 46 = .ok (.goto (-32), 3) := by decide +kernel
theorem dX3_quietVanes_49 : decode cX3_quietVanes 49 = .ok (.aload_n 0, 1) := by decide +kernel
theorem dX3_quietVanes_50 : decode cX3_quietVanes 50 = .ok (.getfield 7, 3) := by decide +kernel
theorem dX3_quietVanes_53 : decode cX3_quietVanes 53 = .ok (.sipush 136, 3) := by decide +kernel
theorem dX3_quietVanes_56 : decode cX3_quietVanes 56 = .ok (.iload_n 1, 1) := by decide +kernel
theorem dX3_quietVanes_57 : decode cX3_quietVanes 57 = .ok (.iastore, 1) := by decide +kernel
theorem dX3_quietVanes_58 : decode cX3_quietVanes 58 = .ok (.iload_n 2, 1) := by decide +kernel
theorem dX3_quietVanes_59 : decode cX3_quietVanes 59 = .ok (.ireturn, 1) := by decide +kernel
set_option maxRecDepth 20000 in
theorem ggX3_fewestVanes_X3_quietVanes : GoodIn wsX3_fewestVanes wsX3_quietVanes := goodIn_r _ [6, 7, 8, 9, 10, 5, 11, 12, 13, 14, 15, 16, 17, 18, 19, 20, 21, 22, 23, 24, 25, 26, 27, 28, 29, 30, 31, 32, 33, 34, 35, 36, 37, 38, 39, 40, 41, 42, 43, 44, 45, 46, 47, 48, 49, 50, 51, 52, 53, 54, 55, 56, 57, 58, 59, 60, 61, 62, 63, 64, 65, 66, 67, 68, 69, 70, 71, 72, 73, 74, 75] rfl (by decide +kernel)
set_option maxRecDepth 20000 in
theorem gX3_fewestVanes_X3_quietVanes : GoodIn wsX3_fewestVanes (wsV RX3 187 RX3 yX3_quietVanes wsX3_quietVanes) := goodIn_app (goodIn_r _ [2, 3, 4, 5] rfl (by decide +kernel)) ggX3_fewestVanes_X3_quietVanes
theorem dX3_fewestVanes_0 : decode cX3_fewestVanes 0 = .ok (.aload_n 0, 1) := by decide +kernel
theorem dX3_fewestVanes_1 : decode cX3_fewestVanes 1 = .ok (.iconst 0, 1) := by decide +kernel
theorem dX3_fewestVanes_2 : decode cX3_fewestVanes 2 = .ok (.putfield 25, 3) := by decide +kernel
theorem dX3_fewestVanes_5 : decode cX3_fewestVanes 5 = .ok (.aload_n 0, 1) := by decide +kernel
theorem dX3_fewestVanes_6 : decode cX3_fewestVanes 6 = .ok (.invokevirtual 187, 3) := by decide +kernel
theorem dX3_fewestVanes_9 : decode cX3_fewestVanes 9 = .ok (.ireturn, 1) := by decide +kernel
set_option maxRecDepth 20000 in
theorem ggX3_windOf_X3_putAside : GoodIn wsX3_windOf wsX3_putAside := goodIn_r _ [6, 7, 1, 34, 35, 36, 37, 38, 39, 40, 41, 42, 43, 44, 45, 46] rfl (by decide +kernel)
set_option maxRecDepth 20000 in
theorem gX3_windOf_X3_putAside : GoodIn wsX3_windOf (wsV RX3 178 RX3 yX3_putAside wsX3_putAside) := goodIn_app (goodIn_r _ [2, 3, 4, 5] rfl (by decide +kernel)) ggX3_windOf_X3_putAside
set_option maxRecDepth 20000 in
theorem ggX3_windOf_X3_need : GoodIn wsX3_windOf wsX3_need := goodIn_r _ [11, 1, 12, 13, 14, 5, 15, 16, 17, 18, 19, 20, 21, 22, 23, 24, 25, 26, 27, 28, 29, 34, 35, 36, 37, 38, 39, 40, 41, 42, 43, 44, 45, 46] rfl (by decide +kernel)
set_option maxRecDepth 20000 in
theorem gX3_windOf_X3_need : GoodIn wsX3_windOf (wsV RX3 93 RX3 yX3_need wsX3_need) := goodIn_app (goodIn_r _ [8, 9, 10, 5] rfl (by decide +kernel)) ggX3_windOf_X3_need
set_option maxRecDepth 20000 in
theorem ggX3_windOf_X3_nextTune : GoodIn wsX3_windOf wsX3_nextTune := goodIn_r _ [15, 1, 16, 17, 18, 5, 19, 34, 35, 36, 37, 38, 39, 40, 41, 42, 43, 44, 45, 46] rfl (by decide +kernel)
set_option maxRecDepth 20000 in
theorem gX3_windOf_X3_nextTune : GoodIn wsX3_windOf (wsV RX3 83 RX3 yX3_nextTune wsX3_nextTune) := goodIn_app (goodIn_r _ [12, 13, 14, 5] rfl (by decide +kernel)) ggX3_windOf_X3_nextTune
set_option maxRecDepth 20000 in
theorem ggX3_windOf_X3_nextStep : GoodIn wsX3_windOf wsX3_nextStep := goodIn_r _ [19, 1, 34, 35, 36, 37, 38, 39, 40, 41, 42, 43, 44, 45, 46] rfl (by decide +kernel)
set_option maxRecDepth 20000 in
theorem gX3_windOf_X3_nextStep : GoodIn wsX3_windOf (wsV RX3 79 RX3 yX3_nextStep wsX3_nextStep) := goodIn_app (goodIn_r _ [16, 17, 18, 5] rfl (by decide +kernel)) ggX3_windOf_X3_nextStep
set_option maxRecDepth 20000 in
theorem ggX3_windOf_X3_putBack : GoodIn wsX3_windOf wsX3_putBack := goodIn_r _ [33, 1, 7, 34, 35, 36, 37, 38, 39, 40, 41, 42, 43, 44, 45, 46] rfl (by decide +kernel)
set_option maxRecDepth 20000 in
theorem gX3_windOf_X3_putBack : GoodIn wsX3_windOf (wsV RX3 181 RX3 yX3_putBack wsX3_putBack) := goodIn_app (goodIn_r _ [30, 31, 32, 5] rfl (by decide +kernel)) ggX3_windOf_X3_putBack
theorem dX3_windOf_0 : decode cX3_windOf 0 = .ok (.aload_n 0, 1) := by decide +kernel
theorem dX3_windOf_1 : decode cX3_windOf 1 = .ok (.invokevirtual 178, 3) := by decide +kernel
theorem dX3_windOf_4 : decode cX3_windOf 4 = .ok (.iconst 0, 1) := by decide +kernel
theorem dX3_windOf_5 : decode cX3_windOf 5 = .ok (.istore_n 2, 1) := by decide +kernel
theorem dX3_windOf_6 : decode cX3_windOf 6 = .ok (.iconst 0, 1) := by decide +kernel
theorem dX3_windOf_7 : decode cX3_windOf 7 = .ok (.istore_n 3, 1) := by decide +kernel
theorem dX3_windOf_8 : decode cX3_windOf 8 = .ok (.iload_n 3, 1) := by decide +kernel
theorem dX3_windOf_9 : decode cX3_windOf 9 = .ok (.bipush 32, 2) := by decide +kernel
theorem dX3_windOf_11 : decode cX3_windOf 11 = .ok (.iload_n 1, 1) := by decide +kernel
theorem dX3_windOf_12 : decode cX3_windOf 12 = .ok (.imul, 1) := by decide +kernel
theorem dX3_windOf_13 : decode cX3_windOf 13 = .ok (.if_icmp .ge 40, 3) := by decide +kernel
theorem dX3_windOf_16 : decode cX3_windOf 16 = .ok (.iload_n 2, 1) := by decide +kernel
theorem dX3_windOf_17 : decode cX3_windOf 17 = .ok (.aload_n 0, 1) := by decide +kernel
theorem dX3_windOf_18 : decode cX3_windOf 18 = .ok (.invokevirtual 93, 3) := by decide +kernel
theorem dX3_windOf_21 : decode cX3_windOf 21 = .ok (.iadd, 1) := by decide +kernel
theorem dX3_windOf_22 : decode cX3_windOf 22 = .ok (.istore_n 2, 1) := by decide +kernel
theorem dX3_windOf_23 : decode cX3_windOf 23 = .ok (.aload_n 0, 1) := by decide +kernel
theorem dX3_windOf_24 : decode cX3_windOf 24 = .ok (.getfield 7, 3) := by decide +kernel
theorem dX3_windOf_27 : decode cX3_windOf 27 = .ok (.sipush 134, 3) := by decide +kernel
theorem dX3_windOf_30 : decode cX3_windOf 30 = .ok (.aload_n 0, 1) := by decide +kernel
theorem dX3_windOf_31 : decode cX3_windOf 31 = .ok (.invokevirtual 83, 3) := by decide +kernel
theorem dX3_windOf_34 : decode cX3_windOf 34 = .ok (.iastore, 1) := by decide +kernel
theorem dX3_windOf_35 : decode cX3_windOf 35 = .ok (.aload_n 0, 1) := by decide +kernel
theorem dX3_windOf_36 : decode cX3_windOf 36 = .ok (.getfield 7, 3) := by decide +kernel
theorem dX3_windOf_39 : decode cX3_windOf 39 = .ok (.sipush 133, 3) := by decide +kernel
theorem dX3_windOf_42 : decode cX3_windOf 42 = .ok (.aload_n 0, 1) := by decide +kernel
theorem dX3_windOf_43 : decode cX3_windOf 43 = .ok (.invokevirtual 79, 3) := by decide +kernel
theorem dX3_windOf_46 : decode cX3_windOf 46 = .ok (.iastore, 1) := by decide +kernel
theorem dX3_windOf_47 : decode cX3_windOf 47 = .ok (.iinc 3 1, 3) := by decide +kernel
theorem dX3_windOf_50 : decode cX3_windOf 50 = .ok (.goto (-42), 3) := by decide +kernel
theorem dX3_windOf_53 : decode cX3_windOf 53 = .ok (.aload_n 0, 1) := by decide +kernel
theorem dX3_windOf_54 : decode cX3_windOf 54 = .ok (.invokevirtual 181, 3) := by decide +kernel
theorem dX3_windOf_57 : decode cX3_windOf 57 = .ok (.iload_n 2, 1) := by decide +kernel
theorem dX3_windOf_58 : decode cX3_windOf 58 = .ok (.ireturn, 1) := by decide +kernel
set_option maxRecDepth 20000 in
theorem ggX3_windFor_X3_in : GoodIn wsX3_windFor wsX3_in := goodIn_r _ [4] rfl (by decide +kernel)
set_option maxRecDepth 20000 in
theorem gX3_windFor_X3_in : GoodIn wsX3_windFor (va_wsS RX3 29 yX3_in wsX3_in) := goodIn_app (goodIn_r _ [1, 2, 3] rfl (by decide +kernel)) ggX3_windFor_X3_in
set_option maxRecDepth 20000 in
theorem ggX3_windFor_X3_holds : GoodIn wsX3_windFor wsX3_holds := goodIn_r _ [8, 9, 46, 47, 48, 49, 50, 51, 52, 53, 54, 55, 56, 57, 58] rfl (by decide +kernel)
set_option maxRecDepth 20000 in
theorem gX3_windFor_X3_holds : GoodIn wsX3_windFor (wsV RX3 73 RX3 yX3_holds wsX3_holds) := goodIn_app (goodIn_r _ [5, 6, 7, 3] rfl (by decide +kernel)) ggX3_windFor_X3_holds
set_option maxRecDepth 20000 in
theorem ggX3_windFor_X3_windOf : GoodIn wsX3_windFor wsX3_windOf := goodIn_r _ [13, 14, 15, 16, 17, 3, 18, 19, 20, 21, 22, 23, 24, 25, 26, 27, 28, 29, 30, 31, 32, 33, 34, 35, 36, 37, 38, 39, 40, 41, 42, 43, 44, 45, 46, 47, 48, 49, 50, 51, 52, 53, 54, 55, 56, 57, 58] rfl (by decide +kernel)
set_option maxRecDepth 20000 in
theorem gX3_windFor_X3_windOf : GoodIn wsX3_windFor (wsV RX3 190 RX3 yX3_windOf wsX3_windOf) := goodIn_app (goodIn_r _ [10, 11, 12, 3] rfl (by decide +kernel)) ggX3_windFor_X3_windOf
theorem dX3_windFor_0 : decode cX3_windFor 0 = .ok (.aload_n 0, 1) := by decide +kernel
theorem dX3_windFor_1 : decode cX3_windFor 1 = .ok (.iload_n 1, 1) := by decide +kernel
theorem dX3_windFor_2 : decode cX3_windFor 2 = .ok (.iconst 1, 1) := by decide +kernel
theorem dX3_windFor_3 : decode cX3_windFor 3 = .ok (.bipush 9, 2) := by decide +kernel
theorem dX3_windFor_5 : decode cX3_windFor 5 = .ok (.invokestatic 29, 3) := by decide +kernel
theorem dX3_windFor_8 : decode cX3_windFor 8 = .ok (.ifCond .eq 7, 3) := by decide +kernel
theorem dX3_windFor_11 : decode cX3_windFor 11 = .ok (.iconst 0, 1) := by decide +kernel
theorem dX3_windFor_12 : decode cX3_windFor 12 = .ok (.goto 4, 3) := by decide +kernel
theorem dX3_windFor_15 : decode cX3_windFor 15 = .ok (.iconst 1, 1) := by decide +kernel
theorem dX3_windFor_16 : decode cX3_windFor 16 = .ok (.invokevirtual 73, 3) := by decide +kernel
theorem dX3_windFor_19 : decode cX3_windFor 19 = .ok (.ifCond .eq 11, 3) := by decide +kernel
theorem dX3_windFor_22 : decode cX3_windFor 22 = .ok (.aload_n 0, 1) := by decide +kernel
theorem dX3_windFor_23 : decode cX3_windFor 23 = .ok (.iload_n 1, 1) := by decide +kernel
theorem dX3_windFor_24 : decode cX3_windFor 24 = .ok (.invokevirtual 190, 3) := by decide +kernel
theorem dX3_windFor_27 : decode cX3_windFor 27 = .ok (.goto 4, 3) := by decide +kernel
theorem dX3_windFor_30 : decode cX3_windFor 30 = .ok (.iconst 0, 1) := by decide +kernel
theorem dX3_windFor_31 : decode cX3_windFor 31 = .ok (.ireturn, 1) := by decide +kernel
theorem dX3_share_0 : decode cX3_share 0 = .ok (.aload_n 0, 1) := by decide +kernel
theorem dX3_share_1 : decode cX3_share 1 = .ok (.getfield 7, 3) := by decide +kernel
theorem dX3_share_4 : decode cX3_share 4 = .ok (.sipush 139, 3) := by decide +kernel
theorem dX3_share_7 : decode cX3_share 7 = .ok (.iaload, 1) := by decide +kernel
theorem dX3_share_8 : decode cX3_share 8 = .ok (.aload_n 0, 1) := by decide +kernel
theorem dX3_share_9 : decode cX3_share 9 = .ok (.getfield 7, 3) := by decide +kernel
theorem dX3_share_12 : decode cX3_share 12 = .ok (.sipush 140, 3) := by decide +kernel
theorem dX3_share_15 : decode cX3_share 15 = .ok (.iaload, 1) := by decide +kernel
theorem dX3_share_16 : decode cX3_share 16 = .ok (.if_icmp .le 23, 3) := by decide +kernel
theorem dX3_share_19 : decode cX3_share 19 = .ok (.aload_n 0, 1) := by decide +kernel
theorem dX3_share_20 : decode cX3_share 20 = .ok (.getfield 7, 3) := by decide +kernel
theorem dX3_share_23 : decode cX3_share 23 = .ok (.sipush 139, 3) := by decide +kernel
theorem dX3_share_26 : decode cX3_share 26 = .ok (.iaload, 1) := by decide +kernel
theorem dX3_share_27 : decode cX3_share 27 = .ok (.aload_n 0, 1) := by decide +kernel
theorem dX3_share_28 : decode cX3_share 28 = .ok (.getfield 7, 3) := by decide +kernel
theorem dX3_share_31 : decode cX3_share 31 = .ok (.sipush 140, 3) := by decide +kernel
theorem dX3_share_34 : decode cX3_share 34 = .ok (.iaload, 1) := by decide +kernel
theorem dX3_share_35 : decode cX3_share 35 = .ok (.isub, 1) := by decide +kernel
theorem dX3_share_36 : decode cX3_share 36 = .ok (.goto 4, 3) := by decide +kernel
theorem dX3_share_39 : decode cX3_share 39 = .ok (.iconst 0, 1) := by decide +kernel
theorem dX3_share_40 : decode cX3_share 40 = .ok (.istore_n 1, 1) := by decide +kernel
theorem dX3_share_41 : decode cX3_share 41 = .ok (.aload_n 0, 1) := by decide +kernel
theorem dX3_share_42 : decode cX3_share 42 = .ok (.getfield 7, 3) := by decide +kernel
theorem dX3_share_45 : decode cX3_share 45 = .ok (.sipush 139, 3) := by decide +kernel
theorem dX3_share_48 : decode cX3_share 48 = .ok (.iaload, 1) := by decide +kernel
theorem dX3_share_49 : decode cX3_share 49 = .ok (.ifCond .ne 7, 3) := by decide +kernel
theorem dX3_share_52 : decode cX3_share 52 = .ok (.dconst 1, 1) := by decide +kernel
theorem dX3_share_53 : decode cX3_share 53 = .ok (.goto 15, 3) := by decide +kernel
theorem dX3_share_56 : decode cX3_share 56 = .ok (.iload_n 1, 1) := by decide +kernel
theorem dX3_share_57 : decode cX3_share 57 = .ok (.i2d, 1) := by decide +kernel
theorem dX3_share_58 : decode cX3_share 58 = .ok (.aload_n 0, 1) := by decide +kernel
theorem dX3_share_59 : decode cX3_share 59 = .ok (.getfield 7, 3) := by decide +kernel
theorem dX3_share_62 : decode cX3_share 62 = .ok (.sipush 139, 3) := by decide +kernel
theorem dX3_share_65 : decode cX3_share 65 = .ok (.iaload, 1) := by decide +kernel
theorem dX3_share_66 : decode cX3_share 66 = .ok (.i2d, 1) := by decide +kernel
theorem dX3_share_67 : decode cX3_share 67 = .ok (.ddiv, 1) := by decide +kernel
theorem dX3_share_68 : decode cX3_share 68 = .ok (.dreturn, 1) := by decide +kernel
set_option maxRecDepth 20000 in
theorem ggX3_clean_X3_share : GoodIn wsX3_clean wsX3_share := goodIn_r _ [6, 7, 8, 9, 10, 11, 12, 13, 14, 15, 16, 17, 18, 19, 20] rfl (by decide +kernel)
set_option maxRecDepth 20000 in
theorem gX3_clean_X3_share : GoodIn wsX3_clean (wsV RX3 193 RX3 yX3_share wsX3_share) := goodIn_app (goodIn_r _ [2, 3, 4, 5] rfl (by decide +kernel)) ggX3_clean_X3_share
theorem dX3_clean_0 : decode cX3_clean 0 = .ok (.aload_n 0, 1) := by decide +kernel
theorem dX3_clean_1 : decode cX3_clean 1 = .ok (.iconst 0, 1) := by decide +kernel
theorem dX3_clean_2 : decode cX3_clean 2 = .ok (.putfield 25, 3) := by decide +kernel
theorem dX3_clean_5 : decode cX3_clean 5 = .ok (.aload_n 0, 1) := by decide +kernel
theorem dX3_clean_6 : decode cX3_clean 6 = .ok (.invokevirtual 193, 3) := by decide +kernel
theorem dX3_clean_9 : decode cX3_clean 9 = .ok (.dreturn, 1) := by decide +kernel
theorem dX3_bitsOf_0 : decode cX3_bitsOf 0 = .ok (.dload_n 0, 1) := by decide +kernel
theorem dX3_bitsOf_1 : decode cX3_bitsOf 1 = .ok (.dconst 0, 1) := by decide +kernel
theorem dX3_bitsOf_2 : decode cX3_bitsOf 2 = .ok (.dcmp .l, 1) := by decide +kernel
theorem dX3_bitsOf_3 : decode cX3_bitsOf 3 = .ok (.ifCond .ne 5, 3) := by decide +kernel
theorem dX3_bitsOf_6 : decode cX3_bitsOf 6 = .ok (.lconst 0, 1) := by decide +kernel
theorem dX3_bitsOf_7 : decode cX3_bitsOf 7 = .ok (.lreturn, 1) := by decide +kernel
theorem dX3_bitsOf_8 : decode cX3_bitsOf 8 = .ok (.ldc2_w 197, 3) := by decide +kernel
theorem dX3_bitsOf_11 : decode cX3_bitsOf 11 = .ok (.lstore_n 2, 1) := by decide +kernel
theorem dX3_bitsOf_12 : decode cX3_bitsOf 12 = .ok (.dload_n 0, 1) := by decide +kernel
theorem dX3_bitsOf_13 : decode cX3_bitsOf 13 = .ok (.dstore 4, 2) := by decide +kernel
theorem dX3_bitsOf_15 : decode cX3_bitsOf 15 = .ok (.dload 4, 2) := by decide +kernel
theorem dX3_bitsOf_17 : decode cX3_bitsOf 17 = .ok (.dconst 1, 1) := by decide +kernel
theorem dX3_bitsOf_18 : decode cX3_bitsOf 18 = .ok (.dcmp .g, 1) := by decide +kernel
theorem dX3_bitsOf_19 : decode cX3_bitsOf 19 = .ok (.ifCond .ge 18, 3) := by decide +kernel
theorem dX3_bitsOf_22 : decode cX3_bitsOf 22 = .ok (.dload 4, 2) := by decide +kernel
theorem dX3_bitsOf_24 : decode cX3_bitsOf 24 = .ok (.ldc2_w 199, 3) := by decide +kernel
theorem dX3_bitsOf_27 : decode cX3_bitsOf 27 = .ok (.dmul, 1) := by decide +kernel
theorem dX3_bitsOf_28 : decode cX3_bitsOf 28 = .ok (.dstore 4, 2) := by decide +kernel
theorem dX3_bitsOf_30 : decode cX3_bitsOf 30 = .ok (.lload_n 2, 1) := by decide +kernel
theorem dX3_bitsOf_31 : decode cX3_bitsOf 31 = .ok (.lconst 1, 1) := by decide +kernel
theorem dX3_bitsOf_32 : decode cX3_bitsOf 32 = .ok (.lsub, 1) := by decide +kernel
theorem dX3_bitsOf_33 : decode cX3_bitsOf 33 = .ok (.lstore_n 2, 1) := by decide +kernel
theorem dX3_bitsOf_34 : decode cX3_bitsOf 34 = .ok (.goto (-19), 3) := by decide +kernel
theorem dX3_bitsOf_37 : decode cX3_bitsOf 37 = .ok (.lload_n 2, 1) := by decide +kernel
theorem dX3_bitsOf_38 : decode cX3_bitsOf 38 = .ok (.ldc2_w 201, 3) := by decide +kernel
theorem dX3_bitsOf_41 : decode cX3_bitsOf 41 = .ok (.lmul, 1) := by decide +kernel
theorem dX3_bitsOf_42 : decode cX3_bitsOf 42 = .ok (.dload 4, 2) := by decide +kernel
theorem dX3_bitsOf_44 : decode cX3_bitsOf 44 = .ok (.dconst 1, 1) := by decide +kernel
theorem dX3_bitsOf_45 : decode cX3_bitsOf 45 = .ok (.dsub, 1) := by decide +kernel
theorem dX3_bitsOf_46 : decode cX3_bitsOf 46 = .ok (.ldc2_w 203, 3) := by decide +kernel
theorem dX3_bitsOf_49 : decode cX3_bitsOf 49 = .ok (.dmul, 1) := by decide +kernel
theorem dX3_bitsOf_50 : decode cX3_bitsOf 50 = .ok (.d2l, 1) := by decide +kernel
theorem dX3_bitsOf_51 : decode cX3_bitsOf 51 = .ok (.ladd, 1) := by decide +kernel
theorem dX3_bitsOf_52 : decode cX3_bitsOf 52 = .ok (.lreturn, 1) := by decide +kernel
theorem dX3_digestOne_0 : decode cX3_digestOne 0 = .ok (.aload_n 0, 1) := by decide +kernel
theorem dX3_digestOne_1 : decode cX3_digestOne 1 = .ok (.ldc2_w 205, 3) := by decide +kernel
theorem dX3_digestOne_4 : decode cX3_digestOne 4 = .ok (.aload_n 0, 1) := by decide +kernel
theorem dX3_digestOne_5 : decode cX3_digestOne 5 = .ok (.getfield 207, 3) := by decide +kernel
theorem dX3_digestOne_8 : decode cX3_digestOne 8 = .ok (.lmul, 1) := by decide +kernel
theorem dX3_digestOne_9 : decode cX3_digestOne 9 = .ok (.lload_n 1, 1) := by decide +kernel
theorem dX3_digestOne_10 : decode cX3_digestOne 10 = .ok (.ladd, 1) := by decide +kernel
theorem dX3_digestOne_11 : decode cX3_digestOne 11 = .ok (.putfield 207, 3) := by decide +kernel
theorem dX3_digestOne_14 : decode cX3_digestOne 14 = .ok (.return_, 1) := by decide +kernel
set_option maxRecDepth 20000 in
theorem ggX3_digestCylinder_X3_ofTune : GoodIn wsX3_digestCylinder wsX3_ofTune := goodIn_r _ [6, 7, 8, 9, 5, 10, 1, 11, 12, 13, 14, 15, 16, 17, 18, 19, 20, 21, 22, 23, 24, 25, 26, 27, 28, 29, 30, 31, 32, 50, 51, 52, 53, 54, 55, 56, 57, 58, 59, 60, 61, 62] rfl (by decide +kernel)
set_option maxRecDepth 20000 in
theorem gX3_digestCylinder_X3_ofTune : GoodIn wsX3_digestCylinder (wsV RX3 163 RX3 yX3_ofTune wsX3_ofTune) := goodIn_app (goodIn_r _ [2, 3, 4, 5] rfl (by decide +kernel)) ggX3_digestCylinder_X3_ofTune
set_option maxRecDepth 20000 in
theorem ggX3_digestCylinder_X3_digestOne : GoodIn wsX3_digestCylinder wsX3_digestOne := goodIn_r _ [36, 37, 38, 50, 51, 52, 53, 54, 55, 56, 57, 58, 59, 60, 61, 62] rfl (by decide +kernel)
set_option maxRecDepth 20000 in
theorem gX3_digestCylinder_X3_digestOne : GoodIn wsX3_digestCylinder (wsV RX3 211 RX3 yX3_digestOne wsX3_digestOne) := goodIn_app (goodIn_r _ [33, 34, 35, 5] rfl (by decide +kernel)) ggX3_digestCylinder_X3_digestOne
set_option maxRecDepth 20000 in
theorem ggX3_digestCylinder_X3_pinsAt : GoodIn wsX3_digestCylinder wsX3_pinsAt := goodIn_r _ [24, 25, 26, 27, 5, 28, 1, 11, 12, 13, 50, 51, 52, 53, 54, 55, 56, 57, 58, 59, 60, 61, 62] rfl (by decide +kernel)
set_option maxRecDepth 20000 in
theorem gX3_digestCylinder_X3_pinsAt : GoodIn wsX3_digestCylinder (wsV RX3 56 RX3 yX3_pinsAt wsX3_pinsAt) := goodIn_app (goodIn_r _ [21, 22, 23, 5] rfl (by decide +kernel)) ggX3_digestCylinder_X3_pinsAt
set_option maxRecDepth 20000 in
theorem ggX3_digestCylinder_X3_ofTooth : GoodIn wsX3_digestCylinder wsX3_ofTooth := goodIn_r _ [42, 1, 43, 44, 5, 45, 46, 47, 48, 49, 11, 12, 13, 50, 51, 52, 53, 54, 55, 56, 57, 58, 59, 60, 61, 62] rfl (by decide +kernel)
set_option maxRecDepth 20000 in
theorem gX3_digestCylinder_X3_ofTooth : GoodIn wsX3_digestCylinder (wsV RX3 169 RX3 yX3_ofTooth wsX3_ofTooth) := goodIn_app (goodIn_r _ [39, 40, 41, 5] rfl (by decide +kernel)) ggX3_digestCylinder_X3_ofTooth
theorem dX3_digestCylinder_0 : decode cX3_digestCylinder 0 = .ok (.iconst 0, 1) := by decide +kernel
theorem dX3_digestCylinder_1 : decode cX3_digestCylinder 1 = .ok (.istore_n 1, 1) := by decide +kernel
theorem dX3_digestCylinder_2 : decode cX3_digestCylinder 2 = .ok (.iload_n 1, 1) := by decide +kernel
theorem dX3_digestCylinder_3 : decode cX3_digestCylinder 3 = .ok (.iconst 3, 1) := by decide +kernel
theorem dX3_digestCylinder_4 : decode cX3_digestCylinder 4 = .ok (.if_icmp .ge 58, 3) := by decide +kernel
theorem dX3_digestCylinder_7 : decode cX3_digestCylinder 7 = .ok (.iconst 0, 1) := by decide +kernel
theorem dX3_digestCylinder_8 : decode cX3_digestCylinder 8 = .ok (.istore_n 2, 1) := by decide +kernel
theorem dX3_digestCylinder_9 : decode cX3_digestCylinder 9 = .ok (.iload_n 2, 1) := by decide +kernel
theorem dX3_digestCylinder_10 : decode cX3_digestCylinder 10 = .ok (.iconst 5, 1) := by decide +kernel
theorem dX3_digestCylinder_11 : decode cX3_digestCylinder 11 = .ok (.if_icmp .ge 20, 3) := by decide +kernel
theorem dX3_digestCylinder_14 : decode cX3_digestCylinder 14 = .ok (.aload_n 0, 1) := by decide +kernel
theorem dX3_digestCylinder_15 : decode cX3_digestCylinder 15 = .ok (.aload_n 0, 1) := by decide +kernel
theorem dX3_digestCylinder_16 : decode cX3_digestCylinder 16 = .ok (.iload_n 1, 1) := by decide +kernel
theorem dX3_digestCylinder_17 : decode cX3_digestCylinder 17 = .ok (.iload_n 2, 1) := by decide +kernel
theorem dX3_digestCylinder_18 : decode cX3_digestCylinder 18 = .ok (.invokevirtual 163, 3) := by decide +kernel
theorem dX3_digestCylinder_21 : decode cX3_digestCylinder 21 = .ok (.i2l, 1) := by decide +kernel
theorem dX3_digestCylinder_22 : decode cX3_digestCylinder 22 = .ok (.invokevirtual 211, 3) := by decide +kernel
theorem dX3_digestCylinder_25 : decode cX3_digestCylinder 25 = .ok (.iinc 2 1, 3) := by decide +kernel
theorem dX3_digestCylinder_28 : decode cX3_digestCylinder 28 = .ok (.goto (-19), 3) := by decide +kernel
theorem dX3_digestCylinder_31 : decode cX3_digestCylinder 31 = .ok (.iconst 0, 1) := by decide +kernel
theorem dX3_digestCylinder_32 : decode cX3_digestCylinder 32 = .ok (.istore_n 2, 1) := by decide +kernel
theorem dX3_digestCylinder_33 : decode cX3_digestCylinder 33 = .ok (.iload_n 2, 1) := by decide +kernel
theorem dX3_digestCylinder_34 : decode cX3_digestCylinder 34 = .ok (.bipush 32, 2) := by decide +kernel
theorem dX3_digestCylinder_36 : decode cX3_digestCylinder 36 = .ok (.if_icmp .ge 20, 3) := by decide +kernel
theorem dX3_digestCylinder_39 : decode cX3_digestCylinder 39 = .ok (.aload_n 0, 1) := by decide +kernel
theorem dX3_digestCylinder_40 : decode cX3_digestCylinder 40 = .ok (.aload_n 0, 1) := by decide +kernel
theorem dX3_digestCylinder_41 : decode cX3_digestCylinder 41 = .ok (.iload_n 1, 1) := by decide +kernel
theorem dX3_digestCylinder_42 : decode cX3_digestCylinder 42 = .ok (.iload_n 2, 1) := by decide +kernel
theorem dX3_digestCylinder_43 : decode cX3_digestCylinder 43 = .ok (.invokevirtual 56, 3) := by decide +kernel
theorem dX3_digestCylinder_46 : decode cX3_digestCylinder 46 = .ok (.i2l, 1) := by decide +kernel
theorem dX3_digestCylinder_47 : decode cX3_digestCylinder 47 = .ok (.invokevirtual 211, 3) := by decide +kernel
theorem dX3_digestCylinder_50 : decode cX3_digestCylinder 50 = .ok (.iinc 2 1, 3) := by decide +kernel
theorem dX3_digestCylinder_53 : decode cX3_digestCylinder 53 = .ok (.goto (-20), 3) := by decide +kernel
theorem dX3_digestCylinder_56 : decode cX3_digestCylinder 56 = .ok (.iinc 1 1, 3) := by decide +kernel
theorem dX3_digestCylinder_59 : decode cX3_digestCylinder 59 = .ok (.goto (-57), 3) := by decide +kernel
theorem dX3_digestCylinder_62 : decode cX3_digestCylinder 62 = .ok (.iconst 0, 1) := by decide +kernel
theorem dX3_digestCylinder_63 : decode cX3_digestCylinder 63 = .ok (.istore_n 1, 1) := by decide +kernel
theorem dX3_digestCylinder_64 : decode cX3_digestCylinder 64 = .ok (.iload_n 1, 1) := by decide +kernel
theorem dX3_digestCylinder_65 : decode cX3_digestCylinder 65 = .ok (.bipush 60, 2) := by decide +kernel
theorem dX3_digestCylinder_67 : decode cX3_digestCylinder 67 = .ok (.if_icmp .ge 24, 3) := by decide +kernel
theorem dX3_digestCylinder_70 : decode cX3_digestCylinder 70 = .ok (.aload_n 0, 1) := by decide +kernel
theorem dX3_digestCylinder_71 : decode cX3_digestCylinder 71 = .ok (.aload_n 0, 1) := by decide +kernel
theorem dX3_digestCylinder_72 : decode cX3_digestCylinder 72 = .ok (.iload_n 1, 1) := by decide +kernel
theorem dX3_digestCylinder_73 : decode cX3_digestCylinder 73 = .ok (.iconst 5, 1) := by decide +kernel
theorem dX3_digestCylinder_74 : decode cX3_digestCylinder 74 = .ok (.idiv, 1) := by decide +kernel
theorem dX3_digestCylinder_75 : decode cX3_digestCylinder 75 = .ok (.iload_n 1, 1) := by decide +kernel
theorem dX3_digestCylinder_76 : decode cX3_digestCylinder 76 = .ok (.iconst 5, 1) := by decide +kernel
theorem dX3_digestCylinder_77 : decode cX3_digestCylinder 77 = .ok (.irem, 1) := by decide +kernel
theorem dX3_digestCylinder_78 : decode cX3_digestCylinder 78 = .ok (.invokevirtual 169, 3) := by decide +kernel
theorem dX3_digestCylinder_81 : decode cX3_digestCylinder 81 = .ok (.i2l, 1) := by decide +kernel
theorem dX3_digestCylinder_82 : decode cX3_digestCylinder 82 = .ok (.invokevirtual 211, 3) := by decide +kernel
theorem dX3_digestCylinder_85 : decode cX3_digestCylinder 85 = .ok (.iinc 1 1, 3) := by decide +kernel
theorem dX3_digestCylinder_88 : decode cX3_digestCylinder 88 = .ok (.goto (-24), 3) := by decide +kernel
theorem dX3_digestCylinder_91 : decode cX3_digestCylinder 91 = .ok (.iconst 0, 1) := by decide +kernel
theorem dX3_digestCylinder_92 : decode cX3_digestCylinder 92 = .ok (.istore_n 1, 1) := by decide +kernel
theorem dX3_digestCylinder_93 : decode cX3_digestCylinder 93 = .ok (.iload_n 1, 1) := by decide +kernel
theorem dX3_digestCylinder_94 : decode cX3_digestCylinder 94 = .ok (.iconst 2, 1) := by decide +kernel
theorem dX3_digestCylinder_95 : decode cX3_digestCylinder 95 = .ok (.aload_n 0, 1) := by decide +kernel
theorem dX3_digestCylinder_96 : decode cX3_digestCylinder 96 = .ok (.getfield 7, 3) := by decide +kernel
theorem dX3_digestCylinder_99 : decode cX3_digestCylinder 99 = .ok (.sipush 132, 3) := by decide +kernel
theorem dX3_digestCylinder_102 : decode cX3_digestCylinder 102 = .ok (.iaload, 1) := by decide +kernel
theorem dX3_digestCylinder_103 : decode cX3_digestCylinder 103 = .ok (.imul, 1) := by decide +kernel
theorem dX3_digestCylinder_104 : decode cX3_digestCylinder 104 = .ok (.if_icmp .ge 23, 3) := by decide +kernel
theorem dX3_digestCylinder_107 : decode cX3_digestCylinder 107 = .ok (.aload_n 0, 1) := by decide +kernel
theorem dX3_digestCylinder_108 : decode cX3_digestCylinder 108 = .ok (.aload_n 0, 1) := by decide +kernel
theorem dX3_digestCylinder_109 : decode cX3_digestCylinder 109 = .ok (.getfield 7, 3) := by decide +kernel
theorem dX3_digestCylinder_112 : decode cX3_digestCylinder 112 = .ok (.bipush 84, 2) := by decide +kernel
theorem dX3_digestCylinder_114 : decode cX3_digestCylinder 114 = .ok (.iload_n 1, 1) := by decide +kernel
theorem dX3_digestCylinder_115 : decode cX3_digestCylinder 115 = .ok (.iadd, 1) := by decide +kernel
theorem dX3_digestCylinder_116 : decode cX3_digestCylinder 116 = .ok (.iaload, 1) := by decide +kernel
theorem dX3_digestCylinder_117 : decode cX3_digestCylinder 117 = .ok (.i2l, 1) := by decide +kernel
theorem dX3_digestCylinder_118 : decode cX3_digestCylinder 118 = .ok (.invokevirtual 211, 3) := by decide +kernel
theorem dX3_digestCylinder_121 : decode cX3_digestCylinder 121 = .ok (.iinc 1 1, 3) := by decide +kernel
theorem dX3_digestCylinder_124 : decode cX3_digestCylinder 124 = .ok (.goto (-31), 3) := by decide +kernel
theorem dX3_digestCylinder_127 : decode cX3_digestCylinder 127 = .ok (.return_, 1) := by decide +kernel
set_option maxRecDepth 20000 in
theorem ggX3_digest_X3_counted : GoodIn wsX3_digest wsX3_counted := goodIn_r _ [10, 11, 12, 13, 14, 15, 9, 16, 17, 18, 19, 20, 21, 22, 23, 24, 25, 26, 27, 28, 29, 30, 31, 32, 33, 131, 132, 133, 134, 135, 136, 137, 138, 139, 140, 141, 142, 143] rfl (by decide +kernel)
set_option maxRecDepth 20000 in
theorem gX3_digest_X3_counted : GoodIn wsX3_digest (wsV RX3 175 RX3 yX3_counted wsX3_counted) := goodIn_app (goodIn_r _ [6, 7, 8, 9] rfl (by decide +kernel)) ggX3_digest_X3_counted
set_option maxRecDepth 20000 in
theorem ggX3_digest_X3_digestOne : GoodIn wsX3_digest wsX3_digestOne := goodIn_r _ [37, 38, 3, 131, 132, 133, 134, 135, 136, 137, 138, 139, 140, 141, 142, 143] rfl (by decide +kernel)
set_option maxRecDepth 20000 in
theorem gX3_digest_X3_digestOne : GoodIn wsX3_digest (wsV RX3 211 RX3 yX3_digestOne wsX3_digestOne) := goodIn_app (goodIn_r _ [34, 35, 36, 9] rfl (by decide +kernel)) ggX3_digest_X3_digestOne
set_option maxRecDepth 20000 in
theorem ggX3_digest_X3_digestCylinder : GoodIn wsX3_digest wsX3_digestCylinder := goodIn_r _ [42, 11, 43, 44, 45, 9, 46, 24, 25, 26, 27, 28, 29, 30, 31, 32, 33, 47, 48, 49, 50, 51, 52, 53, 54, 55, 56, 57, 58, 59, 60, 61, 62, 34, 35, 36, 37, 38, 3, 63, 64, 65, 66, 17, 18, 19, 67, 68, 69, 70, 131, 132, 133, 134, 135, 136, 137, 138, 139, 140, 141, 142, 143] rfl (by decide +kernel)
set_option maxRecDepth 20000 in
theorem gX3_digest_X3_digestCylinder : GoodIn wsX3_digest (wsV RX3 217 RX3 yX3_digestCylinder wsX3_digestCylinder) := goodIn_app (goodIn_r _ [39, 40, 41, 9] rfl (by decide +kernel)) ggX3_digest_X3_digestCylinder
set_option maxRecDepth 20000 in
theorem ggX3_digest_X3_wouldBe : GoodIn wsX3_digest wsX3_wouldBe := goodIn_r _ [74, 11, 75, 76, 77, 78, 9, 79, 13, 14, 15, 16, 17, 18, 19, 80, 81, 82, 83, 84, 85, 86, 87, 88, 89, 90, 91, 92, 93, 94, 95, 96, 97, 98, 99, 55, 56, 57, 58, 28, 29, 30, 100, 101, 102, 103, 104, 105, 106, 107, 108, 109, 110, 111, 131, 132, 133, 134, 135, 136, 137, 138, 139, 140, 141, 142, 143] rfl (by decide +kernel)
set_option maxRecDepth 20000 in
theorem gX3_digest_X3_wouldBe : GoodIn wsX3_digest (wsV RX3 184 RX3 yX3_wouldBe wsX3_wouldBe) := goodIn_app (goodIn_r _ [71, 72, 73, 9] rfl (by decide +kernel)) ggX3_digest_X3_wouldBe
set_option maxRecDepth 20000 in
theorem ggX3_digest_X3_quietVanes : GoodIn wsX3_digest wsX3_quietVanes := goodIn_r _ [115, 11, 71, 72, 73, 9, 74, 75, 76, 77, 78, 79, 13, 14, 15, 16, 17, 18, 19, 80, 81, 82, 83, 84, 85, 86, 87, 88, 89, 90, 91, 92, 93, 94, 95, 96, 97, 98, 99, 55, 56, 57, 58, 28, 29, 30, 100, 101, 102, 103, 104, 105, 106, 107, 108, 109, 110, 111, 131, 132, 133, 134, 135, 136, 137, 138, 139, 140, 141, 142, 143] rfl (by decide +kernel)
set_option maxRecDepth 20000 in
theorem gX3_digest_X3_quietVanes : GoodIn wsX3_digest (wsV RX3 187 RX3 yX3_quietVanes wsX3_quietVanes) := goodIn_app (goodIn_r _ [112, 113, 114, 9] rfl (by decide +kernel)) ggX3_digest_X3_quietVanes
set_option maxRecDepth 20000 in
theorem ggX3_digest_X3_windOf : GoodIn wsX3_digest wsX3_windOf := goodIn_r _ [119, 11, 76, 77, 78, 9, 79, 75, 88, 89, 90, 91, 92, 93, 94, 95, 96, 97, 98, 99, 55, 56, 57, 58, 28, 29, 30, 17, 18, 19, 108, 109, 110, 111, 131, 132, 133, 134, 135, 136, 137, 138, 139, 140, 141, 142, 143] rfl (by decide +kernel)
set_option maxRecDepth 20000 in
theorem gX3_digest_X3_windOf : GoodIn wsX3_digest (wsV RX3 190 RX3 yX3_windOf wsX3_windOf) := goodIn_app (goodIn_r _ [116, 117, 118, 9] rfl (by decide +kernel)) ggX3_digest_X3_windOf
set_option maxRecDepth 20000 in
theorem ggX3_digest_X3_share : GoodIn wsX3_digest wsX3_share := goodIn_r _ [123, 11, 131, 132, 133, 134, 135, 136, 137, 138, 139, 140, 141, 142, 143] rfl (by decide +kernel)
set_option maxRecDepth 20000 in
theorem gX3_digest_X3_share : GoodIn wsX3_digest (wsV RX3 193 RX3 yX3_share wsX3_share) := goodIn_app (goodIn_r _ [120, 121, 122, 9] rfl (by decide +kernel)) ggX3_digest_X3_share
set_option maxRecDepth 20000 in
theorem ggX3_digest_X3_bitsOf : GoodIn wsX3_digest wsX3_bitsOf := goodIn_r _ [126, 127, 128, 129, 130] rfl (by decide +kernel)
set_option maxRecDepth 20000 in
theorem gX3_digest_X3_bitsOf : GoodIn wsX3_digest (va_wsS RX3 220 yX3_bitsOf wsX3_bitsOf) := goodIn_app (goodIn_r _ [124, 125, 9] rfl (by decide +kernel)) ggX3_digest_X3_bitsOf
theorem dX3_digest_0 : decode cX3_digest 0 = .ok (.aload_n 0, 1) := by decide +kernel
theorem dX3_digest_1 : decode cX3_digest 1 = .ok (.iconst 0, 1) := by decide +kernel
theorem dX3_digest_2 : decode cX3_digest 2 = .ok (.putfield 25, 3) := by decide +kernel
theorem dX3_digest_5 : decode cX3_digest 5 = .ok (.aload_n 0, 1) := by decide +kernel
theorem dX3_digest_6 : decode cX3_digest 6 = .ok (.ldc2_w 215, 3) := by decide +kernel
theorem dX3_digest_9 : decode cX3_digest 9 = .ok (.putfield 207, 3) := by decide +kernel
theorem dX3_digest_12 : decode cX3_digest 12 = .ok (.iconst 0, 1) := by decide +kernel
theorem dX3_digest_13 : decode cX3_digest 13 = .ok (.istore_n 1, 1) := by decide +kernel
theorem dX3_digest_14 : decode cX3_digest 14 = .ok (.iload_n 1, 1) := by decide +kernel
theorem dX3_digest_15 : decode cX3_digest 15 = .ok (.bipush 18, 2) := by decide +kernel
theorem dX3_digest_17 : decode cX3_digest 17 = .ok (.if_icmp .ge 19, 3) := by decide +kernel
theorem dX3_digest_20 : decode cX3_digest 20 = .ok (.aload_n 0, 1) := by decide +kernel
theorem dX3_digest_21 : decode cX3_digest 21 = .ok (.aload_n 0, 1) := by decide +kernel
theorem dX3_digest_22 : decode cX3_digest 22 = .ok (.iload_n 1, 1) := by decide +kernel
theorem dX3_digest_23 : decode cX3_digest 23 = .ok (.invokevirtual 175, 3) := by decide +kernel
theorem dX3_digest_26 : decode cX3_digest 26 = .ok (.i2l, 1) := by decide +kernel
theorem dX3_digest_27 : decode cX3_digest 27 = .ok (.invokevirtual 211, 3) := by decide +kernel
theorem dX3_digest_30 : decode cX3_digest 30 = .ok (.iinc 1 1, 3) := by decide +kernel
theorem dX3_digest_33 : decode cX3_digest 33 = .ok (.goto (-19), 3) := by decide +kernel
theorem dX3_digest_36 : decode cX3_digest 36 = .ok (.aload_n 0, 1) := by decide +kernel
theorem dX3_digest_37 : decode cX3_digest 37 = .ok (.invokevirtual 217, 3) := by decide +kernel
theorem dX3_digest_40 : decode cX3_digest 40 = .ok (.iconst 0, 1) := by decide +kernel
theorem dX3_digest_41 : decode cX3_digest 41 = .ok (.istore_n 1, 1) := by decide +kernel
theorem dX3_digest_42 : decode cX3_digest 42 = .ok (.iload_n 1, 1) := by decide +kernel
theorem dX3_digest_43 : decode cX3_digest 43 = .ok (.iconst 5, 1) := by decide +kernel
theorem dX3_digest_44 : decode cX3_digest 44 = .ok (.if_icmp .ge 21, 3) := by decide +kernel
theorem dX3_digest_47 : decode cX3_digest 47 = .ok (.aload_n 0, 1) := by decide +kernel
theorem dX3_digest_48 : decode cX3_digest 48 = .ok (.aload_n 0, 1) := by decide +kernel
theorem dX3_digest_49 : decode cX3_digest 49 = .ok (.bipush 40, 2) := by decide +kernel
theorem dX3_digest_51 : decode cX3_digest 51 = .ok (.iload_n 1, 1) := by decide +kernel
theorem dX3_digest_52 : decode cX3_digest 52 = .ok (.invokevirtual 184, 3) := by decide +kernel
theorem dX3_digest_55 : decode cX3_digest 55 = .ok (.i2l, 1) := by decide +kernel
theorem dX3_digest_56 : decode cX3_digest 56 = .ok (.invokevirtual 211, 3) := by decide +kernel
theorem dX3_digest_59 : decode cX3_digest 59 = .ok (.iinc 1 1, 3) := by decide +kernel
theorem dX3_digest_62 : decode cX3_digest 62 = .ok (.goto (-20), 3) := by decide +kernel
theorem dX3_digest_65 : decode cX3_digest 65 = .ok (.aload_n 0, 1) := by decide +kernel
theorem dX3_digest_66 : decode cX3_digest 66 = .ok (.aload_n 0, 1) := by decide +kernel
theorem dX3_digest_67 : decode cX3_digest 67 = .ok (.invokevirtual 187, 3) := by decide +kernel
theorem dX3_digest_70 : decode cX3_digest 70 = .ok (.i2l, 1) := by decide +kernel
theorem dX3_digest_71 : decode cX3_digest 71 = .ok (.invokevirtual 211, 3) := by decide +kernel
theorem dX3_digest_74 : decode cX3_digest 74 = .ok (.aload_n 0, 1) := by decide +kernel
theorem dX3_digest_75 : decode cX3_digest 75 = .ok (.aload_n 0, 1) := by decide +kernel
theorem dX3_digest_76 : decode cX3_digest 76 = .ok (.iconst 2, 1) := by decide +kernel
theorem dX3_digest_77 : decode cX3_digest 77 = .ok (.invokevirtual 190, 3) := by decide +kernel
theorem dX3_digest_80 : decode cX3_digest 80 = .ok (.i2l, 1) := by decide +kernel
theorem dX3_digest_81 : decode cX3_digest 81 = .ok (.invokevirtual 211, 3) := by decide +kernel
theorem dX3_digest_84 : decode cX3_digest 84 = .ok (.aload_n 0, 1) := by decide +kernel
theorem dX3_digest_85 : decode cX3_digest 85 = .ok (.aload_n 0, 1) := by decide +kernel
theorem dX3_digest_86 : decode cX3_digest 86 = .ok (.invokevirtual 193, 3) := by decide +kernel
theorem dX3_digest_89 : decode cX3_digest 89 = .ok (.invokestatic 220, 3) := by decide +kernel
theorem dX3_digest_92 : decode cX3_digest 92 = .ok (.invokevirtual 211, 3) := by decide +kernel
theorem dX3_digest_95 : decode cX3_digest 95 = .ok (.aload_n 0, 1) := by decide +kernel
theorem dX3_digest_96 : decode cX3_digest 96 = .ok (.aload_n 0, 1) := by decide +kernel
theorem dX3_digest_97 : decode cX3_digest 97 = .ok (.getfield 114, 3) := by decide +kernel
theorem dX3_digest_100 : decode cX3_digest 100 = .ok (.i2l, 1) := by decide +kernel
theorem dX3_digest_101 : decode cX3_digest 101 = .ok (.invokevirtual 211, 3) := by decide +kernel
theorem dX3_digest_104 : decode cX3_digest 104 = .ok (.iconst 0, 1) := by decide +kernel
theorem dX3_digest_105 : decode cX3_digest 105 = .ok (.istore_n 1, 1) := by decide +kernel
theorem dX3_digest_106 : decode cX3_digest 106 = .ok (.iload_n 1, 1) := by decide +kernel
theorem dX3_digest_107 : decode cX3_digest 107 = .ok (.aload_n 0, 1) := by decide +kernel
theorem dX3_digest_108 : decode cX3_digest 108 = .ok (.getfield 114, 3) := by decide +kernel
theorem dX3_digest_111 : decode cX3_digest 111 = .ok (.if_icmp .ge 20, 3) := by decide +kernel
theorem dX3_digest_114 : decode cX3_digest 114 = .ok (.aload_n 0, 1) := by decide +kernel
theorem dX3_digest_115 : decode cX3_digest 115 = .ok (.aload_n 0, 1) := by decide +kernel
theorem dX3_digest_116 : decode cX3_digest 116 = .ok (.getfield 22, 3) := by decide +kernel
theorem dX3_digest_119 : decode cX3_digest 119 = .ok (.iload_n 1, 1) := by decide +kernel
theorem dX3_digest_120 : decode cX3_digest 120 = .ok (.iaload, 1) := by decide +kernel
theorem dX3_digest_121 : decode cX3_digest 121 = .ok (.i2l, 1) := by decide +kernel
theorem dX3_digest_122 : decode cX3_digest 122 = .ok (.invokevirtual 211, 3) := by decide +kernel
theorem dX3_digest_125 : decode cX3_digest 125 = .ok (.iinc 1 1, 3) := by decide +kernel
theorem dX3_digest_128 : decode cX3_digest 128 = .ok (.goto (-22), 3) := by decide +kernel
theorem dX3_digest_131 : decode cX3_digest 131 = .ok (.aload_n 0, 1) := by decide +kernel
theorem dX3_digest_132 : decode cX3_digest 132 = .ok (.getfield 207, 3) := by decide +kernel
theorem dX3_digest_135 : decode cX3_digest 135 = .ok (.lreturn, 1) := by decide +kernel
