theorem dX1_init_0 : decode cX1_init 0 = .ok (.aload_n 0, 1) := by decide +kernel
theorem dX1_init_1 : decode cX1_init 1 = .ok (.invokespecial 3, 3) := by decide +kernel
theorem dX1_init_4 : decode cX1_init 4 = .ok (.aload_n 0, 1) := by decide +kernel
theorem dX1_init_5 : decode cX1_init 5 = .ok (.bipush 96, 2) := by decide +kernel
theorem dX1_init_7 : decode cX1_init 7 = .ok (.newarray .int, 2) := by decide +kernel
theorem dX1_init_9 : decode cX1_init 9 = .ok (.putfield 9, 3) := by decide +kernel
theorem dX1_init_12 : decode cX1_init 12 = .ok (.aload_n 0, 1) := by decide +kernel
theorem dX1_init_13 : decode cX1_init 13 = .ok (.bipush 12, 2) := by decide +kernel
theorem dX1_init_15 : decode cX1_init 15 = .ok (.newarray .int, 2) := by decide +kernel
theorem dX1_init_17 : decode cX1_init 17 = .ok (.putfield 15, 3) := by decide +kernel
theorem dX1_init_20 : decode cX1_init 20 = .ok (.aload_n 0, 1) := by decide +kernel
theorem dX1_init_21 : decode cX1_init 21 = .ok (.bipush 12, 2) := by decide +kernel
theorem dX1_init_23 : decode cX1_init 23 = .ok (.newarray .int, 2) := by decide +kernel
theorem dX1_init_25 : decode cX1_init 25 = .ok (.putfield 18, 3) := by decide +kernel
theorem dX1_init_28 : decode cX1_init 28 = .ok (.aload_n 0, 1) := by decide +kernel
theorem dX1_init_29 : decode cX1_init 29 = .ok (.bipush 12, 2) := by decide +kernel
theorem dX1_init_31 : decode cX1_init 31 = .ok (.newarray .int, 2) := by decide +kernel
theorem dX1_init_33 : decode cX1_init 33 = .ok (.putfield 21, 3) := by decide +kernel
theorem dX1_init_36 : decode cX1_init 36 = .ok (.aload_n 0, 1) := by decide +kernel
theorem dX1_init_37 : decode cX1_init 37 = .ok (.bipush 24, 2) := by decide +kernel
theorem dX1_init_39 : decode cX1_init 39 = .ok (.newarray .int, 2) := by decide +kernel
theorem dX1_init_41 : decode cX1_init 41 = .ok (.putfield 24, 3) := by decide +kernel
theorem dX1_init_44 : decode cX1_init 44 = .ok (.aload_n 0, 1) := by decide +kernel
theorem dX1_init_45 : decode cX1_init 45 = .ok (.bipush 24, 2) := by decide +kernel
theorem dX1_init_47 : decode cX1_init 47 = .ok (.newarray .int, 2) := by decide +kernel
theorem dX1_init_49 : decode cX1_init 49 = .ok (.putfield 27, 3) := by decide +kernel
theorem dX1_init_52 : decode cX1_init 52 = .ok (.aload_n 0, 1) := by decide +kernel
theorem dX1_init_53 : decode cX1_init 53 = .ok (.iconst 5, 1) := by decide +kernel
theorem dX1_init_54 : decode cX1_init 54 = .ok (.newarray .int, 2) := by decide +kernel
theorem dX1_init_56 : decode cX1_init 56 = .ok (.dup, 1) := by decide +kernel
theorem dX1_init_57 : decode cX1_init 57 = .ok (.iconst 0, 1) := by decide +kernel
theorem dX1_init_58 : decode cX1_init 58 = .ok (.bipush 40, 2) := by decide +kernel
theorem dX1_init_60 : decode cX1_init 60 = .ok (.iastore, 1) := by decide +kernel
theorem dX1_init_61 : decode cX1_init 61 = .ok (.dup, 1) := by decide +kernel
theorem dX1_init_62 : decode cX1_init 62 = .ok (.iconst 1, 1) := by decide +kernel
theorem dX1_init_63 : decode cX1_init 63 = .ok (.bipush 6, 2) := by decide +kernel
theorem dX1_init_65 : decode cX1_init 65 = .ok (.iastore, 1) := by decide +kernel
theorem dX1_init_66 : decode cX1_init 66 = .ok (.dup, 1) := by decide +kernel
theorem dX1_init_67 : decode cX1_init 67 = .ok (.iconst 2, 1) := by decide +kernel
theorem dX1_init_68 : decode cX1_init 68 = .ok (.iconst 0, 1) := by decide +kernel
theorem dX1_init_69 : decode cX1_init 69 = .ok (.iastore, 1) := by decide +kernel
theorem dX1_init_70 : decode cX1_init 70 = .ok (.dup, 1) := by decide +kernel
theorem dX1_init_71 : decode cX1_init 71 = .ok (.iconst 3, 1) := by decide +kernel
theorem dX1_init_72 : decode cX1_init 72 = .ok (.iconst 1, 1) := by decide +kernel
theorem dX1_init_73 : decode cX1_init 73 = .ok (.iastore, 1) := by decide +kernel
theorem dX1_init_74 : decode cX1_init 74 = .ok (.dup, 1) := by decide +kernel
theorem dX1_init_75 : decode cX1_init 75 = .ok (.iconst 4, 1) := by decide +kernel
theorem dX1_init_76 : decode cX1_init 76 = .ok (.bipush 6, 2) := by decide +kernel
theorem dX1_init_78 : decode cX1_init 78 = .ok (.iastore, 1) := by decide +kernel
theorem dX1_init_79 : decode cX1_init 79 = .ok (.putfield 30, 3) := by decide +kernel
theorem dX1_init_82 : decode cX1_init 82 = .ok (.aload_n 0, 1) := by decide +kernel
theorem dX1_init_83 : decode cX1_init 83 = .ok (.iconst 0, 1) := by decide +kernel
theorem dX1_init_84 : decode cX1_init 84 = .ok (.putfield 33, 3) := by decide +kernel
theorem dX1_init_87 : decode cX1_init 87 = .ok (.aload_n 0, 1) := by decide +kernel
theorem dX1_init_88 : decode cX1_init 88 = .ok (.bipush 31, 2) := by decide +kernel
theorem dX1_init_90 : decode cX1_init 90 = .ok (.putfield 37, 3) := by decide +kernel
theorem dX1_init_93 : decode cX1_init 93 = .ok (.aload_n 0, 1) := by decide +kernel
theorem dX1_init_94 : decode cX1_init 94 = .ok (.iconst 0, 1) := by decide +kernel
theorem dX1_init_95 : decode cX1_init 95 = .ok (.putfield 40, 3) := by decide +kernel
theorem dX1_init_98 : decode cX1_init 98 = .ok (.aload_n 0, 1) := by decide +kernel
theorem dX1_init_99 : decode cX1_init 99 = .ok (.iconst 0, 1) := by decide +kernel
theorem dX1_init_100 : decode cX1_init 100 = .ok (.putfield 43, 3) := by decide +kernel
theorem dX1_init_103 : decode cX1_init 103 = .ok (.aload_n 0, 1) := by decide +kernel
theorem dX1_init_104 : decode cX1_init 104 = .ok (.iconst 5, 1) := by decide +kernel
theorem dX1_init_105 : decode cX1_init 105 = .ok (.putfield 46, 3) := by decide +kernel
theorem dX1_init_108 : decode cX1_init 108 = .ok (.aload_n 0, 1) := by decide +kernel
theorem dX1_init_109 : decode cX1_init 109 = .ok (.iconst 0, 1) := by decide +kernel
theorem dX1_init_110 : decode cX1_init 110 = .ok (.putfield 49, 3) := by decide +kernel
theorem dX1_init_113 : decode cX1_init 113 = .ok (.aload_n 0, 1) := by decide +kernel
theorem dX1_init_114 : decode cX1_init 114 = .ok (.iconst 0, 1) := by decide +kernel
theorem dX1_init_115 : decode cX1_init 115 = .ok (.putfield 52, 3) := by decide +kernel
theorem dX1_init_118 : decode cX1_init 118 = .ok (.aload_n 0, 1) := by decide +kernel
theorem dX1_init_119 : decode cX1_init 119 = .ok (.iconst 0, 1) := by decide +kernel
theorem dX1_init_120 : decode cX1_init 120 = .ok (.putfield 55, 3) := by decide +kernel
theorem dX1_init_123 : decode cX1_init 123 = .ok (.aload_n 0, 1) := by decide +kernel
theorem dX1_init_124 : decode cX1_init 124 = .ok (.iconst 0, 1) := by decide +kernel
theorem dX1_init_125 : decode cX1_init 125 = .ok (.putfield 58, 3) := by decide +kernel
theorem dX1_init_128 : decode cX1_init 128 = .ok (.aload_n 0, 1) := by decide +kernel
theorem dX1_init_129 : decode cX1_init 129 = .ok (.iconst 0, 1) := by decide +kernel
theorem dX1_init_130 : decode cX1_init 130 = .ok (.putfield 61, 3) := by decide +kernel
theorem dX1_init_133 : decode cX1_init 133 = .ok (.return_, 1) := by decide +kernel
theorem dX1_become_0 : decode cX1_become 0 = .ok (.aload_n 1, 1) := by decide +kernel
theorem dX1_become_1 : decode cX1_become 1 = .ok (.getfield 9, 3) := by decide +kernel
theorem dX1_become_4 : decode cX1_become 4 = .ok (.iconst 0, 1) := by decide +kernel
theorem dX1_become_5 : decode cX1_become 5 = .ok (.aload_n 0, 1) := by decide +kernel
theorem dX1_become_6 : decode cX1_become 6 = .ok (.getfield 9, 3) := by decide +kernel
theorem dX1_become_9 : decode cX1_become 9 = .ok (.iconst 0, 1) := by decide +kernel
theorem dX1_become_10 : decode cX1_become 10 = .ok (.bipush 96, 2) := by decide +kernel
theorem dX1_become_12 : decode cX1_become 12 = .ok (.invokestatic 64, 3) := by decide +kernel
theorem dX1_become_15 : decode cX1_become 15 = .ok (.aload_n 1, 1) := by decide +kernel
theorem dX1_become_16 : decode cX1_become 16 = .ok (.getfield 15, 3) := by decide +kernel
theorem dX1_become_19 : decode cX1_become 19 = .ok (.iconst 0, 1) := by decide +kernel
theorem dX1_become_20 : decode cX1_become 20 = .ok (.aload_n 0, 1) := by decide +kernel
theorem dX1_become_21 : decode cX1_become 21 = .ok (.getfield 15, 3) := by decide +kernel
theorem dX1_become_24 : decode cX1_become 24 = .ok (.iconst 0, 1) := by decide +kernel
theorem dX1_become_25 : decode cX1_become 25 = .ok (.bipush 12, 2) := by decide +kernel
theorem dX1_become_27 : decode cX1_become 27 = .ok (.invokestatic 64, 3) := by decide +kernel
theorem dX1_become_30 : decode cX1_become 30 = .ok (.aload_n 1, 1) := by decide +kernel
theorem dX1_become_31 : decode cX1_become 31 = .ok (.getfield 18, 3) := by decide +kernel
theorem dX1_become_34 : decode cX1_become 34 = .ok (.iconst 0, 1) := by decide +kernel
theorem dX1_become_35 : decode cX1_become 35 = .ok (.aload_n 0, 1) := by decide +kernel
theorem dX1_become_36 : decode cX1_become 36 = .ok (.getfield 18, 3) := by decide +kernel
theorem dX1_become_39 : decode cX1_become 39 = .ok (.iconst 0, 1) := by decide +kernel
theorem dX1_become_40 : decode cX1_become 40 = .ok (.bipush 12, 2) := by decide +kernel
theorem dX1_become_42 : decode cX1_become 42 = .ok (.invokestatic 64, 3) := by decide +kernel
theorem dX1_become_45 : decode cX1_become 45 = .ok (.aload_n 1, 1) := by decide +kernel
theorem dX1_become_46 : decode cX1_become 46 = .ok (.getfield 21, 3) := by decide +kernel
theorem dX1_become_49 : decode cX1_become 49 = .ok (.iconst 0, 1) := by decide +kernel
theorem dX1_become_50 : decode cX1_become 50 = .ok (.aload_n 0, 1) := by decide +kernel
theorem dX1_become_51 : decode cX1_become 51 = .ok (.getfield 21, 3) := by decide +kernel
theorem dX1_become_54 : decode cX1_become 54 = .ok (.iconst 0, 1) := by decide +kernel
theorem dX1_become_55 : decode cX1_become 55 = .ok (.bipush 12, 2) := by decide +kernel
theorem dX1_become_57 : decode cX1_become 57 = .ok (.invokestatic 64, 3) := by decide +kernel
theorem dX1_become_60 : decode cX1_become 60 = .ok (.aload_n 1, 1) := by decide +kernel
theorem dX1_become_61 : decode cX1_become 61 = .ok (.getfield 24, 3) := by decide +kernel
theorem dX1_become_64 : decode cX1_become 64 = .ok (.iconst 0, 1) := by decide +kernel
theorem dX1_become_65 : decode cX1_become 65 = .ok (.aload_n 0, 1) := by decide +kernel
theorem dX1_become_66 : decode cX1_become 66 = .ok (.getfield 24, 3) := by decide +kernel
theorem dX1_become_69 : decode cX1_become 69 = .ok (.iconst 0, 1) := by decide +kernel
theorem dX1_become_70 : decode cX1_become 70 = .ok (.bipush 24, 2) := by decide +kernel
theorem dX1_become_72 : decode cX1_become 72 = .ok (.invokestatic 64, 3) := by decide +kernel
theorem dX1_become_75 : decode cX1_become 75 = .ok (.aload_n 1, 1) := by decide +kernel
theorem dX1_become_76 : decode cX1_become 76 = .ok (.getfield 27, 3) := by decide +kernel
theorem dX1_become_79 : decode cX1_become 79 = .ok (.iconst 0, 1) := by decide +kernel
theorem dX1_become_80 : decode cX1_become 80 = .ok (.aload_n 0, 1) := by decide +kernel
theorem dX1_become_81 : decode cX1_become 81 = .ok (.getfield 27, 3) := by decide +kernel
theorem dX1_become_84 : decode cX1_become 84 = .ok (.iconst 0, 1) := by decide +kernel
theorem dX1_become_85 : decode cX1_become 85 = .ok (.bipush 24, 2) := by decide +kernel
theorem dX1_become_87 : decode cX1_become 87 = .ok (.invokestatic 64, 3) := by decide +kernel
theorem dX1_become_90 : decode cX1_become 90 = .ok (.aload_n 1, 1) := by decide +kernel
theorem dX1_become_91 : decode cX1_become 91 = .ok (.getfield 30, 3) := by decide +kernel
theorem dX1_become_94 : decode cX1_become 94 = .ok (.iconst 0, 1) := by decide +kernel
theorem dX1_become_95 : decode cX1_become 95 = .ok (.aload_n 0, 1) := by decide +kernel
theorem dX1_become_96 : decode cX1_become 96 = .ok (.getfield 30, 3) := by decide +kernel
theorem dX1_become_99 : decode cX1_become 99 = .ok (.iconst 0, 1) := by decide +kernel
theorem dX1_become_100 : decode cX1_become 100 = .ok (.iconst 5, 1) := by decide +kernel
theorem dX1_become_101 : decode cX1_become 101 = .ok (.invokestatic 64, 3) := by decide +kernel
theorem dX1_become_104 : decode cX1_become 104 = .ok (.aload_n 0, 1) := by decide +kernel
theorem dX1_become_105 : decode cX1_become 105 = .ok (.aload_n 1, 1) := by decide +kernel
theorem dX1_become_106 : decode cX1_become 106 = .ok (.getfield 33, 3) := by decide +kernel
theorem dX1_become_109 : decode cX1_become 109 = .ok (.putfield 33, 3) := by decide +kernel
theorem dX1_become_112 : decode cX1_become 112 = .ok (.aload_n 0, 1) := by decide +kernel
theorem dX1_become_113 : decode cX1_become 113 = .ok (.aload_n 1, 1) := by decide +kernel
theorem dX1_become_114 : decode cX1_become 114 = .ok (.getfield 37, 3) := by decide +kernel
theorem dX1_become_117 : decode cX1_become 117 = .ok (.putfield 37, 3) := by decide +kernel
theorem dX1_become_120 : decode cX1_become 120 = .ok (.aload_n 0, 1) := by decide +kernel
theorem dX1_become_121 : decode cX1_become 121 = .ok (.aload_n 1, 1) := by decide +kernel
theorem dX1_become_122 : decode cX1_become 122 = .ok (.getfield 40, 3) := by decide +kernel
theorem dX1_become_125 : decode cX1_become 125 = .ok (.putfield 40, 3) := by decide +kernel
theorem dX1_become_128 : decode cX1_become 128 = .ok (.aload_n 0, 1) := by decide +kernel
theorem dX1_become_129 : decode cX1_become 129 = .ok (.aload_n 1, 1) := by decide +kernel
theorem dX1_become_130 : decode cX1_become 130 = .ok (.getfield 43, 3) := by decide +kernel
theorem dX1_become_133 : decode cX1_become 133 = .ok (.putfield 43, 3) := by decide +kernel
theorem dX1_become_136 : decode cX1_become 136 = .ok (.aload_n 0, 1) := by decide +kernel
theorem dX1_become_137 : decode cX1_become 137 = .ok (.aload_n 1, 1) := by decide +kernel
theorem dX1_become_138 : decode cX1_become 138 = .ok (.getfield 46, 3) := by decide +kernel
theorem dX1_become_141 : decode cX1_become 141 = .ok (.putfield 46, 3) := by decide +kernel
theorem dX1_become_144 : decode cX1_become 144 = .ok (.aload_n 0, 1) := by decide +kernel
theorem dX1_become_145 : decode cX1_become 145 = .ok (.aload_n 1, 1) := by decide +kernel
theorem dX1_become_146 : decode cX1_become 146 = .ok (.getfield 49, 3) := by decide +kernel
theorem dX1_become_149 : decode cX1_become 149 = .ok (.putfield 49, 3) := by decide +kernel
theorem dX1_become_152 : decode cX1_become 152 = .ok (.aload_n 0, 1) := by decide +kernel
theorem dX1_become_153 : decode cX1_become 153 = .ok (.aload_n 1, 1) := by decide +kernel
theorem dX1_become_154 : decode cX1_become 154 = .ok (.getfield 52, 3) := by decide +kernel
theorem dX1_become_157 : decode cX1_become 157 = .ok (.putfield 52, 3) := by decide +kernel
theorem dX1_become_160 : decode cX1_become 160 = .ok (.aload_n 0, 1) := by decide +kernel
theorem dX1_become_161 : decode cX1_become 161 = .ok (.aload_n 1, 1) := by decide +kernel
theorem dX1_become_162 : decode cX1_become 162 = .ok (.getfield 55, 3) := by decide +kernel
theorem dX1_become_165 : decode cX1_become 165 = .ok (.putfield 55, 3) := by decide +kernel
theorem dX1_become_168 : decode cX1_become 168 = .ok (.aload_n 0, 1) := by decide +kernel
theorem dX1_become_169 : decode cX1_become 169 = .ok (.aload_n 1, 1) := by decide +kernel
theorem dX1_become_170 : decode cX1_become 170 = .ok (.getfield 58, 3) := by decide +kernel
theorem dX1_become_173 : decode cX1_become 173 = .ok (.putfield 58, 3) := by decide +kernel
theorem dX1_become_176 : decode cX1_become 176 = .ok (.aload_n 0, 1) := by decide +kernel
theorem dX1_become_177 : decode cX1_become 177 = .ok (.aload_n 1, 1) := by decide +kernel
theorem dX1_become_178 : decode cX1_become 178 = .ok (.getfield 61, 3) := by decide +kernel
theorem dX1_become_181 : decode cX1_become 181 = .ok (.putfield 61, 3) := by decide +kernel
theorem dX1_become_184 : decode cX1_become 184 = .ok (.return_, 1) := by decide +kernel
theorem dX1_teethAt_0 : decode cX1_teethAt 0 = .ok (.aload_n 0, 1) := by decide +kernel
theorem dX1_teethAt_1 : decode cX1_teethAt 1 = .ok (.getfield 9, 3) := by decide +kernel
theorem dX1_teethAt_4 : decode cX1_teethAt 4 = .ok (.iload_n 1, 1) := by decide +kernel
theorem dX1_teethAt_5 : decode cX1_teethAt 5 = .ok (.bipush 32, 2) := by decide +kernel
theorem dX1_teethAt_7 : decode cX1_teethAt 7 = .ok (.imul, 1) := by decide +kernel
theorem dX1_teethAt_8 : decode cX1_teethAt 8 = .ok (.iload_n 2, 1) := by decide +kernel
theorem dX1_teethAt_9 : decode cX1_teethAt 9 = .ok (.iadd, 1) := by decide +kernel
theorem dX1_teethAt_10 : decode cX1_teethAt 10 = .ok (.iaload, 1) := by decide +kernel
theorem dX1_teethAt_11 : decode cX1_teethAt 11 = .ok (.ireturn, 1) := by decide +kernel
set_option maxRecDepth 20000 in
theorem ggX1_hasPin_X1_teethAt : GoodIn wsX1_hasPin wsX1_teethAt := goodIn_r _ [5, 6, 7, 8, 9, 10, 11, 12, 13, 14, 15, 16, 17, 18, 19, 20, 21, 22, 23] rfl (by decide +kernel)
set_option maxRecDepth 20000 in
theorem gX1_hasPin_X1_teethAt : GoodIn wsX1_hasPin (wsV RX1 70 RX1 yX1_teethAt wsX1_teethAt) := goodIn_app (goodIn_r _ [1, 2, 3, 4] rfl (by decide +kernel)) ggX1_hasPin_X1_teethAt
theorem dX1_hasPin_0 : decode cX1_hasPin 0 = .ok (.aload_n 0, 1) := by decide +kernel
theorem dX1_hasPin_1 : decode cX1_hasPin 1 = .ok (.iload_n 1, 1) := by decide +kernel
theorem dX1_hasPin_2 : decode cX1_hasPin 2 = .ok (.iload_n 3, 1) := by decide +kernel
theorem dX1_hasPin_3 : decode cX1_hasPin 3 = .ok (.invokevirtual 70, 3) := by decide +kernel
theorem dX1_hasPin_6 : decode cX1_hasPin 6 = .ok (.iload_n 2, 1) := by decide +kernel
theorem dX1_hasPin_7 : decode cX1_hasPin 7 = .ok (.ishr, 1) := by decide +kernel
theorem dX1_hasPin_8 : decode cX1_hasPin 8 = .ok (.iconst 1, 1) := by decide +kernel
theorem dX1_hasPin_9 : decode cX1_hasPin 9 = .ok (.iand, 1) := by decide +kernel
theorem dX1_hasPin_10 : decode cX1_hasPin 10 = .ok (.ifCond .eq 7, 3) := by decide +kernel
theorem dX1_hasPin_13 : decode cX1_hasPin 13 = .ok (.iconst 1, 1) := by decide +kernel
theorem dX1_hasPin_14 : decode cX1_hasPin 14 = .ok (.goto 4, 3) := by decide +kernel
theorem dX1_hasPin_17 : decode cX1_hasPin 17 = .ok (.iconst 0, 1) := by decide +kernel
theorem dX1_hasPin_18 : decode cX1_hasPin 18 = .ok (.ireturn, 1) := by decide +kernel
theorem dX1_putPin_0 : decode cX1_putPin 0 = .ok (.aload_n 0, 1) := by decide +kernel
theorem dX1_putPin_1 : decode cX1_putPin 1 = .ok (.getfield 9, 3) := by decide +kernel
theorem dX1_putPin_4 : decode cX1_putPin 4 = .ok (.iload_n 1, 1) := by decide +kernel
theorem dX1_putPin_5 : decode cX1_putPin 5 = .ok (.bipush 32, 2) := by decide +kernel
theorem dX1_putPin_7 : decode cX1_putPin 7 = .ok (.imul, 1) := by decide +kernel
theorem dX1_putPin_8 : decode cX1_putPin 8 = .ok (.iload_n 3, 1) := by decide +kernel
theorem dX1_putPin_9 : decode cX1_putPin 9 = .ok (.iadd, 1) := by decide +kernel
theorem dX1_putPin_10 : decode cX1_putPin 10 = .ok (.dup2, 1) := by decide +kernel
theorem dX1_putPin_11 : decode cX1_putPin 11 = .ok (.iaload, 1) := by decide +kernel
theorem dX1_putPin_12 : decode cX1_putPin 12 = .ok (.iconst 1, 1) := by decide +kernel
theorem dX1_putPin_13 : decode cX1_putPin 13 = .ok (.iload_n 2, 1) := by decide +kernel
theorem dX1_putPin_14 : decode cX1_putPin 14 = .ok (.ishl, 1) := by decide +kernel
theorem dX1_putPin_15 : decode cX1_putPin 15 = .ok (.ior, 1) := by decide +kernel
theorem dX1_putPin_16 : decode cX1_putPin 16 = .ok (.iastore, 1) := by decide +kernel
theorem dX1_putPin_17 : decode cX1_putPin 17 = .ok (.return_, 1) := by decide +kernel
set_option maxRecDepth 20000 in
theorem ggX1_hindrance_X1_hasPin : GoodIn wsX1_hindrance wsX1_hasPin := goodIn_r _ [6, 7, 8, 9, 5, 10, 11, 26, 27, 28, 29, 30, 31, 32, 33, 34, 35, 36, 37, 38, 39, 40, 41, 42] rfl (by decide +kernel)
set_option maxRecDepth 20000 in
theorem gX1_hindrance_X1_hasPin : GoodIn wsX1_hindrance (wsV RX1 74 RX1 yX1_hasPin wsX1_hasPin) := goodIn_app (goodIn_r _ [2, 3, 4, 5] rfl (by decide +kernel)) ggX1_hindrance_X1_hasPin
set_option maxRecDepth 20000 in
theorem ggX1_hindrance_X1_around : GoodIn wsX1_hindrance wsX1_around := goodIn_r _ [14, 15, 16, 17, 18] rfl (by decide +kernel)
set_option maxRecDepth 20000 in
theorem gX1_hindrance_X1_around : GoodIn wsX1_hindrance (va_wsS RX1 78 yX1_around wsX1_around) := goodIn_app (goodIn_r _ [12, 13, 5] rfl (by decide +kernel)) ggX1_hindrance_X1_around
set_option maxRecDepth 20000 in
theorem ggX1_hindrance_X1_teethAt : GoodIn wsX1_hindrance wsX1_teethAt := goodIn_r _ [10, 11, 26, 27, 28, 29, 30, 31, 32, 33, 34, 35, 36, 37, 38, 39, 40, 41, 42] rfl (by decide +kernel)
set_option maxRecDepth 20000 in
theorem gX1_hindrance_X1_teethAt : GoodIn wsX1_hindrance (wsV RX1 70 RX1 yX1_teethAt wsX1_teethAt) := goodIn_app (goodIn_r _ [7, 8, 9, 5] rfl (by decide +kernel)) ggX1_hindrance_X1_teethAt
set_option maxRecDepth 20000 in
theorem ggX1_hindrance_J6_bitCount_0f7a4 : GoodIn wsX1_hindrance wsJ6_bitCount_0f7a4 := goodIn_r _ [22, 23, 24, 25] rfl (by decide +kernel)
set_option maxRecDepth 20000 in
theorem gX1_hindrance_J6_bitCount_0f7a4 : GoodIn wsX1_hindrance (va_wsS RX1 82 yJ6_bitCount_0f7a4 wsJ6_bitCount_0f7a4) := goodIn_app (goodIn_r _ [19, 20, 21] rfl (by decide +kernel)) ggX1_hindrance_J6_bitCount_0f7a4
theorem dX1_hindrance_0 : decode cX1_hindrance 0 = .ok (.aload_n 0, 1) := by decide +kernel
theorem dX1_hindrance_1 : decode cX1_hindrance 1 = .ok (.iload_n 1, 1) := by decide +kernel
theorem dX1_hindrance_2 : decode cX1_hindrance 2 = .ok (.iload_n 2, 1) := by decide +kernel
theorem dX1_hindrance_3 : decode cX1_hindrance 3 = .ok (.iload_n 3, 1) := by decide +kernel
theorem dX1_hindrance_4 : decode cX1_hindrance 4 = .ok (.invokevirtual 74, 3) := by decide +kernel
theorem dX1_hindrance_7 : decode cX1_hindrance 7 = .ok (.ifCond .eq 5, 3) := by decide +kernel
theorem dX1_hindrance_10 : decode cX1_hindrance 10 = .ok (.iconst 1, 1) := by decide +kernel
theorem dX1_hindrance_11 : decode cX1_hindrance 11 = .ok (.ireturn, 1) := by decide +kernel
theorem dX1_hindrance_12 : decode cX1_hindrance 12 = .ok (.iconst 1, 1) := by decide +kernel
theorem dX1_hindrance_13 : decode cX1_hindrance 13 = .ok (.istore 4, 2) := by decide +kernel
theorem dX1_hindrance_15 : decode cX1_hindrance 15 = .ok (.iload 4, 2) := by decide +kernel
theorem dX1_hindrance_17 : decode cX1_hindrance 17 = .ok (.aload_n 0, 1) := by decide +kernel
theorem dX1_hindrance_18 : decode cX1_hindrance 18 = .ok (.getfield 30, 3) := by decide +kernel
theorem dX1_hindrance_21 : decode cX1_hindrance 21 = .ok (.iconst 3, 1) := by decide +kernel
theorem dX1_hindrance_22 : decode cX1_hindrance 22 = .ok (.iaload, 1) := by decide +kernel
theorem dX1_hindrance_23 : decode cX1_hindrance 23 = .ok (.if_icmp .ge 43, 3) := by decide +kernel
theorem dX1_hindrance_26 : decode cX1_hindrance 26 = .ok (.aload_n 0, 1) := by decide +kernel
theorem dX1_hindrance_27 : decode cX1_hindrance 27 = .ok (.iload_n 1, 1) := by decide +kernel
theorem dX1_hindrance_28 : decode cX1_hindrance 28 = .ok (.iload_n 2, 1) := by decide +kernel
theorem dX1_hindrance_29 : decode cX1_hindrance 29 = .ok (.iload_n 3, 1) := by decide +kernel
theorem dX1_hindrance_30 : decode cX1_hindrance 30 = .ok (.iload 4, 2) := by decide +kernel
theorem dX1_hindrance_32 : decode cX1_hindrance 32 = .ok (.iadd, 1) := by decide +kernel
theorem dX1_hindrance_33 : decode cX1_hindrance 33 = .ok (.invokestatic 78, 3) := by decide +kernel
theorem dX1_hindrance_36 : decode cX1_hindrance 36 = .ok (.invokevirtual 74, 3) := by decide +kernel
theorem dX1_hindrance_39 : decode cX1_hindrance 39 = .ok (.ifCond .ne 19, 3) := by decide +kernel
theorem dX1_hindrance_42 : decode cX1_hindrance 42 = .ok (.aload_n 0, 1) := by decide +kernel
theorem dX1_hindrance_43 : decode cX1_hindrance 43 = .ok (.iload_n 1, 1) := by decide +kernel
theorem dX1_hindrance_44 : decode cX1_hindrance 44 = .ok (.iload_n 2, 1) := by decide +kernel
theorem dX1_hindrance_45 : decode cX1_hindrance 45 = .ok (.iload_n 3, 1) := by decide +kernel
theorem dX1_hindrance_46 : decode cX1_hindrance 46 = .ok (.iload 4, 2) := by decide +kernel
theorem dX1_hindrance_48 : decode cX1_hindrance 48 = .ok (.isub, 1) := by decide +kernel
theorem dX1_hindrance_49 : decode cX1_hindrance 49 = .ok (.invokestatic 78, 3) := by decide +kernel
theorem dX1_hindrance_52 : decode cX1_hindrance 52 = .ok (.invokevirtual 74, 3) := by decide +kernel
theorem dX1_hindrance_55 : decode cX1_hindrance 55 = .ok (.ifCond .eq 5, 3) := by decide +kernel
theorem dX1_hindrance_58 : decode cX1_hindrance 58 = .ok (.iconst 2, 1) := by decide +kernel
theorem dX1_hindrance_59 : decode cX1_hindrance 59 = .ok (.ireturn, 1) := by decide +kernel
theorem dX1_hindrance_60 : decode cX1_hindrance 60 = .ok (.iinc 4 1, 3) := by decide +kernel
theorem dX1_hindrance_63 : decode cX1_hindrance 63 = .ok (.goto (-48), 3) := by decide +kernel
theorem dX1_hindrance_66 : decode cX1_hindrance 66 = .ok (.aload_n 0, 1) := by decide +kernel
theorem dX1_hindrance_67 : decode cX1_hindrance 67 = .ok (.iload_n 1, 1) := by decide +kernel
theorem dX1_hindrance_68 : decode cX1_hindrance 68 = .ok (.iload_n 3, 1) := by decide +kernel
theorem dX1_hindrance_69 : decode cX1_hindrance 69 = .ok (.invokevirtual 70, 3) := by decide +kernel
theorem dX1_hindrance_72 : decode cX1_hindrance 72 = .ok (.invokestatic 82, 3) := by decide +kernel
theorem dX1_hindrance_75 : decode cX1_hindrance 75 = .ok (.aload_n 0, 1) := by decide +kernel
theorem dX1_hindrance_76 : decode cX1_hindrance 76 = .ok (.getfield 30, 3) := by decide +kernel
theorem dX1_hindrance_79 : decode cX1_hindrance 79 = .ok (.iconst 4, 1) := by decide +kernel
theorem dX1_hindrance_80 : decode cX1_hindrance 80 = .ok (.iaload, 1) := by decide +kernel
theorem dX1_hindrance_81 : decode cX1_hindrance 81 = .ok (.if_icmp .lt 7, 3) := by decide +kernel
theorem dX1_hindrance_84 : decode cX1_hindrance 84 = .ok (.iconst 3, 1) := by decide +kernel
theorem dX1_hindrance_85 : decode cX1_hindrance 85 = .ok (.goto 4, 3) := by decide +kernel
theorem dX1_hindrance_88 : decode cX1_hindrance 88 = .ok (.iconst 0, 1) := by decide +kernel
theorem dX1_hindrance_89 : decode cX1_hindrance 89 = .ok (.ireturn, 1) := by decide +kernel
set_option maxRecDepth 20000 in
theorem ggX1_takeRange_X1_hasPin : GoodIn wsX1_takeRange wsX1_hasPin := goodIn_r _ [6, 7, 8, 9, 5, 10, 1, 11, 12, 13, 14, 15, 16, 17, 18, 19, 20, 21, 22, 23, 24, 25, 26, 27] rfl (by decide +kernel)
set_option maxRecDepth 20000 in
theorem gX1_takeRange_X1_hasPin : GoodIn wsX1_takeRange (wsV RX1 74 RX1 yX1_hasPin wsX1_hasPin) := goodIn_app (goodIn_r _ [2, 3, 4, 5] rfl (by decide +kernel)) ggX1_takeRange_X1_hasPin
theorem dX1_takeRange_0 : decode cX1_takeRange 0 = .ok (.iconst 0, 1) := by decide +kernel
theorem dX1_takeRange_1 : decode cX1_takeRange 1 = .ok (.istore 5, 2) := by decide +kernel
theorem dX1_takeRange_3 : decode cX1_takeRange 3 = .ok (.iload_n 3, 1) := by decide +kernel
theorem dX1_takeRange_4 : decode cX1_takeRange 4 = .ok (.istore 6, 2) := by decide +kernel
theorem dX1_takeRange_6 : decode cX1_takeRange 6 = .ok (.iload 6, 2) := by decide +kernel
theorem dX1_takeRange_8 : decode cX1_takeRange 8 = .ok (.iload 4, 2) := by decide +kernel
theorem dX1_takeRange_10 : decode cX1_takeRange 10 = .ok (.if_icmp .gt 43, 3) := by decide +kernel
theorem dX1_takeRange_13 : decode cX1_takeRange 13 = .ok (.aload_n 0, 1) := by decide +kernel
theorem dX1_takeRange_14 : decode cX1_takeRange 14 = .ok (.iload_n 1, 1) := by decide +kernel
theorem dX1_takeRange_15 : decode cX1_takeRange 15 = .ok (.iload_n 2, 1) := by decide +kernel
theorem dX1_takeRange_16 : decode cX1_takeRange 16 = .ok (.iload 6, 2) := by decide +kernel
theorem dX1_takeRange_18 : decode cX1_takeRange 18 = .ok (.invokevirtual 74, 3) := by decide +kernel
theorem dX1_takeRange_21 : decode cX1_takeRange 21 = .ok (.ifCond .eq 26, 3) := by decide +kernel
theorem dX1_takeRange_24 : decode cX1_takeRange 24 = .ok (.aload_n 0, 1) := by decide +kernel
theorem dX1_takeRange_25 : decode cX1_takeRange 25 = .ok (.getfield 9, 3) := by decide +kernel
theorem dX1_takeRange_28 : decode cX1_takeRange 28 = .ok (.iload_n 1, 1) := by decide +kernel
theorem dX1_takeRange_29 : decode cX1_takeRange 29 = .ok (.bipush 32, 2) := by decide +kernel
theorem dX1_takeRange_31 : decode cX1_takeRange 31 = .ok (.imul, 1) := by decide +kernel
theorem dX1_takeRange_32 : decode cX1_takeRange 32 = .ok (.iload 6, 2) := by decide +kernel
theorem dX1_takeRange_34 : decode cX1_takeRange 34 = .ok (.iadd, 1) := by decide +kernel
theorem dX1_takeRange_35 : decode cX1_takeRange 35 = .ok (.dup2, 1) := by decide +kernel
theorem dX1_takeRange_36 : decode cX1_takeRange 36 = .ok (.iaload, 1) := by decide +kernel
theorem dX1_takeRange_37 : decode cX1_takeRange 37 = .ok (.iconst 1, 1) := by decide +kernel
theorem dX1_takeRange_38 : decode cX1_takeRange 38 = .ok (.iload_n 2, 1) := by decide +kernel
theorem dX1_takeRange_39 : decode cX1_takeRange 39 = .ok (.ishl, 1) := by decide +kernel
theorem dX1_takeRange_40 : decode cX1_takeRange 40 = .ok (.iconst (-1), 1) := by decide +kernel
theorem dX1_takeRange_41 : decode cX1_takeRange 41 = .ok (.ixor, 1) := by decide +kernel
theorem dX1_takeRange_42 : decode cX1_takeRange 42 = .ok (.iand, 1) := by decide +kernel
theorem dX1_takeRange_43 : decode cX1_takeRange 43 = .ok (.iastore, 1) := by decide +kernel
theorem dX1_takeRange_44 : decode cX1_takeRange 44 = .ok (.iinc 5 1, 3) := by decide +kernel
theorem dX1_takeRange_47 : decode cX1_takeRange 47 = .ok (.iinc 6 1, 3) := by decide +kernel
theorem dX1_takeRange_50 : decode cX1_takeRange 50 = .ok (.goto (-44), 3) := by decide +kernel
theorem dX1_takeRange_53 : decode cX1_takeRange 53 = .ok (.iload 5, 2) := by decide +kernel
theorem dX1_takeRange_55 : decode cX1_takeRange 55 = .ok (.ireturn, 1) := by decide +kernel
set_option maxRecDepth 20000 in
theorem ggX1_replaceTune_X1_teethAt : GoodIn wsX1_replaceTune wsX1_teethAt := goodIn_r _ [6, 1, 14, 15, 16, 17, 18, 19, 20, 21, 22, 23, 24, 25, 26, 27, 28, 29, 30] rfl (by decide +kernel)
set_option maxRecDepth 20000 in
theorem gX1_replaceTune_X1_teethAt : GoodIn wsX1_replaceTune (wsV RX1 70 RX1 yX1_teethAt wsX1_teethAt) := goodIn_app (goodIn_r _ [2, 3, 4, 5] rfl (by decide +kernel)) ggX1_replaceTune_X1_teethAt
set_option maxRecDepth 20000 in
theorem ggX1_replaceTune_X1_around : GoodIn wsX1_replaceTune wsX1_around := goodIn_r _ [9, 10, 11, 12, 13] rfl (by decide +kernel)
set_option maxRecDepth 20000 in
theorem gX1_replaceTune_X1_around : GoodIn wsX1_replaceTune (va_wsS RX1 78 yX1_around wsX1_around) := goodIn_app (goodIn_r _ [7, 8, 5] rfl (by decide +kernel)) ggX1_replaceTune_X1_around
theorem dX1_replaceTune_0 : decode cX1_replaceTune 0 = .ok (.sipush 4095, 3) := by decide +kernel
theorem dX1_replaceTune_3 : decode cX1_replaceTune 3 = .ok (.istore 5, 2) := by decide +kernel
theorem dX1_replaceTune_5 : decode cX1_replaceTune 5 = .ok (.iconst 0, 1) := by decide +kernel
theorem dX1_replaceTune_6 : decode cX1_replaceTune 6 = .ok (.istore 6, 2) := by decide +kernel
theorem dX1_replaceTune_8 : decode cX1_replaceTune 8 = .ok (.iload 6, 2) := by decide +kernel
theorem dX1_replaceTune_10 : decode cX1_replaceTune 10 = .ok (.bipush 32, 2) := by decide +kernel
theorem dX1_replaceTune_12 : decode cX1_replaceTune 12 = .ok (.if_icmp .ge 61, 3) := by decide +kernel
theorem dX1_replaceTune_15 : decode cX1_replaceTune 15 = .ok (.aload_n 0, 1) := by decide +kernel
theorem dX1_replaceTune_16 : decode cX1_replaceTune 16 = .ok (.iload_n 1, 1) := by decide +kernel
theorem dX1_replaceTune_17 : decode cX1_replaceTune 17 = .ok (.iload 6, 2) := by decide +kernel
theorem dX1_replaceTune_19 : decode cX1_replaceTune 19 = .ok (.invokevirtual 70, 3) := by decide +kernel
theorem dX1_replaceTune_22 : decode cX1_replaceTune 22 = .ok (.istore 7, 2) := by decide +kernel
theorem dX1_replaceTune_24 : decode cX1_replaceTune 24 = .ok (.iload 4, 2) := by decide +kernel
theorem dX1_replaceTune_26 : decode cX1_replaceTune 26 = .ok (.ifCond .lt 11, 3) := by decide +kernel
theorem dX1_replaceTune_29 : decode cX1_replaceTune 29 = .ok (.iload 7, 2) := by decide +kernel
theorem dX1_replaceTune_31 : decode cX1_replaceTune 31 = .ok (.iload 4, 2) := by decide +kernel
theorem dX1_replaceTune_33 : decode cX1_replaceTune 33 = .ok (.ishl, 1) := by decide +kernel
theorem dX1_replaceTune_34 : decode cX1_replaceTune 34 = .ok (.goto 9, 3) := by decide +kernel
theorem dX1_replaceTune_37 : decode cX1_replaceTune 37 = .ok (.iload 7, 2) := by decide +kernel
theorem dX1_replaceTune_39 : decode cX1_replaceTune 39 = .ok (.iload 4, 2) := by decide +kernel
theorem dX1_replaceTune_41 : decode cX1_replaceTune 41 = .ok (.ineg, 1) := by decide +kernel
theorem dX1_replaceTune_42 : decode cX1_replaceTune 42 = .ok (.ishr, 1) := by decide +kernel
theorem dX1_replaceTune_43 : decode cX1_replaceTune 43 = .ok (.istore 8, 2) := by decide +kernel
theorem dX1_replaceTune_45 : decode cX1_replaceTune 45 = .ok (.aload_n 0, 1) := by decide +kernel
theorem dX1_replaceTune_46 : decode cX1_replaceTune 46 = .ok (.getfield 9, 3) := by decide +kernel
theorem dX1_replaceTune_49 : decode cX1_replaceTune 49 = .ok (.iload_n 2, 1) := by decide +kernel
theorem dX1_replaceTune_50 : decode cX1_replaceTune 50 = .ok (.bipush 32, 2) := by decide +kernel
theorem dX1_replaceTune_52 : decode cX1_replaceTune 52 = .ok (.imul, 1) := by decide +kernel
theorem dX1_replaceTune_53 : decode cX1_replaceTune 53 = .ok (.iload 6, 2) := by decide +kernel
theorem dX1_replaceTune_55 : decode cX1_replaceTune 55 = .ok (.iload_n 3, 1) := by decide +kernel
theorem dX1_replaceTune_56 : decode cX1_replaceTune 56 = .ok (.iadd, 1) := by decide +kernel
theorem dX1_replaceTune_57 : decode cX1_replaceTune 57 = .ok (.invokestatic 78, 3) := by decide +kernel
theorem dX1_replaceTune_60 : decode cX1_replaceTune 60 = .ok (.iadd, 1) := by decide +kernel
theorem dX1_replaceTune_61 : decode cX1_replaceTune 61 = .ok (.iload 8, 2) := by decide +kernel
theorem dX1_replaceTune_63 : decode cX1_replaceTune 63 = .ok (.iload 5, 2) := by decide +kernel
theorem dX1_replaceTune_65 : decode cX1_replaceTune 65 = .ok (.iand, 1) := by decide +kernel
theorem dX1_replaceTune_66 : decode cX1_replaceTune 66 = .ok (.iastore, 1) := by decide +kernel
theorem dX1_replaceTune_67 : decode cX1_replaceTune 67 = .ok (.iinc 6 1, 3) := by decide +kernel
theorem dX1_replaceTune_70 : decode cX1_replaceTune 70 = .ok (.goto (-62), 3) := by decide +kernel
theorem dX1_replaceTune_73 : decode cX1_replaceTune 73 = .ok (.return_, 1) := by decide +kernel
set_option maxRecDepth 20000 in
theorem ggX1_pinFrom_X1_around : GoodIn wsX1_pinFrom wsX1_around := goodIn_r _ [4, 5, 6, 7, 8] rfl (by decide +kernel)
set_option maxRecDepth 20000 in
theorem gX1_pinFrom_X1_around : GoodIn wsX1_pinFrom (va_wsS RX1 78 yX1_around wsX1_around) := goodIn_app (goodIn_r _ [1, 2, 3] rfl (by decide +kernel)) ggX1_pinFrom_X1_around
set_option maxRecDepth 20000 in
theorem ggX1_pinFrom_X1_hasPin : GoodIn wsX1_pinFrom wsX1_hasPin := goodIn_r _ [12, 13, 14, 15, 3, 16, 17, 18, 19, 20, 21, 22, 23, 24, 25, 26, 27, 28, 29, 30, 31, 32, 33, 34] rfl (by decide +kernel)
set_option maxRecDepth 20000 in
theorem gX1_pinFrom_X1_hasPin : GoodIn wsX1_pinFrom (wsV RX1 74 RX1 yX1_hasPin wsX1_hasPin) := goodIn_app (goodIn_r _ [9, 10, 11, 3] rfl (by decide +kernel)) ggX1_pinFrom_X1_hasPin
theorem dX1_pinFrom_0 : decode cX1_pinFrom 0 = .ok (.iconst 0, 1) := by decide +kernel
theorem dX1_pinFrom_1 : decode cX1_pinFrom 1 = .ok (.istore 4, 2) := by decide +kernel
theorem dX1_pinFrom_3 : decode cX1_pinFrom 3 = .ok (.iload 4, 2) := by decide +kernel
theorem dX1_pinFrom_5 : decode cX1_pinFrom 5 = .ok (.bipush 32, 2) := by decide +kernel
theorem dX1_pinFrom_7 : decode cX1_pinFrom 7 = .ok (.if_icmp .ge 32, 3) := by decide +kernel
theorem dX1_pinFrom_10 : decode cX1_pinFrom 10 = .ok (.iload_n 3, 1) := by decide +kernel
theorem dX1_pinFrom_11 : decode cX1_pinFrom 11 = .ok (.iload 4, 2) := by decide +kernel
theorem dX1_pinFrom_13 : decode cX1_pinFrom 13 = .ok (.iadd, 1) := by decide +kernel
theorem dX1_pinFrom_14 : decode cX1_pinFrom 14 = .ok (.invokestatic 78, 3) := by decide +kernel
theorem dX1_pinFrom_17 : decode cX1_pinFrom 17 = .ok (.istore 5, 2) := by decide +kernel
theorem dX1_pinFrom_19 : decode cX1_pinFrom 19 = .ok (.aload_n 0, 1) := by decide +kernel
theorem dX1_pinFrom_20 : decode cX1_pinFrom 20 = .ok (.iload_n 1, 1) := by decide +kernel
theorem dX1_pinFrom_21 : decode cX1_pinFrom 21 = .ok (.iload_n 2, 1) := by decide +kernel
theorem dX1_pinFrom_22 : decode cX1_pinFrom 22 = .ok (.iload 5, 2) := by decide +kernel
theorem dX1_pinFrom_24 : decode cX1_pinFrom 24 = .ok (.invokevirtual 74, 3) := by decide +kernel
theorem dX1_pinFrom_27 : decode cX1_pinFrom 27 = .ok (.ifCond .eq 6, 3) := by decide +kernel
theorem dX1_pinFrom_30 : decode cX1_pinFrom 30 = .ok (.iload 5, 2) := by decide +kernel
theorem dX1_pinFrom_32 : decode cX1_pinFrom 32 = .ok (.ireturn, 1) := by decide +kernel
theorem dX1_pinFrom_33 : decode cX1_pinFrom 33 = .ok (.iinc 4 1, 3) := by decide +kernel
theorem dX1_pinFrom_36 : decode cX1_pinFrom 36 = .ok (.goto (-33), 3) := by decide +kernel
theorem dX1_pinFrom_39 : decode cX1_pinFrom 39 = .ok (.iconst (-1), 1) := by decide +kernel
theorem dX1_pinFrom_40 : decode cX1_pinFrom 40 = .ok (.ireturn, 1) := by decide +kernel
set_option maxRecDepth 20000 in
theorem ggX1_goOnFor_X1_goOn : GoodIn wsX1_goOnFor wsX1_goOn := goodIn_r _ [5, 6, 7, 8, 9, 10, 11, 12, 13, 14, 15, 16, 17, 18, 19, 4, 20, 21, 22, 23, 24, 25, 26, 27, 28, 29, 30, 31, 32, 33, 34, 35, 36, 37, 38, 39, 40, 41, 42, 43, 44, 45, 46, 47, 48, 49, 50, 51, 52, 53, 54, 55, 56, 57, 58, 59, 60, 61, 62, 63, 64, 65, 66, 67, 68, 69, 70, 71, 72, 73, 74, 75, 76, 77, 78, 79, 80, 81, 82, 83, 84, 85, 86, 87, 88, 89] rfl (by decide +kernel)
set_option maxRecDepth 20000 in
theorem gX1_goOnFor_X1_goOn : GoodIn wsX1_goOnFor (wsV RX1 95 RX1 yX1_goOn wsX1_goOn) := goodIn_app (goodIn_r _ [1, 2, 3, 4] rfl (by decide +kernel)) ggX1_goOnFor_X1_goOn
theorem dX1_goOnFor_0 : decode cX1_goOnFor 0 = .ok (.iconst 0, 1) := by decide +kernel
theorem dX1_goOnFor_1 : decode cX1_goOnFor 1 = .ok (.istore_n 2, 1) := by decide +kernel
theorem dX1_goOnFor_2 : decode cX1_goOnFor 2 = .ok (.iload_n 2, 1) := by decide +kernel
theorem dX1_goOnFor_3 : decode cX1_goOnFor 3 = .ok (.iload_n 1, 1) := by decide +kernel
theorem dX1_goOnFor_4 : decode cX1_goOnFor 4 = .ok (.if_icmp .ge 18, 3) := by decide +kernel
theorem dX1_goOnFor_7 : decode cX1_goOnFor 7 = .ok (.aload_n 0, 1) := by decide +kernel
theorem dX1_goOnFor_8 : decode cX1_goOnFor 8 = .ok (.invokevirtual 95, 3) := by decide +kernel
theorem dX1_goOnFor_11 : decode cX1_goOnFor 11 = .ok (.ifCond .ne 5, 3) := by decide +kernel
theorem dX1_goOnFor_14 : decode cX1_goOnFor 14 = .ok (.iload_n 2, 1) := by decide +kernel
theorem dX1_goOnFor_15 : decode cX1_goOnFor 15 = .ok (.ireturn, 1) := by decide +kernel
theorem dX1_goOnFor_16 : decode cX1_goOnFor 16 = .ok (.iinc 2 1, 3) := by decide +kernel
theorem dX1_goOnFor_19 : decode cX1_goOnFor 19 = .ok (.goto (-17), 3) := by decide +kernel
theorem dX1_goOnFor_22 : decode cX1_goOnFor 22 = .ok (.iload_n 1, 1) := by decide +kernel
theorem dX1_goOnFor_23 : decode cX1_goOnFor 23 = .ok (.ireturn, 1) := by decide +kernel
set_option maxRecDepth 20000 in
theorem ggX1_goOn_X1_around : GoodIn wsX1_goOn wsX1_around := goodIn_r _ [16, 17, 18, 19, 20] rfl (by decide +kernel)
set_option maxRecDepth 20000 in
theorem gX1_goOn_X1_around : GoodIn wsX1_goOn (va_wsS RX1 78 yX1_around wsX1_around) := goodIn_app (goodIn_r _ [13, 14, 15] rfl (by decide +kernel)) ggX1_goOn_X1_around
set_option maxRecDepth 20000 in
theorem ggX1_goOn_X1_tuneComing : GoodIn wsX1_goOn wsX1_tuneComing := goodIn_r _ [24, 25, 69, 70, 71, 72, 73, 74, 75, 76, 77, 78, 79, 80, 81, 82, 83, 84, 85] rfl (by decide +kernel)
set_option maxRecDepth 20000 in
theorem gX1_goOn_X1_tuneComing : GoodIn wsX1_goOn (wsV RX1 99 RX1 yX1_tuneComing wsX1_tuneComing) := goodIn_app (goodIn_r _ [21, 22, 23, 15] rfl (by decide +kernel)) ggX1_goOn_X1_tuneComing
set_option maxRecDepth 20000 in
theorem ggX1_goOn_X1_teethAt : GoodIn wsX1_goOn wsX1_teethAt := goodIn_r _ [29, 30, 69, 70, 71, 72, 73, 74, 75, 76, 77, 78, 79, 80, 81, 82, 83, 84, 85] rfl (by decide +kernel)
set_option maxRecDepth 20000 in
theorem gX1_goOn_X1_teethAt : GoodIn wsX1_goOn (wsV RX1 70 RX1 yX1_teethAt wsX1_teethAt) := goodIn_app (goodIn_r _ [26, 27, 28, 15] rfl (by decide +kernel)) ggX1_goOn_X1_teethAt
set_option maxRecDepth 20000 in
theorem ggX1_goOn_X1_windOfStep : GoodIn wsX1_goOn wsX1_windOfStep := goodIn_r _ [34, 3, 26, 27, 28, 15, 29, 30, 35, 36, 37, 38, 39, 40, 41, 69, 70, 71, 72, 73, 74, 75, 76, 77, 78, 79, 80, 81, 82, 83, 84, 85] rfl (by decide +kernel)
set_option maxRecDepth 20000 in
theorem gX1_goOn_X1_windOfStep : GoodIn wsX1_goOn (wsV RX1 102 RX1 yX1_windOfStep wsX1_windOfStep) := goodIn_app (goodIn_r _ [31, 32, 33, 15] rfl (by decide +kernel)) ggX1_goOn_X1_windOfStep
set_option maxRecDepth 20000 in
theorem ggX1_goOn_X1_strike : GoodIn wsX1_goOn wsX1_strike := goodIn_r _ [45, 25, 46, 47, 48, 49, 15, 50, 51, 11, 7, 8, 9, 10, 52, 53, 54, 55, 56, 3, 57, 58, 59, 60, 61, 62, 63, 64, 65, 66, 67, 68, 17, 18, 19, 20, 69, 70, 71, 72, 73, 74, 75, 76, 77, 78, 79, 80, 81, 82, 83, 84, 85] rfl (by decide +kernel)
set_option maxRecDepth 20000 in
theorem gX1_goOn_X1_strike : GoodIn wsX1_goOn (wsV RX1 110 RX1 yX1_strike wsX1_strike) := goodIn_app (goodIn_r _ [42, 43, 44, 15] rfl (by decide +kernel)) ggX1_goOn_X1_strike
theorem dX1_goOn_0 : decode cX1_goOn 0 = .ok (.aload_n 0, 1) := by decide +kernel
theorem dX1_goOn_1 : decode cX1_goOn 1 = .ok (.getfield 37, 3) := by decide +kernel
theorem dX1_goOn_4 : decode cX1_goOn 4 = .ok (.iconst 1, 1) := by decide +kernel
theorem dX1_goOn_5 : decode cX1_goOn 5 = .ok (.iadd, 1) := by decide +kernel
theorem dX1_goOn_6 : decode cX1_goOn 6 = .ok (.invokestatic 78, 3) := by decide +kernel
theorem dX1_goOn_9 : decode cX1_goOn 9 = .ok (.istore_n 1, 1) := by decide +kernel
theorem dX1_goOn_10 : decode cX1_goOn 10 = .ok (.aload_n 0, 1) := by decide +kernel
theorem dX1_goOn_11 : decode cX1_goOn 11 = .ok (.aload_n 0, 1) := by decide +kernel
theorem dX1_goOn_12 : decode cX1_goOn 12 = .ok (.getfield 40, 3) := by decide +kernel
theorem dX1_goOn_15 : decode cX1_goOn 15 = .ok (.iload_n 1, 1) := by decide +kernel
theorem dX1_goOn_16 : decode cX1_goOn 16 = .ok (.invokevirtual 99, 3) := by decide +kernel
theorem dX1_goOn_19 : decode cX1_goOn 19 = .ok (.istore_n 2, 1) := by decide +kernel
theorem dX1_goOn_20 : decode cX1_goOn 20 = .ok (.aload_n 0, 1) := by decide +kernel
theorem dX1_goOn_21 : decode cX1_goOn 21 = .ok (.iload_n 2, 1) := by decide +kernel
theorem dX1_goOn_22 : decode cX1_goOn 22 = .ok (.iload_n 1, 1) := by decide +kernel
theorem dX1_goOn_23 : decode cX1_goOn 23 = .ok (.invokevirtual 70, 3) := by decide +kernel
theorem dX1_goOn_26 : decode cX1_goOn 26 = .ok (.aload_n 0, 1) := by decide +kernel
theorem dX1_goOn_27 : decode cX1_goOn 27 = .ok (.getfield 33, 3) := by decide +kernel
theorem dX1_goOn_30 : decode cX1_goOn 30 = .ok (.iconst (-1), 1) := by decide +kernel
theorem dX1_goOn_31 : decode cX1_goOn 31 = .ok (.ixor, 1) := by decide +kernel
theorem dX1_goOn_32 : decode cX1_goOn 32 = .ok (.iand, 1) := by decide +kernel
theorem dX1_goOn_33 : decode cX1_goOn 33 = .ok (.istore_n 3, 1) := by decide +kernel
theorem dX1_goOn_34 : decode cX1_goOn 34 = .ok (.aload_n 0, 1) := by decide +kernel
theorem dX1_goOn_35 : decode cX1_goOn 35 = .ok (.iload_n 2, 1) := by decide +kernel
theorem dX1_goOn_36 : decode cX1_goOn 36 = .ok (.iload_n 1, 1) := by decide +kernel
theorem dX1_goOn_37 : decode cX1_goOn 37 = .ok (.invokevirtual 102, 3) := by decide +kernel
theorem dX1_goOn_40 : decode cX1_goOn 40 = .ok (.istore 4, 2) := by decide +kernel
theorem dX1_goOn_42 : decode cX1_goOn 42 = .ok (.aload_n 0, 1) := by decide +kernel
theorem dX1_goOn_43 : decode cX1_goOn 43 = .ok (.getfield 43, 3) := by decide +kernel
theorem dX1_goOn_46 : decode cX1_goOn 46 = .ok (.iload 4, 2) := by decide +kernel
theorem dX1_goOn_48 : decode cX1_goOn 48 = .ok (.if_icmp .ge 5, 3) := by decide +kernel
theorem dX1_goOn_51 : decode cX1_goOn 51 = .ok (.iconst 0, 1) := by decide +kernel
theorem dX1_goOn_52 : decode cX1_goOn 52 = .ok (.ireturn, 1) := by decide +kernel
theorem dX1_goOn_53 : decode cX1_goOn 53 = .ok (.aload_n 0, 1) := by decide +kernel
theorem dX1_goOn_54 : decode cX1_goOn 54 = .ok (.iload_n 1, 1) := by decide +kernel
theorem dX1_goOn_55 : decode cX1_goOn 55 = .ok (.putfield 37, 3) := by decide +kernel
theorem dX1_goOn_58 : decode cX1_goOn 58 = .ok (.aload_n 0, 1) := by decide +kernel
theorem dX1_goOn_59 : decode cX1_goOn 59 = .ok (.iload_n 2, 1) := by decide +kernel
theorem dX1_goOn_60 : decode cX1_goOn 60 = .ok (.putfield 40, 3) := by decide +kernel
theorem dX1_goOn_63 : decode cX1_goOn 63 = .ok (.aload_n 0, 1) := by decide +kernel
theorem dX1_goOn_64 : decode cX1_goOn 64 = .ok (.dup, 1) := by decide +kernel
theorem dX1_goOn_65 : decode cX1_goOn 65 = .ok (.getfield 43, 3) := by decide +kernel
theorem dX1_goOn_68 : decode cX1_goOn 68 = .ok (.iload 4, 2) := by decide +kernel
theorem dX1_goOn_70 : decode cX1_goOn 70 = .ok (.isub, 1) := by decide +kernel
theorem dX1_goOn_71 : decode cX1_goOn 71 = .ok (.putfield 43, 3) := by decide +kernel
theorem dX1_goOn_74 : decode cX1_goOn 74 = .ok (.aload_n 0, 1) := by decide +kernel
theorem dX1_goOn_75 : decode cX1_goOn 75 = .ok (.dup, 1) := by decide +kernel
theorem dX1_goOn_76 : decode cX1_goOn 76 = .ok (.getfield 61, 3) := by decide +kernel
theorem dX1_goOn_79 : decode cX1_goOn 79 = .ok (.iload 4, 2) := by decide +kernel
theorem dX1_goOn_81 : decode cX1_goOn 81 = .ok (.iadd, 1) := by decide +kernel
theorem dX1_goOn_82 : decode cX1_goOn 82 = .ok (.putfield 61, 3) := by decide +kernel
theorem dX1_goOn_85 : decode cX1_goOn 85 = .ok (.iconst 2, 1) := by decide +kernel
theorem dX1_goOn_86 : decode cX1_goOn 86 = .ok (.bipush 12, 2) := by decide +kernel
theorem dX1_goOn_88 : decode cX1_goOn 88 = .ok (.aload_n 0, 1) := by decide +kernel
theorem dX1_goOn_89 : decode cX1_goOn 89 = .ok (.getfield 43, 3) := by decide +kernel
theorem dX1_goOn_92 : decode cX1_goOn 92 = .ok (.bipush 50, 2) := by decide +kernel
theorem dX1_goOn_94 : decode cX1_goOn 94 = .ok (.idiv, 1) := by decide +kernel
theorem dX1_goOn_95 : decode cX1_goOn 95 = .ok (.isub, 1) := by decide +kernel
theorem dX1_goOn_96 : decode cX1_goOn 96 = .ok (.aload_n 0, 1) := by decide +kernel
theorem dX1_goOn_97 : decode cX1_goOn 97 = .ok (.getfield 46, 3) := by decide +kernel
theorem dX1_goOn_100 : decode cX1_goOn 100 = .ok (.iadd, 1) := by decide +kernel
theorem dX1_goOn_101 : decode cX1_goOn 101 = .ok (.invokestatic 105, 3) := by decide +kernel
theorem dX1_goOn_104 : decode cX1_goOn 104 = .ok (.istore 5, 2) := by decide +kernel
theorem dX1_goOn_106 : decode cX1_goOn 106 = .ok (.aload_n 0, 1) := by decide +kernel
theorem dX1_goOn_107 : decode cX1_goOn 107 = .ok (.dup, 1) := by decide +kernel
theorem dX1_goOn_108 : decode cX1_goOn 108 = .ok (.getfield 49, 3) := by decide +kernel
theorem dX1_goOn_111 : decode cX1_goOn 111 = .ok (.iload 5, 2) := by decide +kernel
theorem dX1_goOn_113 : decode cX1_goOn 113 = .ok (.iadd, 1) := by decide +kernel
theorem dX1_goOn_114 : decode cX1_goOn 114 = .ok (.putfield 49, 3) := by decide +kernel
theorem dX1_goOn_117 : decode cX1_goOn 117 = .ok (.aload_n 0, 1) := by decide +kernel
theorem dX1_goOn_118 : decode cX1_goOn 118 = .ok (.dup, 1) := by decide +kernel
theorem dX1_goOn_119 : decode cX1_goOn 119 = .ok (.getfield 52, 3) := by decide +kernel
theorem dX1_goOn_122 : decode cX1_goOn 122 = .ok (.iconst 1, 1) := by decide +kernel
theorem dX1_goOn_123 : decode cX1_goOn 123 = .ok (.iadd, 1) := by decide +kernel
theorem dX1_goOn_124 : decode cX1_goOn 124 = .ok (.putfield 52, 3) := by decide +kernel
theorem dX1_goOn_127 : decode cX1_goOn 127 = .ok (.iconst 0, 1) := by decide +kernel
theorem dX1_goOn_128 : decode cX1_goOn 128 = .ok (.istore 6, 2) := by decide +kernel
theorem dX1_goOn_130 : decode cX1_goOn 130 = .ok (.iload 6, 2) := by decide +kernel
theorem dX1_goOn_132 : decode cX1_goOn 132 = .ok (.bipush 12, 2) := by decide +kernel
theorem dX1_goOn_134 : decode cX1_goOn 134 = .ok (.if_icmp .ge 26, 3) := by decide +kernel
theorem dX1_goOn_137 : decode cX1_goOn 137 = .ok (.iload_n 3, 1) := by decide +kernel
theorem dX1_goOn_138 : decode cX1_goOn 138 = .ok (.iload 6, 2) := by decide +kernel
theorem dX1_goOn_140 : decode cX1_goOn 140 = .ok (.ishr, 1) := by decide +kernel
theorem dX1_goOn_141 : decode cX1_goOn 141 = .ok (.iconst 1, 1) := by decide +kernel
theorem dX1_goOn_142 : decode cX1_goOn 142 = .ok (.iand, 1) := by decide +kernel
theorem dX1_goOn_143 : decode cX1_goOn 143 = .ok (.ifCond .eq 11, 3) := by decide +kernel
theorem dX1_goOn_146 : decode cX1_goOn 146 = .ok (.aload_n 0, 1) := by decide +kernel
theorem dX1_goOn_147 : decode cX1_goOn 147 = .ok (.iload 6, 2) := by decide +kernel
theorem dX1_goOn_149 : decode cX1_goOn 149 = .ok (.iload 5, 2) := by decide +kernel
theorem dX1_goOn_151 : decode cX1_goOn 151 = .ok (.invokevirtual 110, 3) := by decide +kernel
theorem dX1_goOn_154 : decode cX1_goOn 154 = .ok (.iinc 6 1, 3) := by decide +kernel
theorem dX1_goOn_157 : decode cX1_goOn 157 = .ok (.goto (-27), 3) := by decide +kernel
theorem dX1_goOn_160 : decode cX1_goOn 160 = .ok (.iconst 1, 1) := by decide +kernel
theorem dX1_goOn_161 : decode cX1_goOn 161 = .ok (.ireturn, 1) := by decide +kernel
theorem dX1_tuneComing_0 : decode cX1_tuneComing 0 = .ok (.iload_n 2, 1) := by decide +kernel
theorem dX1_tuneComing_1 : decode cX1_tuneComing 1 = .ok (.ifCond .ne 20, 3) := by decide +kernel
theorem dX1_tuneComing_4 : decode cX1_tuneComing 4 = .ok (.aload_n 0, 1) := by decide +kernel
theorem dX1_tuneComing_5 : decode cX1_tuneComing 5 = .ok (.getfield 30, 3) := by decide +kernel
theorem dX1_tuneComing_8 : decode cX1_tuneComing 8 = .ok (.iconst 2, 1) := by decide +kernel
theorem dX1_tuneComing_9 : decode cX1_tuneComing 9 = .ok (.iaload, 1) := by decide +kernel
theorem dX1_tuneComing_10 : decode cX1_tuneComing 10 = .ok (.ifCond .eq 11, 3) := by decide +kernel
theorem dX1_tuneComing_13 : decode cX1_tuneComing 13 = .ok (.iload_n 1, 1) := by decide +kernel
theorem dX1_tuneComing_14 : decode cX1_tuneComing 14 = .ok (.iconst 1, 1) := by decide +kernel
theorem dX1_tuneComing_15 : decode cX1_tuneComing 15 = .ok (.iadd, 1) := by decide +kernel
theorem dX1_tuneComing_16 : decode cX1_tuneComing 16 = .ok (.iconst 3, 1) := by decide +kernel
theorem dX1_tuneComing_17 : decode cX1_tuneComing 17 = .ok (.irem, 1) := by decide +kernel
theorem dX1_tuneComing_18 : decode cX1_tuneComing 18 = .ok (.goto 4, 3) := by decide +kernel
theorem dX1_tuneComing_21 : decode cX1_tuneComing 21 = .ok (.iload_n 1, 1) := by decide +kernel
theorem dX1_tuneComing_22 : decode cX1_tuneComing 22 = .ok (.ireturn, 1) := by decide +kernel
set_option maxRecDepth 20000 in
theorem ggX1_windOfStep_X1_teethAt : GoodIn wsX1_windOfStep wsX1_teethAt := goodIn_r _ [6, 7, 15, 16, 17, 18, 19, 20, 21, 22, 23, 24, 25, 26, 27, 28, 29, 30, 31] rfl (by decide +kernel)
set_option maxRecDepth 20000 in
theorem gX1_windOfStep_X1_teethAt : GoodIn wsX1_windOfStep (wsV RX1 70 RX1 yX1_teethAt wsX1_teethAt) := goodIn_app (goodIn_r _ [2, 3, 4, 5] rfl (by decide +kernel)) ggX1_windOfStep_X1_teethAt
set_option maxRecDepth 20000 in
theorem ggX1_windOfStep_J6_bitCount_0f7a4 : GoodIn wsX1_windOfStep wsJ6_bitCount_0f7a4 := goodIn_r _ [11, 12, 13, 14] rfl (by decide +kernel)
set_option maxRecDepth 20000 in
theorem gX1_windOfStep_J6_bitCount_0f7a4 : GoodIn wsX1_windOfStep (va_wsS RX1 82 yJ6_bitCount_0f7a4 wsJ6_bitCount_0f7a4) := goodIn_app (goodIn_r _ [8, 9, 10] rfl (by decide +kernel)) ggX1_windOfStep_J6_bitCount_0f7a4
theorem dX1_windOfStep_0 : decode cX1_windOfStep 0 = .ok (.iconst 1, 1) := by decide +kernel
theorem dX1_windOfStep_1 : decode cX1_windOfStep 1 = .ok (.aload_n 0, 1) := by decide +kernel
theorem dX1_windOfStep_2 : decode cX1_windOfStep 2 = .ok (.iload_n 1, 1) := by decide +kernel
theorem dX1_windOfStep_3 : decode cX1_windOfStep 3 = .ok (.iload_n 2, 1) := by decide +kernel
theorem dX1_windOfStep_4 : decode cX1_windOfStep 4 = .ok (.invokevirtual 70, 3) := by decide +kernel
theorem dX1_windOfStep_7 : decode cX1_windOfStep 7 = .ok (.aload_n 0, 1) := by decide +kernel
theorem dX1_windOfStep_8 : decode cX1_windOfStep 8 = .ok (.getfield 33, 3) := by decide +kernel
theorem dX1_windOfStep_11 : decode cX1_windOfStep 11 = .ok (.iconst (-1), 1) := by decide +kernel
theorem dX1_windOfStep_12 : decode cX1_windOfStep 12 = .ok (.ixor, 1) := by decide +kernel
theorem dX1_windOfStep_13 : decode cX1_windOfStep 13 = .ok (.iand, 1) := by decide +kernel
theorem dX1_windOfStep_14 : decode cX1_windOfStep 14 = .ok (.invokestatic 82, 3) := by decide +kernel
theorem dX1_windOfStep_17 : decode cX1_windOfStep 17 = .ok (.iadd, 1) := by decide +kernel
theorem dX1_windOfStep_18 : decode cX1_windOfStep 18 = .ok (.ireturn, 1) := by decide +kernel
set_option maxRecDepth 20000 in
theorem ggX1_windOfSteps_X1_around : GoodIn wsX1_windOfSteps wsX1_around := goodIn_r _ [6, 7, 8, 9, 10] rfl (by decide +kernel)
set_option maxRecDepth 20000 in
theorem gX1_windOfSteps_X1_around : GoodIn wsX1_windOfSteps (va_wsS RX1 78 yX1_around wsX1_around) := goodIn_app (goodIn_r _ [3, 4, 5] rfl (by decide +kernel)) ggX1_windOfSteps_X1_around
set_option maxRecDepth 20000 in
theorem ggX1_windOfSteps_X1_tuneComing : GoodIn wsX1_windOfSteps wsX1_tuneComing := goodIn_r _ [14, 15, 33, 34, 35, 36, 37, 38, 39, 40, 41, 42, 43, 44, 45, 46, 47, 48, 49] rfl (by decide +kernel)
set_option maxRecDepth 20000 in
theorem gX1_windOfSteps_X1_tuneComing : GoodIn wsX1_windOfSteps (wsV RX1 99 RX1 yX1_tuneComing wsX1_tuneComing) := goodIn_app (goodIn_r _ [11, 12, 13, 5] rfl (by decide +kernel)) ggX1_windOfSteps_X1_tuneComing
set_option maxRecDepth 20000 in
theorem ggX1_windOfSteps_X1_windOfStep : GoodIn wsX1_windOfSteps wsX1_windOfStep := goodIn_r _ [19, 20, 21, 22, 23, 5, 24, 25, 26, 27, 28, 29, 30, 31, 32, 33, 34, 35, 36, 37, 38, 39, 40, 41, 42, 43, 44, 45, 46, 47, 48, 49] rfl (by decide +kernel)
set_option maxRecDepth 20000 in
theorem gX1_windOfSteps_X1_windOfStep : GoodIn wsX1_windOfSteps (wsV RX1 102 RX1 yX1_windOfStep wsX1_windOfStep) := goodIn_app (goodIn_r _ [16, 17, 18, 5] rfl (by decide +kernel)) ggX1_windOfSteps_X1_windOfStep
theorem dX1_windOfSteps_0 : decode cX1_windOfSteps 0 = .ok (.iconst 0, 1) := by decide +kernel
theorem dX1_windOfSteps_1 : decode cX1_windOfSteps 1 = .ok (.istore_n 2, 1) := by decide +kernel
theorem dX1_windOfSteps_2 : decode cX1_windOfSteps 2 = .ok (.aload_n 0, 1) := by decide +kernel
theorem dX1_windOfSteps_3 : decode cX1_windOfSteps 3 = .ok (.getfield 37, 3) := by decide +kernel
theorem dX1_windOfSteps_6 : decode cX1_windOfSteps 6 = .ok (.istore_n 3, 1) := by decide +kernel
theorem dX1_windOfSteps_7 : decode cX1_windOfSteps 7 = .ok (.aload_n 0, 1) := by decide +kernel
theorem dX1_windOfSteps_8 : decode cX1_windOfSteps 8 = .ok (.getfield 40, 3) := by decide +kernel
theorem dX1_windOfSteps_11 : decode cX1_windOfSteps 11 = .ok (.istore 4, 2) := by decide +kernel
theorem dX1_windOfSteps_13 : decode cX1_windOfSteps 13 = .ok (.iconst 0, 1) := by decide +kernel
theorem dX1_windOfSteps_14 : decode cX1_windOfSteps 14 = .ok (.istore 5, 2) := by decide +kernel
theorem dX1_windOfSteps_16 : decode cX1_windOfSteps 16 = .ok (.iload 5, 2) := by decide +kernel
theorem dX1_windOfSteps_18 : decode cX1_windOfSteps 18 = .ok (.iload_n 1, 1) := by decide +kernel
theorem dX1_windOfSteps_19 : decode cX1_windOfSteps 19 = .ok (.if_icmp .ge 35, 3) := by decide +kernel
theorem dX1_windOfSteps_22 : decode cX1_windOfSteps 22 = .ok (.iload_n 3, 1) := by decide +kernel
theorem dX1_windOfSteps_23 : decode cX1_windOfSteps 23 = .ok (.iconst 1, 1) := by decide +kernel
theorem dX1_windOfSteps_24 : decode cX1_windOfSteps 24 = .ok (.iadd, 1) := by decide +kernel
theorem dX1_windOfSteps_25 : decode cX1_windOfSteps 25 = .ok (.invokestatic 78, 3) := by decide +kernel
theorem dX1_windOfSteps_28 : decode cX1_windOfSteps 28 = .ok (.istore_n 3, 1) := by decide +kernel
theorem dX1_windOfSteps_29 : decode cX1_windOfSteps 29 = .ok (.aload_n 0, 1) := by decide +kernel
theorem dX1_windOfSteps_30 : decode cX1_windOfSteps 30 = .ok (.iload 4, 2) := by decide +kernel
theorem dX1_windOfSteps_32 : decode cX1_windOfSteps 32 = .ok (.iload_n 3, 1) := by decide +kernel
theorem dX1_windOfSteps_33 : decode cX1_windOfSteps 33 = .ok (.invokevirtual 99, 3) := by decide +kernel
theorem dX1_windOfSteps_36 : decode cX1_windOfSteps 36 = .ok (.istore 4, 2) := by decide +kernel
theorem dX1_windOfSteps_38 : decode cX1_windOfSteps 38 = .ok (.iload_n 2, 1) := by decide +kernel
theorem dX1_windOfSteps_39 : decode cX1_windOfSteps 39 = .ok (.aload_n 0, 1) := by decide +kernel
theorem dX1_windOfSteps_40 : decode cX1_windOfSteps 40 = .ok (.iload 4, 2) := by decide +kernel
theorem dX1_windOfSteps_42 : decode cX1_windOfSteps 42 = .ok (.iload_n 3, 1) := by decide +kernel
theorem dX1_windOfSteps_43 : decode cX1_windOfSteps 43 = .ok (.invokevirtual 102, 3) := by decide +kernel
theorem dX1_windOfSteps_46 : decode cX1_windOfSteps 46 = .ok (.iadd, 1) := by decide +kernel
theorem dX1_windOfSteps_47 : decode cX1_windOfSteps 47 = .ok (.istore_n 2, 1) := by decide +kernel
theorem dX1_windOfSteps_48 : decode cX1_windOfSteps 48 = .ok (.iinc 5 1, 3) := by decide +kernel
theorem dX1_windOfSteps_51 : decode cX1_windOfSteps 51 = .ok (.goto (-35), 3) := by decide +kernel
theorem dX1_windOfSteps_54 : decode cX1_windOfSteps 54 = .ok (.iload_n 2, 1) := by decide +kernel
theorem dX1_windOfSteps_55 : decode cX1_windOfSteps 55 = .ok (.ireturn, 1) := by decide +kernel
set_option maxRecDepth 20000 in
theorem ggX1_around_J9_floorMod_7cf53 : GoodIn wsX1_around wsJ9_floorMod_7cf53 := goodIn_r _ [4] rfl (by decide +kernel)
set_option maxRecDepth 20000 in
theorem gX1_around_J9_floorMod_7cf53 : GoodIn wsX1_around (va_wsS RX1 114 yJ9_floorMod_7cf53 wsJ9_floorMod_7cf53) := goodIn_app (goodIn_r _ [1, 2, 3] rfl (by decide +kernel)) ggX1_around_J9_floorMod_7cf53
theorem dX1_around_0 : decode cX1_around 0 = .ok (.iload_n 0, 1) := by decide +kernel
theorem dX1_around_1 : decode cX1_around 1 = .ok (.bipush 32, 2) := by decide +kernel
theorem dX1_around_3 : decode cX1_around 3 = .ok (.invokestatic 114, 3) := by decide +kernel
theorem dX1_around_6 : decode cX1_around 6 = .ok (.ireturn, 1) := by decide +kernel
set_option maxRecDepth 20000 in
theorem ggX1_strike_X1_ringsFor : GoodIn wsX1_strike wsX1_ringsFor := goodIn_r _ [7, 8, 9, 10, 11, 12, 13, 36, 37, 38, 39, 40, 41, 42, 43, 44, 45, 46, 47, 48, 49, 50, 51, 52] rfl (by decide +kernel)
set_option maxRecDepth 20000 in
theorem gX1_strike_X1_ringsFor : GoodIn wsX1_strike (wsV RX1 117 RX1 yX1_ringsFor wsX1_ringsFor) := goodIn_app (goodIn_r _ [3, 4, 5, 6] rfl (by decide +kernel)) ggX1_strike_X1_ringsFor
set_option maxRecDepth 20000 in
theorem ggX1_strike_X1_squeak : GoodIn wsX1_strike wsX1_squeak := goodIn_r _ [17, 18, 2, 19, 8, 9, 36, 37, 38, 39, 40, 41, 42, 43, 44, 45, 46, 47, 48, 49, 50, 51, 52] rfl (by decide +kernel)
set_option maxRecDepth 20000 in
theorem gX1_strike_X1_squeak : GoodIn wsX1_strike (wsV RX1 120 RX1 yX1_squeak wsX1_squeak) := goodIn_app (goodIn_r _ [14, 15, 16, 6] rfl (by decide +kernel)) ggX1_strike_X1_squeak
set_option maxRecDepth 20000 in
theorem ggX1_strike_X1_isBroken : GoodIn wsX1_strike wsX1_isBroken := goodIn_r _ [23, 19, 36, 37, 38, 39, 40, 41, 42, 43, 44, 45, 46, 47, 48, 49, 50, 51, 52] rfl (by decide +kernel)
set_option maxRecDepth 20000 in
theorem gX1_strike_X1_isBroken : GoodIn wsX1_strike (wsV RX1 124 RX1 yX1_isBroken wsX1_isBroken) := goodIn_app (goodIn_r _ [20, 21, 22, 6] rfl (by decide +kernel)) ggX1_strike_X1_isBroken
set_option maxRecDepth 20000 in
theorem ggX1_strike_X1_pluck : GoodIn wsX1_strike wsX1_pluck := goodIn_r _ [27, 8, 9, 1, 10, 11, 12, 13, 28, 29, 30, 31, 32, 33, 34, 35, 36, 37, 38, 39, 40, 41, 42, 43, 44, 45, 46, 47, 48, 49, 50, 51, 52] rfl (by decide +kernel)
set_option maxRecDepth 20000 in
theorem gX1_strike_X1_pluck : GoodIn wsX1_strike (wsV RX1 128 RX1 yX1_pluck wsX1_pluck) := goodIn_app (goodIn_r _ [24, 25, 26, 6] rfl (by decide +kernel)) ggX1_strike_X1_pluck
theorem dX1_strike_0 : decode cX1_strike 0 = .ok (.iload_n 2, 1) := by decide +kernel
theorem dX1_strike_1 : decode cX1_strike 1 = .ok (.aload_n 0, 1) := by decide +kernel
theorem dX1_strike_2 : decode cX1_strike 2 = .ok (.getfield 30, 3) := by decide +kernel
theorem dX1_strike_5 : decode cX1_strike 5 = .ok (.iconst 1, 1) := by decide +kernel
theorem dX1_strike_6 : decode cX1_strike 6 = .ok (.iaload, 1) := by decide +kernel
theorem dX1_strike_7 : decode cX1_strike 7 = .ok (.aload_n 0, 1) := by decide +kernel
theorem dX1_strike_8 : decode cX1_strike 8 = .ok (.getfield 18, 3) := by decide +kernel
theorem dX1_strike_11 : decode cX1_strike 11 = .ok (.iload_n 1, 1) := by decide +kernel
theorem dX1_strike_12 : decode cX1_strike 12 = .ok (.iaload, 1) := by decide +kernel
theorem dX1_strike_13 : decode cX1_strike 13 = .ok (.iadd, 1) := by decide +kernel
theorem dX1_strike_14 : decode cX1_strike 14 = .ok (.if_icmp .le 7, 3) := by decide +kernel
theorem dX1_strike_17 : decode cX1_strike 17 = .ok (.iconst 1, 1) := by decide +kernel
theorem dX1_strike_18 : decode cX1_strike 18 = .ok (.goto 4, 3) := by decide +kernel
theorem dX1_strike_21 : decode cX1_strike 21 = .ok (.iconst 0, 1) := by decide +kernel
theorem dX1_strike_22 : decode cX1_strike 22 = .ok (.istore_n 3, 1) := by decide +kernel
theorem dX1_strike_23 : decode cX1_strike 23 = .ok (.aload_n 0, 1) := by decide +kernel
theorem dX1_strike_24 : decode cX1_strike 24 = .ok (.iload_n 1, 1) := by decide +kernel
theorem dX1_strike_25 : decode cX1_strike 25 = .ok (.invokevirtual 117, 3) := by decide +kernel
theorem dX1_strike_28 : decode cX1_strike 28 = .ok (.ifCond .le 12, 3) := by decide +kernel
theorem dX1_strike_31 : decode cX1_strike 31 = .ok (.iload_n 3, 1) := by decide +kernel
theorem dX1_strike_32 : decode cX1_strike 32 = .ok (.ifCond .ne 8, 3) := by decide +kernel
theorem dX1_strike_35 : decode cX1_strike 35 = .ok (.aload_n 0, 1) := by decide +kernel
theorem dX1_strike_36 : decode cX1_strike 36 = .ok (.iload_n 1, 1) := by decide +kernel
theorem dX1_strike_37 : decode cX1_strike 37 = .ok (.invokevirtual 120, 3) := by decide +kernel
theorem dX1_strike_40 : decode cX1_strike 40 = .ok (.aload_n 0, 1) := by decide +kernel
theorem dX1_strike_41 : decode cX1_strike 41 = .ok (.iload_n 1, 1) := by decide +kernel
theorem dX1_strike_42 : decode cX1_strike 42 = .ok (.invokevirtual 124, 3) := by decide +kernel
theorem dX1_strike_45 : decode cX1_strike 45 = .ok (.ifCond .ne 8, 3) := by decide +kernel
theorem dX1_strike_48 : decode cX1_strike 48 = .ok (.aload_n 0, 1) := by decide +kernel
theorem dX1_strike_49 : decode cX1_strike 49 = .ok (.iload_n 1, 1) := by decide +kernel
theorem dX1_strike_50 : decode cX1_strike 50 = .ok (.invokevirtual 128, 3) := by decide +kernel
theorem dX1_strike_53 : decode cX1_strike 53 = .ok (.return_, 1) := by decide +kernel
theorem dX1_squeak_0 : decode cX1_squeak 0 = .ok (.aload_n 0, 1) := by decide +kernel
theorem dX1_squeak_1 : decode cX1_squeak 1 = .ok (.dup, 1) := by decide +kernel
theorem dX1_squeak_2 : decode cX1_squeak 2 = .ok (.getfield 58, 3) := by decide +kernel
theorem dX1_squeak_5 : decode cX1_squeak 5 = .ok (.iconst 1, 1) := by decide +kernel
theorem dX1_squeak_6 : decode cX1_squeak 6 = .ok (.iadd, 1) := by decide +kernel
theorem dX1_squeak_7 : decode cX1_squeak 7 = .ok (.putfield 58, 3) := by decide +kernel
theorem dX1_squeak_10 : decode cX1_squeak 10 = .ok (.aload_n 0, 1) := by decide +kernel
theorem dX1_squeak_11 : decode cX1_squeak 11 = .ok (.getfield 18, 3) := by decide +kernel
theorem dX1_squeak_14 : decode cX1_squeak 14 = .ok (.iload_n 1, 1) := by decide +kernel
theorem dX1_squeak_15 : decode cX1_squeak 15 = .ok (.iaload, 1) := by decide +kernel
theorem dX1_squeak_16 : decode cX1_squeak 16 = .ok (.bipush 9, 2) := by decide +kernel
theorem dX1_squeak_18 : decode cX1_squeak 18 = .ok (.if_icmp .ge 16, 3) := by decide +kernel
theorem dX1_squeak_21 : decode cX1_squeak 21 = .ok (.aload_n 0, 1) := by decide +kernel
theorem dX1_squeak_22 : decode cX1_squeak 22 = .ok (.getfield 18, 3) := by decide +kernel
theorem dX1_squeak_25 : decode cX1_squeak 25 = .ok (.iload_n 1, 1) := by decide +kernel
theorem dX1_squeak_26 : decode cX1_squeak 26 = .ok (.dup2, 1) := by decide +kernel
theorem dX1_squeak_27 : decode cX1_squeak 27 = .ok (.iaload, 1) := by decide +kernel
theorem dX1_squeak_28 : decode cX1_squeak 28 = .ok (.iconst 1, 1) := by decide +kernel
theorem dX1_squeak_29 : decode cX1_squeak 29 = .ok (.iadd, 1) := by decide +kernel
theorem dX1_squeak_30 : decode cX1_squeak 30 = .ok (.iastore, 1) := by decide +kernel
theorem dX1_squeak_31 : decode cX1_squeak 31 = .ok (.goto 25, 3) := by decide +kernel
theorem dX1_squeak_34 : decode cX1_squeak 34 = .ok (.aload_n 0, 1) := by decide +kernel
theorem dX1_squeak_35 : decode cX1_squeak 35 = .ok (.dup, 1) := by decide +kernel
theorem dX1_squeak_36 : decode cX1_squeak 36 = .ok (.getfield 33, 3) := by decide +kernel
theorem dX1_squeak_39 : decode cX1_squeak 39 = .ok (.iconst 1, 1) := by decide +kernel
theorem dX1_squeak_40 : decode cX1_squeak 40 = .ok (.iload_n 1, 1) := by decide +kernel
theorem dX1_squeak_41 : decode cX1_squeak 41 = .ok (.ishl, 1) := by decide +kernel
theorem dX1_squeak_42 : decode cX1_squeak 42 = .ok (.ior, 1) := by decide +kernel
theorem dX1_squeak_43 : decode cX1_squeak 43 = .ok (.putfield 33, 3) := by decide +kernel
theorem dX1_squeak_46 : decode cX1_squeak 46 = .ok (.aload_n 0, 1) := by decide +kernel
theorem dX1_squeak_47 : decode cX1_squeak 47 = .ok (.getfield 15, 3) := by decide +kernel
theorem dX1_squeak_50 : decode cX1_squeak 50 = .ok (.iload_n 1, 1) := by decide +kernel
theorem dX1_squeak_51 : decode cX1_squeak 51 = .ok (.aload_n 0, 1) := by decide +kernel
theorem dX1_squeak_52 : decode cX1_squeak 52 = .ok (.getfield 49, 3) := by decide +kernel
theorem dX1_squeak_55 : decode cX1_squeak 55 = .ok (.iastore, 1) := by decide +kernel
theorem dX1_squeak_56 : decode cX1_squeak 56 = .ok (.return_, 1) := by decide +kernel
set_option maxRecDepth 20000 in
theorem ggX1_pluck_J9_floorMod_7cf53 : GoodIn wsX1_pluck wsJ9_floorMod_7cf53 := goodIn_r _ [15] rfl (by decide +kernel)
set_option maxRecDepth 20000 in
theorem gX1_pluck_J9_floorMod_7cf53 : GoodIn wsX1_pluck (va_wsS RX1 114 yJ9_floorMod_7cf53 wsJ9_floorMod_7cf53) := goodIn_app (goodIn_r _ [12, 13, 14] rfl (by decide +kernel)) ggX1_pluck_J9_floorMod_7cf53
theorem dX1_pluck_0 : decode cX1_pluck 0 = .ok (.aload_n 0, 1) := by decide +kernel
theorem dX1_pluck_1 : decode cX1_pluck 1 = .ok (.getfield 15, 3) := by decide +kernel
theorem dX1_pluck_4 : decode cX1_pluck 4 = .ok (.iload_n 1, 1) := by decide +kernel
theorem dX1_pluck_5 : decode cX1_pluck 5 = .ok (.aload_n 0, 1) := by decide +kernel
theorem dX1_pluck_6 : decode cX1_pluck 6 = .ok (.getfield 49, 3) := by decide +kernel
theorem dX1_pluck_9 : decode cX1_pluck 9 = .ok (.iconst 4, 1) := by decide +kernel
theorem dX1_pluck_10 : decode cX1_pluck 10 = .ok (.aload_n 0, 1) := by decide +kernel
theorem dX1_pluck_11 : decode cX1_pluck 11 = .ok (.getfield 30, 3) := by decide +kernel
theorem dX1_pluck_14 : decode cX1_pluck 14 = .ok (.iconst 0, 1) := by decide +kernel
theorem dX1_pluck_15 : decode cX1_pluck 15 = .ok (.iaload, 1) := by decide +kernel
theorem dX1_pluck_16 : decode cX1_pluck 16 = .ok (.iconst 2, 1) := by decide +kernel
theorem dX1_pluck_17 : decode cX1_pluck 17 = .ok (.iload_n 1, 1) := by decide +kernel
theorem dX1_pluck_18 : decode cX1_pluck 18 = .ok (.imul, 1) := by decide +kernel
theorem dX1_pluck_19 : decode cX1_pluck 19 = .ok (.isub, 1) := by decide +kernel
theorem dX1_pluck_20 : decode cX1_pluck 20 = .ok (.invokestatic 105, 3) := by decide +kernel
theorem dX1_pluck_23 : decode cX1_pluck 23 = .ok (.iadd, 1) := by decide +kernel
theorem dX1_pluck_24 : decode cX1_pluck 24 = .ok (.iastore, 1) := by decide +kernel
theorem dX1_pluck_25 : decode cX1_pluck 25 = .ok (.aload_n 0, 1) := by decide +kernel
theorem dX1_pluck_26 : decode cX1_pluck 26 = .ok (.getfield 21, 3) := by decide +kernel
theorem dX1_pluck_29 : decode cX1_pluck 29 = .ok (.iload_n 1, 1) := by decide +kernel
theorem dX1_pluck_30 : decode cX1_pluck 30 = .ok (.dup2, 1) := by decide +kernel
theorem dX1_pluck_31 : decode cX1_pluck 31 = .ok (.iaload, 1) := by decide +kernel
theorem dX1_pluck_32 : decode cX1_pluck 32 = .ok (.iconst 1, 1) := by decide +kernel
theorem dX1_pluck_33 : decode cX1_pluck 33 = .ok (.iadd, 1) := by decide +kernel
theorem dX1_pluck_34 : decode cX1_pluck 34 = .ok (.iastore, 1) := by decide +kernel
theorem dX1_pluck_35 : decode cX1_pluck 35 = .ok (.aload_n 0, 1) := by decide +kernel
theorem dX1_pluck_36 : decode cX1_pluck 36 = .ok (.getfield 55, 3) := by decide +kernel
theorem dX1_pluck_39 : decode cX1_pluck 39 = .ok (.bipush 24, 2) := by decide +kernel
theorem dX1_pluck_41 : decode cX1_pluck 41 = .ok (.invokestatic 114, 3) := by decide +kernel
theorem dX1_pluck_44 : decode cX1_pluck 44 = .ok (.istore_n 2, 1) := by decide +kernel
theorem dX1_pluck_45 : decode cX1_pluck 45 = .ok (.aload_n 0, 1) := by decide +kernel
theorem dX1_pluck_46 : decode cX1_pluck 46 = .ok (.getfield 24, 3) := by decide +kernel
theorem dX1_pluck_49 : decode cX1_pluck 49 = .ok (.iload_n 2, 1) := by decide +kernel
theorem dX1_pluck_50 : decode cX1_pluck 50 = .ok (.iload_n 1, 1) := by decide +kernel
theorem dX1_pluck_51 : decode cX1_pluck 51 = .ok (.iastore, 1) := by decide +kernel
theorem dX1_pluck_52 : decode cX1_pluck 52 = .ok (.aload_n 0, 1) := by decide +kernel
theorem dX1_pluck_53 : decode cX1_pluck 53 = .ok (.getfield 27, 3) := by decide +kernel
theorem dX1_pluck_56 : decode cX1_pluck 56 = .ok (.iload_n 2, 1) := by decide +kernel
theorem dX1_pluck_57 : decode cX1_pluck 57 = .ok (.aload_n 0, 1) := by decide +kernel
theorem dX1_pluck_58 : decode cX1_pluck 58 = .ok (.getfield 49, 3) := by decide +kernel
theorem dX1_pluck_61 : decode cX1_pluck 61 = .ok (.iastore, 1) := by decide +kernel
theorem dX1_pluck_62 : decode cX1_pluck 62 = .ok (.aload_n 0, 1) := by decide +kernel
theorem dX1_pluck_63 : decode cX1_pluck 63 = .ok (.dup, 1) := by decide +kernel
theorem dX1_pluck_64 : decode cX1_pluck 64 = .ok (.getfield 55, 3) := by decide +kernel
theorem dX1_pluck_67 : decode cX1_pluck 67 = .ok (.iconst 1, 1) := by decide +kernel
theorem dX1_pluck_68 : decode cX1_pluck 68 = .ok (.iadd, 1) := by decide +kernel
theorem dX1_pluck_69 : decode cX1_pluck 69 = .ok (.putfield 55, 3) := by decide +kernel
theorem dX1_pluck_72 : decode cX1_pluck 72 = .ok (.return_, 1) := by decide +kernel
theorem dX1_mendTooth_0 : decode cX1_mendTooth 0 = .ok (.aload_n 0, 1) := by decide +kernel
theorem dX1_mendTooth_1 : decode cX1_mendTooth 1 = .ok (.getfield 18, 3) := by decide +kernel
theorem dX1_mendTooth_4 : decode cX1_mendTooth 4 = .ok (.iload_n 1, 1) := by decide +kernel
theorem dX1_mendTooth_5 : decode cX1_mendTooth 5 = .ok (.iaload, 1) := by decide +kernel
theorem dX1_mendTooth_6 : decode cX1_mendTooth 6 = .ok (.istore_n 2, 1) := by decide +kernel
theorem dX1_mendTooth_7 : decode cX1_mendTooth 7 = .ok (.aload_n 0, 1) := by decide +kernel
theorem dX1_mendTooth_8 : decode cX1_mendTooth 8 = .ok (.getfield 18, 3) := by decide +kernel
theorem dX1_mendTooth_11 : decode cX1_mendTooth 11 = .ok (.iload_n 1, 1) := by decide +kernel
theorem dX1_mendTooth_12 : decode cX1_mendTooth 12 = .ok (.iconst 0, 1) := by decide +kernel
theorem dX1_mendTooth_13 : decode cX1_mendTooth 13 = .ok (.iastore, 1) := by decide +kernel
theorem dX1_mendTooth_14 : decode cX1_mendTooth 14 = .ok (.aload_n 0, 1) := by decide +kernel
theorem dX1_mendTooth_15 : decode cX1_mendTooth 15 = .ok (.dup, 1) := by decide +kernel
theorem dX1_mendTooth_16 : decode cX1_mendTooth 16 = .ok (.getfield 33, 3) := by decide +kernel
theorem dX1_mendTooth_19 : decode cX1_mendTooth 19 = .ok (.iconst 1, 1) := by decide +kernel
theorem dX1_mendTooth_20 : decode cX1_mendTooth 20 = .ok (.iload_n 1, 1) := by decide +kernel
theorem dX1_mendTooth_21 : decode cX1_mendTooth 21 = .ok (.ishl, 1) := by decide +kernel
theorem dX1_mendTooth_22 : decode cX1_mendTooth 22 = .ok (.iconst (-1), 1) := by decide +kernel
theorem dX1_mendTooth_23 : decode cX1_mendTooth 23 = .ok (.ixor, 1) := by decide +kernel
theorem dX1_mendTooth_24 : decode cX1_mendTooth 24 = .ok (.iand, 1) := by decide +kernel
theorem dX1_mendTooth_25 : decode cX1_mendTooth 25 = .ok (.putfield 33, 3) := by decide +kernel
theorem dX1_mendTooth_28 : decode cX1_mendTooth 28 = .ok (.aload_n 0, 1) := by decide +kernel
theorem dX1_mendTooth_29 : decode cX1_mendTooth 29 = .ok (.getfield 15, 3) := by decide +kernel
theorem dX1_mendTooth_32 : decode cX1_mendTooth 32 = .ok (.iload_n 1, 1) := by decide +kernel
theorem dX1_mendTooth_33 : decode cX1_mendTooth 33 = .ok (.aload_n 0, 1) := by decide +kernel
theorem dX1_mendTooth_34 : decode cX1_mendTooth 34 = .ok (.getfield 49, 3) := by decide +kernel
theorem dX1_mendTooth_37 : decode cX1_mendTooth 37 = .ok (.iastore, 1) := by decide +kernel
theorem dX1_mendTooth_38 : decode cX1_mendTooth 38 = .ok (.iload_n 2, 1) := by decide +kernel
theorem dX1_mendTooth_39 : decode cX1_mendTooth 39 = .ok (.ireturn, 1) := by decide +kernel
theorem dX1_isBroken_0 : decode cX1_isBroken 0 = .ok (.aload_n 0, 1) := by decide +kernel
theorem dX1_isBroken_1 : decode cX1_isBroken 1 = .ok (.getfield 33, 3) := by decide +kernel
theorem dX1_isBroken_4 : decode cX1_isBroken 4 = .ok (.iload_n 1, 1) := by decide +kernel
theorem dX1_isBroken_5 : decode cX1_isBroken 5 = .ok (.ishr, 1) := by decide +kernel
theorem dX1_isBroken_6 : decode cX1_isBroken 6 = .ok (.iconst 1, 1) := by decide +kernel
theorem dX1_isBroken_7 : decode cX1_isBroken 7 = .ok (.iand, 1) := by decide +kernel
theorem dX1_isBroken_8 : decode cX1_isBroken 8 = .ok (.ifCond .eq 7, 3) := by decide +kernel
theorem dX1_isBroken_11 : decode cX1_isBroken 11 = .ok (.iconst 1, 1) := by decide +kernel
theorem dX1_isBroken_12 : decode cX1_isBroken 12 = .ok (.goto 4, 3) := by decide +kernel
theorem dX1_isBroken_15 : decode cX1_isBroken 15 = .ok (.iconst 0, 1) := by decide +kernel
theorem dX1_isBroken_16 : decode cX1_isBroken 16 = .ok (.ireturn, 1) := by decide +kernel
theorem dX1_ringsFor_0 : decode cX1_ringsFor 0 = .ok (.iconst 0, 1) := by decide +kernel
theorem dX1_ringsFor_1 : decode cX1_ringsFor 1 = .ok (.aload_n 0, 1) := by decide +kernel
theorem dX1_ringsFor_2 : decode cX1_ringsFor 2 = .ok (.getfield 15, 3) := by decide +kernel
theorem dX1_ringsFor_5 : decode cX1_ringsFor 5 = .ok (.iload_n 1, 1) := by decide +kernel
theorem dX1_ringsFor_6 : decode cX1_ringsFor 6 = .ok (.iaload, 1) := by decide +kernel
theorem dX1_ringsFor_7 : decode cX1_ringsFor 7 = .ok (.aload_n 0, 1) := by decide +kernel
theorem dX1_ringsFor_8 : decode cX1_ringsFor 8 = .ok (.getfield 49, 3) := by decide +kernel
theorem dX1_ringsFor_11 : decode cX1_ringsFor 11 = .ok (.isub, 1) := by decide +kernel
theorem dX1_ringsFor_12 : decode cX1_ringsFor 12 = .ok (.invokestatic 105, 3) := by decide +kernel
theorem dX1_ringsFor_15 : decode cX1_ringsFor 15 = .ok (.ireturn, 1) := by decide +kernel
set_option maxRecDepth 20000 in
theorem ggX1_teethBroken_J6_bitCount_0f7a4 : GoodIn wsX1_teethBroken wsJ6_bitCount_0f7a4 := goodIn_r _ [5, 6, 7, 8] rfl (by decide +kernel)
set_option maxRecDepth 20000 in
theorem gX1_teethBroken_J6_bitCount_0f7a4 : GoodIn wsX1_teethBroken (va_wsS RX1 82 yJ6_bitCount_0f7a4 wsJ6_bitCount_0f7a4) := goodIn_app (goodIn_r _ [2, 3, 4] rfl (by decide +kernel)) ggX1_teethBroken_J6_bitCount_0f7a4
theorem dX1_teethBroken_0 : decode cX1_teethBroken 0 = .ok (.aload_n 0, 1) := by decide +kernel
theorem dX1_teethBroken_1 : decode cX1_teethBroken 1 = .ok (.getfield 33, 3) := by decide +kernel
theorem dX1_teethBroken_4 : decode cX1_teethBroken 4 = .ok (.invokestatic 82, 3) := by decide +kernel
theorem dX1_teethBroken_7 : decode cX1_teethBroken 7 = .ok (.ireturn, 1) := by decide +kernel
set_option maxRecDepth 20000 in
theorem ggX1_teethRinging_X1_ringsFor : GoodIn wsX1_teethRinging wsX1_ringsFor := goodIn_r _ [5, 6, 7, 8, 9, 10, 11, 12, 13, 14, 15, 16, 17, 18, 19, 20, 21, 22, 23, 24, 25, 26, 27, 28] rfl (by decide +kernel)
set_option maxRecDepth 20000 in
theorem gX1_teethRinging_X1_ringsFor : GoodIn wsX1_teethRinging (wsV RX1 117 RX1 yX1_ringsFor wsX1_ringsFor) := goodIn_app (goodIn_r _ [1, 2, 3, 4] rfl (by decide +kernel)) ggX1_teethRinging_X1_ringsFor
theorem dX1_teethRinging_0 : decode cX1_teethRinging 0 = .ok (.iconst 0, 1) := by decide +kernel
theorem dX1_teethRinging_1 : decode cX1_teethRinging 1 = .ok (.istore_n 1, 1) := by decide +kernel
theorem dX1_teethRinging_2 : decode cX1_teethRinging 2 = .ok (.iconst 0, 1) := by decide +kernel
theorem dX1_teethRinging_3 : decode cX1_teethRinging 3 = .ok (.istore_n 2, 1) := by decide +kernel
theorem dX1_teethRinging_4 : decode cX1_teethRinging 4 = .ok (.iload_n 2, 1) := by decide +kernel
theorem dX1_teethRinging_5 : decode cX1_teethRinging 5 = .ok (.bipush 12, 2) := by decide +kernel
theorem dX1_teethRinging_7 : decode cX1_teethRinging 7 = .ok (.if_icmp .ge 20, 3) := by decide +kernel
theorem dX1_teethRinging_10 : decode cX1_teethRinging 10 = .ok (.aload_n 0, 1) := by decide +kernel
theorem dX1_teethRinging_11 : decode cX1_teethRinging 11 = .ok (.iload_n 2, 1) := by decide +kernel
theorem dX1_teethRinging_12 : decode cX1_teethRinging 12 = .ok (.invokevirtual 117, 3) := by decide +kernel
theorem dX1_teethRinging_15 : decode cX1_teethRinging 15 = .ok (.ifCond .le 6, 3) := by decide +kernel
theorem dX1_teethRinging_18 : decode cX1_teethRinging 18 = .ok (.iinc 1 1, 3) := by decide +kernel
theorem dX1_teethRinging_21 : decode cX1_teethRinging 21 = .ok (.iinc 2 1, 3) := by decide +kernel
theorem dX1_teethRinging_24 : decode cX1_teethRinging 24 = .ok (.goto (-20), 3) := by decide +kernel
theorem dX1_teethRinging_27 : decode cX1_teethRinging 27 = .ok (.iload_n 1, 1) := by decide +kernel
theorem dX1_teethRinging_28 : decode cX1_teethRinging 28 = .ok (.ireturn, 1) := by decide +kernel
theorem dX1_notesKept_0 : decode cX1_notesKept 0 = .ok (.bipush 24, 2) := by decide +kernel
theorem dX1_notesKept_2 : decode cX1_notesKept 2 = .ok (.aload_n 0, 1) := by decide +kernel
theorem dX1_notesKept_3 : decode cX1_notesKept 3 = .ok (.getfield 55, 3) := by decide +kernel
theorem dX1_notesKept_6 : decode cX1_notesKept 6 = .ok (.invokestatic 131, 3) := by decide +kernel
theorem dX1_notesKept_9 : decode cX1_notesKept 9 = .ok (.ireturn, 1) := by decide +kernel
set_option maxRecDepth 20000 in
theorem ggX1_noteTooth_X1_slotOf : GoodIn wsX1_noteTooth wsX1_slotOf := goodIn_r _ [6, 7, 8, 9, 10, 11, 12, 13, 14, 15, 16, 17, 18, 19, 20, 21, 22, 23, 24, 25, 26, 27, 28] rfl (by decide +kernel)
set_option maxRecDepth 20000 in
theorem gX1_noteTooth_X1_slotOf : GoodIn wsX1_noteTooth (wsV RX1 134 RX1 yX1_slotOf wsX1_slotOf) := goodIn_app (goodIn_r _ [2, 3, 4, 5] rfl (by decide +kernel)) ggX1_noteTooth_X1_slotOf
theorem dX1_noteTooth_0 : decode cX1_noteTooth 0 = .ok (.aload_n 0, 1) := by decide +kernel
theorem dX1_noteTooth_1 : decode cX1_noteTooth 1 = .ok (.getfield 24, 3) := by decide +kernel
theorem dX1_noteTooth_4 : decode cX1_noteTooth 4 = .ok (.aload_n 0, 1) := by decide +kernel
theorem dX1_noteTooth_5 : decode cX1_noteTooth 5 = .ok (.iload_n 1, 1) := by decide +kernel
theorem dX1_noteTooth_6 : decode cX1_noteTooth 6 = .ok (.invokevirtual 134, 3) := by decide +kernel
theorem dX1_noteTooth_9 : decode cX1_noteTooth 9 = .ok (.iaload, 1) := by decide +kernel
theorem dX1_noteTooth_10 : decode cX1_noteTooth 10 = .ok (.ireturn, 1) := by decide +kernel
set_option maxRecDepth 20000 in
theorem ggX1_noteTime_X1_slotOf : GoodIn wsX1_noteTime wsX1_slotOf := goodIn_r _ [6, 7, 8, 9, 10, 11, 12, 13, 14, 15, 16, 17, 18, 19, 20, 21, 22, 23, 24, 25, 26, 27, 28] rfl (by decide +kernel)
set_option maxRecDepth 20000 in
theorem gX1_noteTime_X1_slotOf : GoodIn wsX1_noteTime (wsV RX1 134 RX1 yX1_slotOf wsX1_slotOf) := goodIn_app (goodIn_r _ [2, 3, 4, 5] rfl (by decide +kernel)) ggX1_noteTime_X1_slotOf
theorem dX1_noteTime_0 : decode cX1_noteTime 0 = .ok (.aload_n 0, 1) := by decide +kernel
theorem dX1_noteTime_1 : decode cX1_noteTime 1 = .ok (.getfield 27, 3) := by decide +kernel
theorem dX1_noteTime_4 : decode cX1_noteTime 4 = .ok (.aload_n 0, 1) := by decide +kernel
theorem dX1_noteTime_5 : decode cX1_noteTime 5 = .ok (.iload_n 1, 1) := by decide +kernel
theorem dX1_noteTime_6 : decode cX1_noteTime 6 = .ok (.invokevirtual 134, 3) := by decide +kernel
theorem dX1_noteTime_9 : decode cX1_noteTime 9 = .ok (.iaload, 1) := by decide +kernel
theorem dX1_noteTime_10 : decode cX1_noteTime 10 = .ok (.ireturn, 1) := by decide +kernel
set_option maxRecDepth 20000 in
theorem ggX1_slotOf_J9_floorMod_7cf53 : GoodIn wsX1_slotOf wsJ9_floorMod_7cf53 := goodIn_r _ [5] rfl (by decide +kernel)
set_option maxRecDepth 20000 in
theorem gX1_slotOf_J9_floorMod_7cf53 : GoodIn wsX1_slotOf (va_wsS RX1 114 yJ9_floorMod_7cf53 wsJ9_floorMod_7cf53) := goodIn_app (goodIn_r _ [2, 3, 4] rfl (by decide +kernel)) ggX1_slotOf_J9_floorMod_7cf53
theorem dX1_slotOf_0 : decode cX1_slotOf 0 = .ok (.aload_n 0, 1) := by decide +kernel
theorem dX1_slotOf_1 : decode cX1_slotOf 1 = .ok (.getfield 55, 3) := by decide +kernel
theorem dX1_slotOf_4 : decode cX1_slotOf 4 = .ok (.iconst 1, 1) := by decide +kernel
theorem dX1_slotOf_5 : decode cX1_slotOf 5 = .ok (.isub, 1) := by decide +kernel
theorem dX1_slotOf_6 : decode cX1_slotOf 6 = .ok (.iload_n 1, 1) := by decide +kernel
theorem dX1_slotOf_7 : decode cX1_slotOf 7 = .ok (.isub, 1) := by decide +kernel
theorem dX1_slotOf_8 : decode cX1_slotOf 8 = .ok (.bipush 24, 2) := by decide +kernel
theorem dX1_slotOf_10 : decode cX1_slotOf 10 = .ok (.invokestatic 114, 3) := by decide +kernel
theorem dX1_slotOf_13 : decode cX1_slotOf 13 = .ok (.ireturn, 1) := by decide +kernel
set_option maxRecDepth 20000 in
theorem ggX1_pinsOf_X1_teethAt : GoodIn wsX1_pinsOf wsX1_teethAt := goodIn_r _ [5, 6, 14, 15, 16, 17, 18, 19, 20, 21, 22, 23, 24, 25, 26, 27, 28, 29, 30] rfl (by decide +kernel)
set_option maxRecDepth 20000 in
theorem gX1_pinsOf_X1_teethAt : GoodIn wsX1_pinsOf (wsV RX1 70 RX1 yX1_teethAt wsX1_teethAt) := goodIn_app (goodIn_r _ [1, 2, 3, 4] rfl (by decide +kernel)) ggX1_pinsOf_X1_teethAt
set_option maxRecDepth 20000 in
theorem ggX1_pinsOf_J6_bitCount_0f7a4 : GoodIn wsX1_pinsOf wsJ6_bitCount_0f7a4 := goodIn_r _ [10, 11, 12, 13] rfl (by decide +kernel)
set_option maxRecDepth 20000 in
theorem gX1_pinsOf_J6_bitCount_0f7a4 : GoodIn wsX1_pinsOf (va_wsS RX1 82 yJ6_bitCount_0f7a4 wsJ6_bitCount_0f7a4) := goodIn_app (goodIn_r _ [7, 8, 9] rfl (by decide +kernel)) ggX1_pinsOf_J6_bitCount_0f7a4
theorem dX1_pinsOf_0 : decode cX1_pinsOf 0 = .ok (.iconst 0, 1) := by decide +kernel
theorem dX1_pinsOf_1 : decode cX1_pinsOf 1 = .ok (.istore_n 2, 1) := by decide +kernel
theorem dX1_pinsOf_2 : decode cX1_pinsOf 2 = .ok (.iconst 0, 1) := by decide +kernel
theorem dX1_pinsOf_3 : decode cX1_pinsOf 3 = .ok (.istore_n 3, 1) := by decide +kernel
theorem dX1_pinsOf_4 : decode cX1_pinsOf 4 = .ok (.iload_n 3, 1) := by decide +kernel
theorem dX1_pinsOf_5 : decode cX1_pinsOf 5 = .ok (.bipush 32, 2) := by decide +kernel
theorem dX1_pinsOf_7 : decode cX1_pinsOf 7 = .ok (.if_icmp .ge 21, 3) := by decide +kernel
theorem dX1_pinsOf_10 : decode cX1_pinsOf 10 = .ok (.iload_n 2, 1) := by decide +kernel
theorem dX1_pinsOf_11 : decode cX1_pinsOf 11 = .ok (.aload_n 0, 1) := by decide +kernel
theorem dX1_pinsOf_12 : decode cX1_pinsOf 12 = .ok (.iload_n 1, 1) := by decide +kernel
theorem dX1_pinsOf_13 : decode cX1_pinsOf 13 = .ok (.iload_n 3, 1) := by decide +kernel
theorem dX1_pinsOf_14 : decode cX1_pinsOf 14 = .ok (.invokevirtual 70, 3) := by decide +kernel
theorem dX1_pinsOf_17 : decode cX1_pinsOf 17 = .ok (.invokestatic 82, 3) := by decide +kernel
theorem dX1_pinsOf_20 : decode cX1_pinsOf 20 = .ok (.iadd, 1) := by decide +kernel
theorem dX1_pinsOf_21 : decode cX1_pinsOf 21 = .ok (.istore_n 2, 1) := by decide +kernel
theorem dX1_pinsOf_22 : decode cX1_pinsOf 22 = .ok (.iinc 3 1, 3) := by decide +kernel
theorem dX1_pinsOf_25 : decode cX1_pinsOf 25 = .ok (.goto (-21), 3) := by decide +kernel
theorem dX1_pinsOf_28 : decode cX1_pinsOf 28 = .ok (.iload_n 2, 1) := by decide +kernel
theorem dX1_pinsOf_29 : decode cX1_pinsOf 29 = .ok (.ireturn, 1) := by decide +kernel
set_option maxRecDepth 20000 in
theorem ggX1_pinsOfAll_X1_pinsOf : GoodIn wsX1_pinsOfAll wsX1_pinsOf := goodIn_r _ [5, 6, 7, 8, 4, 9, 10, 11, 12, 13, 14, 15, 16, 17, 18, 19, 20, 21, 22, 23, 24, 25, 26, 27, 28, 29, 30, 31, 32, 33, 34] rfl (by decide +kernel)
set_option maxRecDepth 20000 in
theorem gX1_pinsOfAll_X1_pinsOf : GoodIn wsX1_pinsOfAll (wsV RX1 137 RX1 yX1_pinsOf wsX1_pinsOf) := goodIn_app (goodIn_r _ [1, 2, 3, 4] rfl (by decide +kernel)) ggX1_pinsOfAll_X1_pinsOf
theorem dX1_pinsOfAll_0 : decode cX1_pinsOfAll 0 = .ok (.iconst 0, 1) := by decide +kernel
theorem dX1_pinsOfAll_1 : decode cX1_pinsOfAll 1 = .ok (.istore_n 1, 1) := by decide +kernel
theorem dX1_pinsOfAll_2 : decode cX1_pinsOfAll 2 = .ok (.iconst 0, 1) := by decide +kernel
theorem dX1_pinsOfAll_3 : decode cX1_pinsOfAll 3 = .ok (.istore_n 2, 1) := by decide +kernel
theorem dX1_pinsOfAll_4 : decode cX1_pinsOfAll 4 = .ok (.iload_n 2, 1) := by decide +kernel
theorem dX1_pinsOfAll_5 : decode cX1_pinsOfAll 5 = .ok (.iconst 3, 1) := by decide +kernel
theorem dX1_pinsOfAll_6 : decode cX1_pinsOfAll 6 = .ok (.if_icmp .ge 17, 3) := by decide +kernel
theorem dX1_pinsOfAll_9 : decode cX1_pinsOfAll 9 = .ok (.iload_n 1, 1) := by decide +kernel
theorem dX1_pinsOfAll_10 : decode cX1_pinsOfAll 10 = .ok (.aload_n 0, 1) := by decide +kernel
theorem dX1_pinsOfAll_11 : decode cX1_pinsOfAll 11 = .ok (.iload_n 2, 1) := by decide +kernel
theorem dX1_pinsOfAll_12 : decode cX1_pinsOfAll 12 = .ok (.invokevirtual 137, 3) := by decide +kernel
theorem dX1_pinsOfAll_15 : decode cX1_pinsOfAll 15 = .ok (.iadd, 1) := by decide +kernel
theorem dX1_pinsOfAll_16 : decode cX1_pinsOfAll 16 = .ok (.istore_n 1, 1) := by decide +kernel
theorem dX1_pinsOfAll_17 : decode cX1_pinsOfAll 17 = .ok (.iinc 2 1, 3) := by decide +kernel
theorem dX1_pinsOfAll_20 : decode cX1_pinsOfAll 20 = .ok (.goto (-16), 3) := by decide +kernel
theorem dX1_pinsOfAll_23 : decode cX1_pinsOfAll 23 = .ok (.iload_n 1, 1) := by decide +kernel
theorem dX1_pinsOfAll_24 : decode cX1_pinsOfAll 24 = .ok (.ireturn, 1) := by decide +kernel
set_option maxRecDepth 20000 in
theorem ggX1_pinsByTooth_X1_hasPin : GoodIn wsX1_pinsByTooth wsX1_hasPin := goodIn_r _ [5, 6, 7, 8, 4, 9, 10, 11, 12, 13, 14, 15, 16, 17, 18, 19, 20, 21, 22, 23, 24, 25, 26, 27] rfl (by decide +kernel)
set_option maxRecDepth 20000 in
theorem gX1_pinsByTooth_X1_hasPin : GoodIn wsX1_pinsByTooth (wsV RX1 74 RX1 yX1_hasPin wsX1_hasPin) := goodIn_app (goodIn_r _ [1, 2, 3, 4] rfl (by decide +kernel)) ggX1_pinsByTooth_X1_hasPin
theorem dX1_pinsByTooth_0 : decode cX1_pinsByTooth 0 = .ok (.iconst 0, 1) := by decide +kernel
theorem dX1_pinsByTooth_1 : decode cX1_pinsByTooth 1 = .ok (.istore_n 2, 1) := by decide +kernel
theorem dX1_pinsByTooth_2 : decode cX1_pinsByTooth 2 = .ok (.iconst 0, 1) := by decide +kernel
theorem dX1_pinsByTooth_3 : decode cX1_pinsByTooth 3 = .ok (.istore_n 3, 1) := by decide +kernel
theorem dX1_pinsByTooth_4 : decode cX1_pinsByTooth 4 = .ok (.iload_n 3, 1) := by decide +kernel
theorem dX1_pinsByTooth_5 : decode cX1_pinsByTooth 5 = .ok (.bipush 12, 2) := by decide +kernel
theorem dX1_pinsByTooth_7 : decode cX1_pinsByTooth 7 = .ok (.if_icmp .ge 39, 3) := by decide +kernel
theorem dX1_pinsByTooth_10 : decode cX1_pinsByTooth 10 = .ok (.iconst 0, 1) := by decide +kernel
theorem dX1_pinsByTooth_11 : decode cX1_pinsByTooth 11 = .ok (.istore 4, 2) := by decide +kernel
theorem dX1_pinsByTooth_13 : decode cX1_pinsByTooth 13 = .ok (.iload 4, 2) := by decide +kernel
theorem dX1_pinsByTooth_15 : decode cX1_pinsByTooth 15 = .ok (.bipush 32, 2) := by decide +kernel
theorem dX1_pinsByTooth_17 : decode cX1_pinsByTooth 17 = .ok (.if_icmp .ge 23, 3) := by decide +kernel
theorem dX1_pinsByTooth_20 : decode cX1_pinsByTooth 20 = .ok (.aload_n 0, 1) := by decide +kernel
theorem dX1_pinsByTooth_21 : decode cX1_pinsByTooth 21 = .ok (.iload_n 1, 1) := by decide +kernel
theorem dX1_pinsByTooth_22 : decode cX1_pinsByTooth 22 = .ok (.iload_n 3, 1) := by decide +kernel
theorem dX1_pinsByTooth_23 : decode cX1_pinsByTooth 23 = .ok (.iload 4, 2) := by decide +kernel
theorem dX1_pinsByTooth_25 : decode cX1_pinsByTooth 25 = .ok (.invokevirtual 74, 3) := by decide +kernel
theorem dX1_pinsByTooth_28 : decode cX1_pinsByTooth 28 = .ok (.ifCond .eq 6, 3) := by decide +kernel
theorem dX1_pinsByTooth_31 : decode cX1_pinsByTooth 31 = .ok (.iinc 2 1, 3) := by decide +kernel
theorem dX1_pinsByTooth_34 : decode cX1_pinsByTooth 34 = .ok (.iinc 4 1, 3) := by decide +kernel
theorem dX1_pinsByTooth_37 : decode cX1_pinsByTooth 37 = .ok (.goto (-24), 3) := by decide +kernel
theorem dX1_pinsByTooth_40 : decode cX1_pinsByTooth 40 = .ok (.iinc 3 1, 3) := by decide +kernel
theorem dX1_pinsByTooth_43 : decode cX1_pinsByTooth 43 = .ok (.goto (-39), 3) := by decide +kernel
theorem dX1_pinsByTooth_46 : decode cX1_pinsByTooth 46 = .ok (.iload_n 2, 1) := by decide +kernel
theorem dX1_pinsByTooth_47 : decode cX1_pinsByTooth 47 = .ok (.ireturn, 1) := by decide +kernel
set_option maxRecDepth 20000 in
theorem ggX1_fullestStep_X1_teethAt : GoodIn wsX1_fullestStep wsX1_teethAt := goodIn_r _ [5, 6, 14, 15, 16, 17, 18, 19, 20, 21, 22, 23, 24, 25, 26, 27, 28, 29, 30] rfl (by decide +kernel)
set_option maxRecDepth 20000 in
theorem gX1_fullestStep_X1_teethAt : GoodIn wsX1_fullestStep (wsV RX1 70 RX1 yX1_teethAt wsX1_teethAt) := goodIn_app (goodIn_r _ [1, 2, 3, 4] rfl (by decide +kernel)) ggX1_fullestStep_X1_teethAt
set_option maxRecDepth 20000 in
theorem ggX1_fullestStep_J6_bitCount_0f7a4 : GoodIn wsX1_fullestStep wsJ6_bitCount_0f7a4 := goodIn_r _ [10, 11, 12, 13] rfl (by decide +kernel)
set_option maxRecDepth 20000 in
theorem gX1_fullestStep_J6_bitCount_0f7a4 : GoodIn wsX1_fullestStep (va_wsS RX1 82 yJ6_bitCount_0f7a4 wsJ6_bitCount_0f7a4) := goodIn_app (goodIn_r _ [7, 8, 9] rfl (by decide +kernel)) ggX1_fullestStep_J6_bitCount_0f7a4
theorem dX1_fullestStep_0 : decode cX1_fullestStep 0 = .ok (.iconst 0, 1) := by decide +kernel
theorem dX1_fullestStep_1 : decode cX1_fullestStep 1 = .ok (.istore_n 2, 1) := by decide +kernel
theorem dX1_fullestStep_2 : decode cX1_fullestStep 2 = .ok (.iconst 1, 1) := by decide +kernel
theorem dX1_fullestStep_3 : decode cX1_fullestStep 3 = .ok (.istore_n 3, 1) := by decide +kernel
theorem dX1_fullestStep_4 : decode cX1_fullestStep 4 = .ok (.iload_n 3, 1) := by decide +kernel
theorem dX1_fullestStep_5 : decode cX1_fullestStep 5 = .ok (.bipush 32, 2) := by decide +kernel
theorem dX1_fullestStep_7 : decode cX1_fullestStep 7 = .ok (.if_icmp .ge 32, 3) := by decide +kernel
theorem dX1_fullestStep_10 : decode cX1_fullestStep 10 = .ok (.aload_n 0, 1) := by decide +kernel
theorem dX1_fullestStep_11 : decode cX1_fullestStep 11 = .ok (.iload_n 1, 1) := by decide +kernel
theorem dX1_fullestStep_12 : decode cX1_fullestStep 12 = .ok (.iload_n 3, 1) := by decide +kernel
theorem dX1_fullestStep_13 : decode cX1_fullestStep 13 = .ok (.invokevirtual 70, 3) := by decide +kernel
theorem dX1_fullestStep_16 : decode cX1_fullestStep 16 = .ok (.invokestatic 82, 3) := by decide +kernel
theorem dX1_fullestStep_19 : decode cX1_fullestStep 19 = .ok (.aload_n 0, 1) := by decide +kernel
theorem dX1_fullestStep_20 : decode cX1_fullestStep 20 = .ok (.iload_n 1, 1) := by decide +kernel
theorem dX1_fullestStep_21 : decode cX1_fullestStep 21 = .ok (.iload_n 2, 1) := by decide +kernel
theorem dX1_fullestStep_22 : decode cX1_fullestStep 22 = .ok (.invokevirtual 70, 3) := by decide +kernel
theorem dX1_fullestStep_25 : decode cX1_fullestStep 25 = .ok (.invokestatic 82, 3) := by decide +kernel
theorem dX1_fullestStep_28 : decode cX1_fullestStep 28 = .ok (.if_icmp .le 5, 3) := by decide +kernel
theorem dX1_fullestStep_31 : decode cX1_fullestStep 31 = .ok (.iload_n 3, 1) := by decide +kernel
theorem dX1_fullestStep_32 : decode cX1_fullestStep 32 = .ok (.istore_n 2, 1) := by decide +kernel
theorem dX1_fullestStep_33 : decode cX1_fullestStep 33 = .ok (.iinc 3 1, 3) := by decide +kernel
theorem dX1_fullestStep_36 : decode cX1_fullestStep 36 = .ok (.goto (-32), 3) := by decide +kernel
theorem dX1_fullestStep_39 : decode cX1_fullestStep 39 = .ok (.iload_n 2, 1) := by decide +kernel
theorem dX1_fullestStep_40 : decode cX1_fullestStep 40 = .ok (.ireturn, 1) := by decide +kernel
set_option maxRecDepth 20000 in
theorem ggX1_teethUsed_X1_teethAt : GoodIn wsX1_teethUsed wsX1_teethAt := goodIn_r _ [5, 6, 7, 8, 9, 10, 11, 12, 13, 14, 15, 16, 17, 18, 19, 20, 21, 22, 23] rfl (by decide +kernel)
set_option maxRecDepth 20000 in
theorem gX1_teethUsed_X1_teethAt : GoodIn wsX1_teethUsed (wsV RX1 70 RX1 yX1_teethAt wsX1_teethAt) := goodIn_app (goodIn_r _ [1, 2, 3, 4] rfl (by decide +kernel)) ggX1_teethUsed_X1_teethAt
theorem dX1_teethUsed_0 : decode cX1_teethUsed 0 = .ok (.iconst 0, 1) := by decide +kernel
theorem dX1_teethUsed_1 : decode cX1_teethUsed 1 = .ok (.istore_n 2, 1) := by decide +kernel
theorem dX1_teethUsed_2 : decode cX1_teethUsed 2 = .ok (.iconst 0, 1) := by decide +kernel
theorem dX1_teethUsed_3 : decode cX1_teethUsed 3 = .ok (.istore_n 3, 1) := by decide +kernel
theorem dX1_teethUsed_4 : decode cX1_teethUsed 4 = .ok (.iload_n 3, 1) := by decide +kernel
theorem dX1_teethUsed_5 : decode cX1_teethUsed 5 = .ok (.bipush 32, 2) := by decide +kernel
theorem dX1_teethUsed_7 : decode cX1_teethUsed 7 = .ok (.if_icmp .ge 18, 3) := by decide +kernel
theorem dX1_teethUsed_10 : decode cX1_teethUsed 10 = .ok (.iload_n 2, 1) := by decide +kernel
theorem dX1_teethUsed_11 : decode cX1_teethUsed 11 = .ok (.aload_n 0, 1) := by decide +kernel
theorem dX1_teethUsed_12 : decode cX1_teethUsed 12 = .ok (.iload_n 1, 1) := by decide +kernel
theorem dX1_teethUsed_13 : decode cX1_teethUsed 13 = .ok (.iload_n 3, 1) := by decide +kernel
theorem dX1_teethUsed_14 : decode cX1_teethUsed 14 = .ok (.invokevirtual 70, 3) := by decide +kernel
theorem dX1_teethUsed_17 : decode cX1_teethUsed 17 = .ok (.ior, 1) := by decide +kernel
theorem dX1_teethUsed_18 : decode cX1_teethUsed 18 = .ok (.istore_n 2, 1) := by decide +kernel
theorem dX1_teethUsed_19 : decode cX1_teethUsed 19 = .ok (.iinc 3 1, 3) := by decide +kernel
theorem dX1_teethUsed_22 : decode cX1_teethUsed 22 = .ok (.goto (-18), 3) := by decide +kernel
theorem dX1_teethUsed_25 : decode cX1_teethUsed 25 = .ok (.iload_n 2, 1) := by decide +kernel
theorem dX1_teethUsed_26 : decode cX1_teethUsed 26 = .ok (.ireturn, 1) := by decide +kernel
set_option maxRecDepth 20000 in
theorem ggX1_widestGap_X1_hasPin : GoodIn wsX1_widestGap wsX1_hasPin := goodIn_r _ [9, 10, 11, 12, 8, 13, 14, 15, 16, 17, 18, 19, 20, 21, 22, 23, 24, 25, 26, 27, 28, 29, 30, 31] rfl (by decide +kernel)
set_option maxRecDepth 20000 in
theorem gX1_widestGap_X1_hasPin : GoodIn wsX1_widestGap (wsV RX1 74 RX1 yX1_hasPin wsX1_hasPin) := goodIn_app (goodIn_r _ [5, 6, 7, 8] rfl (by decide +kernel)) ggX1_widestGap_X1_hasPin
theorem dX1_widestGap_0 : decode cX1_widestGap 0 = .ok (.iconst (-1), 1) := by decide +kernel
theorem dX1_widestGap_1 : decode cX1_widestGap 1 = .ok (.istore_n 3, 1) := by decide +kernel
theorem dX1_widestGap_2 : decode cX1_widestGap 2 = .ok (.iconst (-1), 1) := by decide +kernel
theorem dX1_widestGap_3 : decode cX1_widestGap 3 = .ok (.istore 4, 2) := by decide +kernel
theorem dX1_widestGap_5 : decode cX1_widestGap 5 = .ok (.iconst 0, 1) := by decide +kernel
theorem dX1_widestGap_6 : decode cX1_widestGap 6 = .ok (.istore 5, 2) := by decide +kernel
theorem dX1_widestGap_8 : decode cX1_widestGap 8 = .ok (.iconst 0, 1) := by decide +kernel
theorem dX1_widestGap_9 : decode cX1_widestGap 9 = .ok (.istore 6, 2) := by decide +kernel
theorem dX1_widestGap_11 : decode cX1_widestGap 11 = .ok (.iload 6, 2) := by decide +kernel
theorem dX1_widestGap_13 : decode cX1_widestGap 13 = .ok (.bipush 32, 2) := by decide +kernel
theorem dX1_widestGap_15 : decode cX1_widestGap 15 = .ok (.if_icmp .ge 47, 3) := by decide +kernel
theorem dX1_widestGap_18 : decode cX1_widestGap 18 = .ok (.aload_n 0, 1) := by decide +kernel
theorem dX1_widestGap_19 : decode cX1_widestGap 19 = .ok (.iload_n 1, 1) := by decide +kernel
theorem dX1_widestGap_20 : decode cX1_widestGap 20 = .ok (.iload_n 2, 1) := by decide +kernel
theorem dX1_widestGap_21 : decode cX1_widestGap 21 = .ok (.iload 6, 2) := by decide +kernel
theorem dX1_widestGap_23 : decode cX1_widestGap 23 = .ok (.invokevirtual 74, 3) := by decide +kernel
theorem dX1_widestGap_26 : decode cX1_widestGap 26 = .ok (.ifCond .eq 30, 3) := by decide +kernel
theorem dX1_widestGap_29 : decode cX1_widestGap 29 = .ok (.iload_n 3, 1) := by decide +kernel
theorem dX1_widestGap_30 : decode cX1_widestGap 30 = .ok (.iconst (-1), 1) := by decide +kernel
theorem dX1_widestGap_31 : decode cX1_widestGap 31 = .ok (.if_icmp .ne 9, 3) := by decide +kernel
theorem dX1_widestGap_34 : decode cX1_widestGap 34 = .ok (.iload 6, 2) := by decide +kernel
theorem dX1_widestGap_36 : decode cX1_widestGap 36 = .ok (.istore_n 3, 1) := by decide +kernel
theorem dX1_widestGap_37 : decode cX1_widestGap 37 = .ok (.goto 15, 3) := by decide +kernel
theorem dX1_widestGap_40 : decode cX1_widestGap 40 = .ok (.iload 5, 2) := by decide +kernel
theorem dX1_widestGap_42 : decode cX1_widestGap 42 = .ok (.iload 6, 2) := by decide +kernel
theorem dX1_widestGap_44 : decode cX1_widestGap 44 = .ok (.iload 4, 2) := by decide +kernel
theorem dX1_widestGap_46 : decode cX1_widestGap 46 = .ok (.isub, 1) := by decide +kernel
theorem dX1_widestGap_47 : decode cX1_widestGap 47 = .ok (.invokestatic 105, 3) := by decide +kernel
theorem dX1_widestGap_50 : decode cX1_widestGap 50 = .ok (.istore 5, 2) := by decide +kernel
theorem dX1_widestGap_52 : decode cX1_widestGap 52 = .ok (.iload 6, 2) := by decide +kernel
theorem dX1_widestGap_54 : decode cX1_widestGap 54 = .ok (.istore 4, 2) := by decide +kernel
theorem dX1_widestGap_56 : decode cX1_widestGap 56 = .ok (.iinc 6 1, 3) := by decide +kernel
theorem dX1_widestGap_59 : decode cX1_widestGap 59 = .ok (.goto (-48), 3) := by decide +kernel
theorem dX1_widestGap_62 : decode cX1_widestGap 62 = .ok (.iload_n 3, 1) := by decide +kernel
theorem dX1_widestGap_63 : decode cX1_widestGap 63 = .ok (.iconst (-1), 1) := by decide +kernel
theorem dX1_widestGap_64 : decode cX1_widestGap 64 = .ok (.if_icmp .ne 7, 3) := by decide +kernel
theorem dX1_widestGap_67 : decode cX1_widestGap 67 = .ok (.iconst 0, 1) := by decide +kernel
theorem dX1_widestGap_68 : decode cX1_widestGap 68 = .ok (.goto 15, 3) := by decide +kernel
theorem dX1_widestGap_71 : decode cX1_widestGap 71 = .ok (.iload 5, 2) := by decide +kernel
theorem dX1_widestGap_73 : decode cX1_widestGap 73 = .ok (.iload_n 3, 1) := by decide +kernel
theorem dX1_widestGap_74 : decode cX1_widestGap 74 = .ok (.bipush 32, 2) := by decide +kernel
theorem dX1_widestGap_76 : decode cX1_widestGap 76 = .ok (.iadd, 1) := by decide +kernel
theorem dX1_widestGap_77 : decode cX1_widestGap 77 = .ok (.iload 4, 2) := by decide +kernel
theorem dX1_widestGap_79 : decode cX1_widestGap 79 = .ok (.isub, 1) := by decide +kernel
theorem dX1_widestGap_80 : decode cX1_widestGap 80 = .ok (.invokestatic 105, 3) := by decide +kernel
theorem dX1_widestGap_83 : decode cX1_widestGap 83 = .ok (.ireturn, 1) := by decide +kernel
set_option maxRecDepth 20000 in
theorem ggX1_numberOfTune_X1_pinsOf : GoodIn wsX1_numberOfTune wsX1_pinsOf := goodIn_r _ [5, 6, 7, 8, 4, 9, 10, 11, 12, 13, 14, 15, 16, 17, 34, 35, 36, 37, 38, 39, 40, 41, 42, 43, 44, 45, 46, 47, 48, 49, 50] rfl (by decide +kernel)
set_option maxRecDepth 20000 in
theorem gX1_numberOfTune_X1_pinsOf : GoodIn wsX1_numberOfTune (wsV RX1 137 RX1 yX1_pinsOf wsX1_pinsOf) := goodIn_app (goodIn_r _ [1, 2, 3, 4] rfl (by decide +kernel)) ggX1_numberOfTune_X1_pinsOf
set_option maxRecDepth 20000 in
theorem ggX1_numberOfTune_X1_pinsByTooth : GoodIn wsX1_numberOfTune wsX1_pinsByTooth := goodIn_r _ [21, 22, 23, 24, 4, 25, 6, 7, 8, 9, 10, 34, 35, 36, 37, 38, 39, 40, 41, 42, 43, 44, 45, 46, 47, 48, 49, 50] rfl (by decide +kernel)
set_option maxRecDepth 20000 in
theorem gX1_numberOfTune_X1_pinsByTooth : GoodIn wsX1_numberOfTune (wsV RX1 140 RX1 yX1_pinsByTooth wsX1_pinsByTooth) := goodIn_app (goodIn_r _ [18, 19, 20, 4] rfl (by decide +kernel)) ggX1_numberOfTune_X1_pinsByTooth
set_option maxRecDepth 20000 in
theorem ggX1_numberOfTune_X1_fullestStep : GoodIn wsX1_numberOfTune wsX1_fullestStep := goodIn_r _ [29, 6, 7, 8, 4, 9, 10, 11, 12, 13, 14, 15, 16, 17, 34, 35, 36, 37, 38, 39, 40, 41, 42, 43, 44, 45, 46, 47, 48, 49, 50] rfl (by decide +kernel)
set_option maxRecDepth 20000 in
theorem gX1_numberOfTune_X1_fullestStep : GoodIn wsX1_numberOfTune (wsV RX1 143 RX1 yX1_fullestStep wsX1_fullestStep) := goodIn_app (goodIn_r _ [26, 27, 28, 4] rfl (by decide +kernel)) ggX1_numberOfTune_X1_fullestStep
set_option maxRecDepth 20000 in
theorem ggX1_numberOfTune_X1_teethAt : GoodIn wsX1_numberOfTune wsX1_teethAt := goodIn_r _ [9, 10, 34, 35, 36, 37, 38, 39, 40, 41, 42, 43, 44, 45, 46, 47, 48, 49, 50] rfl (by decide +kernel)
set_option maxRecDepth 20000 in
theorem gX1_numberOfTune_X1_teethAt : GoodIn wsX1_numberOfTune (wsV RX1 70 RX1 yX1_teethAt wsX1_teethAt) := goodIn_app (goodIn_r _ [6, 7, 8, 4] rfl (by decide +kernel)) ggX1_numberOfTune_X1_teethAt
set_option maxRecDepth 20000 in
theorem ggX1_numberOfTune_J6_bitCount_0f7a4 : GoodIn wsX1_numberOfTune wsJ6_bitCount_0f7a4 := goodIn_r _ [14, 15, 16, 17] rfl (by decide +kernel)
set_option maxRecDepth 20000 in
theorem gX1_numberOfTune_J6_bitCount_0f7a4 : GoodIn wsX1_numberOfTune (va_wsS RX1 82 yJ6_bitCount_0f7a4 wsJ6_bitCount_0f7a4) := goodIn_app (goodIn_r _ [11, 12, 13] rfl (by decide +kernel)) ggX1_numberOfTune_J6_bitCount_0f7a4
set_option maxRecDepth 20000 in
theorem ggX1_numberOfTune_X1_teethUsed : GoodIn wsX1_numberOfTune wsX1_teethUsed := goodIn_r _ [33, 6, 7, 8, 4, 9, 10, 34, 35, 36, 37, 38, 39, 40, 41, 42, 43, 44, 45, 46, 47, 48, 49, 50] rfl (by decide +kernel)
set_option maxRecDepth 20000 in
theorem gX1_numberOfTune_X1_teethUsed : GoodIn wsX1_numberOfTune (wsV RX1 146 RX1 yX1_teethUsed wsX1_teethUsed) := goodIn_app (goodIn_r _ [30, 31, 32, 4] rfl (by decide +kernel)) ggX1_numberOfTune_X1_teethUsed
theorem dX1_numberOfTune_0 : decode cX1_numberOfTune 0 = .ok (.iload_n 2, 1) := by decide +kernel
theorem dX1_numberOfTune_1 : decode cX1_numberOfTune 1 = .ok (.tableswitch 63 0 3 #[31, 37, 43, 57], 31) := by decide +kernel
theorem dX1_numberOfTune_32 : decode cX1_numberOfTune 32 = .ok (.aload_n 0, 1) := by decide +kernel
theorem dX1_numberOfTune_33 : decode cX1_numberOfTune 33 = .ok (.iload_n 1, 1) := by decide +kernel
theorem dX1_numberOfTune_34 : decode cX1_numberOfTune 34 = .ok (.invokevirtual 137, 3) := by decide +kernel
theorem dX1_numberOfTune_37 : decode cX1_numberOfTune 37 = .ok (.ireturn, 1) := by decide +kernel
theorem dX1_numberOfTune_38 : decode cX1_numberOfTune 38 = .ok (.aload_n 0, 1) := by decide +kernel
theorem dX1_numberOfTune_39 : decode cX1_numberOfTune 39 = .ok (.iload_n 1, 1) := by decide +kernel
theorem dX1_numberOfTune_40 : decode cX1_numberOfTune 40 = .ok (.invokevirtual 140, 3) := by decide +kernel
theorem dX1_numberOfTune_43 : decode cX1_numberOfTune 43 = .ok (.ireturn, 1) := by decide +kernel
theorem dX1_numberOfTune_44 : decode cX1_numberOfTune 44 = .ok (.aload_n 0, 1) := by decide +kernel
theorem dX1_numberOfTune_45 : decode cX1_numberOfTune 45 = .ok (.iload_n 1, 1) := by decide +kernel
theorem dX1_numberOfTune_46 : decode cX1_numberOfTune 46 = .ok (.aload_n 0, 1) := by decide +kernel
theorem dX1_numberOfTune_47 : decode cX1_numberOfTune 47 = .ok (.iload_n 1, 1) := by decide +kernel
theorem dX1_numberOfTune_48 : decode cX1_numberOfTune 48 = .ok (.invokevirtual 143, 3) := by decide +kernel
theorem dX1_numberOfTune_51 : decode cX1_numberOfTune 51 = .ok (.invokevirtual 70, 3) := by decide +kernel
theorem dX1_numberOfTune_54 : decode cX1_numberOfTune 54 = .ok (.invokestatic 82, 3) := by decide +kernel
theorem dX1_numberOfTune_57 : decode cX1_numberOfTune 57 = .ok (.ireturn, 1) := by decide +kernel
theorem dX1_numberOfTune_58 : decode cX1_numberOfTune 58 = .ok (.aload_n 0, 1) := by decide +kernel
theorem dX1_numberOfTune_59 : decode cX1_numberOfTune 59 = .ok (.iload_n 1, 1) := by decide +kernel
theorem dX1_numberOfTune_60 : decode cX1_numberOfTune 60 = .ok (.invokevirtual 143, 3) := by decide +kernel
theorem dX1_numberOfTune_63 : decode cX1_numberOfTune 63 = .ok (.ireturn, 1) := by decide +kernel
theorem dX1_numberOfTune_64 : decode cX1_numberOfTune 64 = .ok (.aload_n 0, 1) := by decide +kernel
theorem dX1_numberOfTune_65 : decode cX1_numberOfTune 65 = .ok (.iload_n 1, 1) := by decide +kernel
theorem dX1_numberOfTune_66 : decode cX1_numberOfTune 66 = .ok (.invokevirtual 146, 3) := by decide +kernel
theorem dX1_numberOfTune_69 : decode cX1_numberOfTune 69 = .ok (.ireturn, 1) := by decide +kernel
set_option maxRecDepth 20000 in
theorem ggX1_numberOfTooth_X1_ringsFor : GoodIn wsX1_numberOfTooth wsX1_ringsFor := goodIn_r _ [8, 9, 10, 11, 12, 13, 14, 33, 34, 35, 36, 37, 38, 39, 40, 41, 42, 43, 44, 45, 46, 47, 48, 49] rfl (by decide +kernel)
set_option maxRecDepth 20000 in
theorem gX1_numberOfTooth_X1_ringsFor : GoodIn wsX1_numberOfTooth (wsV RX1 117 RX1 yX1_ringsFor wsX1_ringsFor) := goodIn_app (goodIn_r _ [4, 5, 6, 7] rfl (by decide +kernel)) ggX1_numberOfTooth_X1_ringsFor
set_option maxRecDepth 20000 in
theorem ggX1_numberOfTooth_X1_isBroken : GoodIn wsX1_numberOfTooth wsX1_isBroken := goodIn_r _ [18, 19, 33, 34, 35, 36, 37, 38, 39, 40, 41, 42, 43, 44, 45, 46, 47, 48, 49] rfl (by decide +kernel)
set_option maxRecDepth 20000 in
theorem gX1_numberOfTooth_X1_isBroken : GoodIn wsX1_numberOfTooth (wsV RX1 124 RX1 yX1_isBroken wsX1_isBroken) := goodIn_app (goodIn_r _ [15, 16, 17, 7] rfl (by decide +kernel)) ggX1_numberOfTooth_X1_isBroken
set_option maxRecDepth 20000 in
theorem ggX1_numberOfTooth_X1_widestGap : GoodIn wsX1_numberOfTooth wsX1_widestGap := goodIn_r _ [23, 11, 12, 13, 14, 24, 25, 26, 7, 27, 28, 29, 30, 31, 32, 33, 34, 35, 36, 37, 38, 39, 40, 41, 42, 43, 44, 45, 46, 47, 48, 49] rfl (by decide +kernel)
set_option maxRecDepth 20000 in
theorem gX1_numberOfTooth_X1_widestGap : GoodIn wsX1_numberOfTooth (wsV RX1 149 RX1 yX1_widestGap wsX1_widestGap) := goodIn_app (goodIn_r _ [20, 21, 22, 7] rfl (by decide +kernel)) ggX1_numberOfTooth_X1_widestGap
theorem dX1_numberOfTooth_0 : decode cX1_numberOfTooth 0 = .ok (.iload_n 2, 1) := by decide +kernel
theorem dX1_numberOfTooth_1 : decode cX1_numberOfTooth 1 = .ok (.tableswitch 65 0 3 #[31, 37, 44, 58], 31) := by decide +kernel
theorem dX1_numberOfTooth_32 : decode cX1_numberOfTooth 32 = .ok (.aload_n 0, 1) := by decide +kernel
theorem dX1_numberOfTooth_33 : decode cX1_numberOfTooth 33 = .ok (.iload_n 1, 1) := by decide +kernel
theorem dX1_numberOfTooth_34 : decode cX1_numberOfTooth 34 = .ok (.invokevirtual 117, 3) := by decide +kernel
theorem dX1_numberOfTooth_37 : decode cX1_numberOfTooth 37 = .ok (.ireturn, 1) := by decide +kernel
theorem dX1_numberOfTooth_38 : decode cX1_numberOfTooth 38 = .ok (.aload_n 0, 1) := by decide +kernel
theorem dX1_numberOfTooth_39 : decode cX1_numberOfTooth 39 = .ok (.getfield 18, 3) := by decide +kernel
theorem dX1_numberOfTooth_42 : decode cX1_numberOfTooth 42 = .ok (.iload_n 1, 1) := by decide +kernel
theorem dX1_numberOfTooth_43 : decode cX1_numberOfTooth 43 = .ok (.iaload, 1) := by decide +kernel
theorem dX1_numberOfTooth_44 : decode cX1_numberOfTooth 44 = .ok (.ireturn, 1) := by decide +kernel
theorem dX1_numberOfTooth_45 : decode cX1_numberOfTooth 45 = .ok (.aload_n 0, 1) := by decide +kernel
theorem dX1_numberOfTooth_46 : decode cX1_numberOfTooth 46 = .ok (.iload_n 1, 1) := by decide +kernel
theorem dX1_numberOfTooth_47 : decode cX1_numberOfTooth 47 = .ok (.invokevirtual 124, 3) := by decide +kernel
theorem dX1_numberOfTooth_50 : decode cX1_numberOfTooth 50 = .ok (.ifCond .eq 7, 3) := by decide +kernel
theorem dX1_numberOfTooth_53 : decode cX1_numberOfTooth 53 = .ok (.iconst 1, 1) := by decide +kernel
theorem dX1_numberOfTooth_54 : decode cX1_numberOfTooth 54 = .ok (.goto 4, 3) := by decide +kernel
theorem dX1_numberOfTooth_57 : decode cX1_numberOfTooth 57 = .ok (.iconst 0, 1) := by decide +kernel
theorem dX1_numberOfTooth_58 : decode cX1_numberOfTooth 58 = .ok (.ireturn, 1) := by decide +kernel
theorem dX1_numberOfTooth_59 : decode cX1_numberOfTooth 59 = .ok (.aload_n 0, 1) := by decide +kernel
theorem dX1_numberOfTooth_60 : decode cX1_numberOfTooth 60 = .ok (.getfield 21, 3) := by decide +kernel
theorem dX1_numberOfTooth_63 : decode cX1_numberOfTooth 63 = .ok (.iload_n 1, 1) := by decide +kernel
theorem dX1_numberOfTooth_64 : decode cX1_numberOfTooth 64 = .ok (.iaload, 1) := by decide +kernel
theorem dX1_numberOfTooth_65 : decode cX1_numberOfTooth 65 = .ok (.ireturn, 1) := by decide +kernel
theorem dX1_numberOfTooth_66 : decode cX1_numberOfTooth 66 = .ok (.aload_n 0, 1) := by decide +kernel
theorem dX1_numberOfTooth_67 : decode cX1_numberOfTooth 67 = .ok (.aload_n 0, 1) := by decide +kernel
theorem dX1_numberOfTooth_68 : decode cX1_numberOfTooth 68 = .ok (.getfield 40, 3) := by decide +kernel
theorem dX1_numberOfTooth_71 : decode cX1_numberOfTooth 71 = .ok (.iload_n 1, 1) := by decide +kernel
theorem dX1_numberOfTooth_72 : decode cX1_numberOfTooth 72 = .ok (.invokevirtual 149, 3) := by decide +kernel
theorem dX1_numberOfTooth_75 : decode cX1_numberOfTooth 75 = .ok (.ireturn, 1) := by decide +kernel
set_option maxRecDepth 20000 in
theorem ggX1_numberOfState_X1_teethRinging : GoodIn wsX1_numberOfState wsX1_teethRinging := goodIn_r _ [15, 16, 17, 18, 14, 19, 20, 5, 21, 22, 23, 24, 54, 55, 56, 57, 58, 59, 60, 61, 62, 63, 64, 65, 66, 67, 68, 69, 70] rfl (by decide +kernel)
set_option maxRecDepth 20000 in
theorem gX1_numberOfState_X1_teethRinging : GoodIn wsX1_numberOfState (wsV RX1 152 RX1 yX1_teethRinging wsX1_teethRinging) := goodIn_app (goodIn_r _ [11, 12, 13, 14] rfl (by decide +kernel)) ggX1_numberOfState_X1_teethRinging
set_option maxRecDepth 20000 in
theorem ggX1_numberOfState_X1_teethBroken : GoodIn wsX1_numberOfState wsX1_teethBroken := goodIn_r _ [28, 29, 30, 31, 32, 33, 34, 35, 36, 54, 55, 56, 57, 58, 59, 60, 61, 62, 63, 64, 65, 66, 67, 68, 69, 70] rfl (by decide +kernel)
set_option maxRecDepth 20000 in
theorem gX1_numberOfState_X1_teethBroken : GoodIn wsX1_numberOfState (wsV RX1 156 RX1 yX1_teethBroken wsX1_teethBroken) := goodIn_app (goodIn_r _ [25, 26, 27, 14] rfl (by decide +kernel)) ggX1_numberOfState_X1_teethBroken
set_option maxRecDepth 20000 in
theorem ggX1_numberOfState_X1_pinsOfAll : GoodIn wsX1_numberOfState wsX1_pinsOfAll := goodIn_r _ [40, 41, 42, 43, 14, 44, 45, 46, 47, 48, 49, 30, 31, 32, 33, 34, 35, 36, 54, 55, 56, 57, 58, 59, 60, 61, 62, 63, 64, 65, 66, 67, 68, 69, 70] rfl (by decide +kernel)
set_option maxRecDepth 20000 in
theorem gX1_numberOfState_X1_pinsOfAll : GoodIn wsX1_numberOfState (wsV RX1 159 RX1 yX1_pinsOfAll wsX1_pinsOfAll) := goodIn_app (goodIn_r _ [37, 38, 39, 14] rfl (by decide +kernel)) ggX1_numberOfState_X1_pinsOfAll
set_option maxRecDepth 20000 in
theorem ggX1_numberOfState_J9_floorMod_7cf53 : GoodIn wsX1_numberOfState wsJ9_floorMod_7cf53 := goodIn_r _ [53] rfl (by decide +kernel)
set_option maxRecDepth 20000 in
theorem gX1_numberOfState_J9_floorMod_7cf53 : GoodIn wsX1_numberOfState (va_wsS RX1 114 yJ9_floorMod_7cf53 wsJ9_floorMod_7cf53) := goodIn_app (goodIn_r _ [50, 51, 52] rfl (by decide +kernel)) ggX1_numberOfState_J9_floorMod_7cf53
theorem dX1_numberOfState_0 : decode cX1_numberOfState 0 = .ok (.iload_n 1, 1) := by decide +kernel
theorem dX1_numberOfState_1 : decode cX1_numberOfState 1 = .ok (.tableswitch 123 0 11 #[63, 68, 73, 78, 83, 88, 93, 98, 103, 108, 113, 118], 63) := by decide +kernel
theorem dX1_numberOfState_64 : decode cX1_numberOfState 64 = .ok (.aload_n 0, 1) := by decide +kernel
theorem dX1_numberOfState_65 : decode cX1_numberOfState 65 = .ok (.getfield 37, 3) := by decide +kernel
theorem dX1_numberOfState_68 : decode cX1_numberOfState 68 = .ok (.ireturn, 1) := by decide +kernel
theorem dX1_numberOfState_69 : decode cX1_numberOfState 69 = .ok (.aload_n 0, 1) := by decide +kernel
theorem dX1_numberOfState_70 : decode cX1_numberOfState 70 = .ok (.getfield 40, 3) := by decide +kernel
theorem dX1_numberOfState_73 : decode cX1_numberOfState 73 = .ok (.ireturn, 1) := by decide +kernel
theorem dX1_numberOfState_74 : decode cX1_numberOfState 74 = .ok (.aload_n 0, 1) := by decide +kernel
theorem dX1_numberOfState_75 : decode cX1_numberOfState 75 = .ok (.getfield 43, 3) := by decide +kernel
theorem dX1_numberOfState_78 : decode cX1_numberOfState 78 = .ok (.ireturn, 1) := by decide +kernel
theorem dX1_numberOfState_79 : decode cX1_numberOfState 79 = .ok (.aload_n 0, 1) := by decide +kernel
theorem dX1_numberOfState_80 : decode cX1_numberOfState 80 = .ok (.getfield 46, 3) := by decide +kernel
theorem dX1_numberOfState_83 : decode cX1_numberOfState 83 = .ok (.ireturn, 1) := by decide +kernel
theorem dX1_numberOfState_84 : decode cX1_numberOfState 84 = .ok (.aload_n 0, 1) := by decide +kernel
theorem dX1_numberOfState_85 : decode cX1_numberOfState 85 = .ok (.getfield 49, 3) := by decide +kernel
theorem dX1_numberOfState_88 : decode cX1_numberOfState 88 = .ok (.ireturn, 1) := by decide +kernel
theorem dX1_numberOfState_89 : decode cX1_numberOfState 89 = .ok (.aload_n 0, 1) := by decide +kernel
theorem dX1_numberOfState_90 : decode cX1_numberOfState 90 = .ok (.getfield 52, 3) := by decide +kernel
theorem dX1_numberOfState_93 : decode cX1_numberOfState 93 = .ok (.ireturn, 1) := by decide +kernel
theorem dX1_numberOfState_94 : decode cX1_numberOfState 94 = .ok (.aload_n 0, 1) := by decide +kernel
theorem dX1_numberOfState_95 : decode cX1_numberOfState 95 = .ok (.getfield 55, 3) := by decide +kernel
theorem dX1_numberOfState_98 : decode cX1_numberOfState 98 = .ok (.ireturn, 1) := by decide +kernel
theorem dX1_numberOfState_99 : decode cX1_numberOfState 99 = .ok (.aload_n 0, 1) := by decide +kernel
theorem dX1_numberOfState_100 : decode cX1_numberOfState 100 = .ok (.getfield 58, 3) := by decide +kernel
theorem dX1_numberOfState_103 : decode cX1_numberOfState 103 = .ok (.ireturn, 1) := by decide +kernel
theorem dX1_numberOfState_104 : decode cX1_numberOfState 104 = .ok (.aload_n 0, 1) := by decide +kernel
theorem dX1_numberOfState_105 : decode cX1_numberOfState 105 = .ok (.invokevirtual 152, 3) := by decide +kernel
theorem dX1_numberOfState_108 : decode cX1_numberOfState 108 = .ok (.ireturn, 1) := by decide +kernel
theorem dX1_numberOfState_109 : decode cX1_numberOfState 109 = .ok (.aload_n 0, 1) := by decide +kernel
theorem dX1_numberOfState_110 : decode cX1_numberOfState 110 = .ok (.invokevirtual 156, 3) := by decide +kernel
theorem dX1_numberOfState_113 : decode cX1_numberOfState 113 = .ok (.ireturn, 1) := by decide +kernel
theorem dX1_numberOfState_114 : decode cX1_numberOfState 114 = .ok (.aload_n 0, 1) := by decide +kernel
theorem dX1_numberOfState_115 : decode cX1_numberOfState 115 = .ok (.invokevirtual 159, 3) := by decide +kernel
theorem dX1_numberOfState_118 : decode cX1_numberOfState 118 = .ok (.ireturn, 1) := by decide +kernel
theorem dX1_numberOfState_119 : decode cX1_numberOfState 119 = .ok (.aload_n 0, 1) := by decide +kernel
theorem dX1_numberOfState_120 : decode cX1_numberOfState 120 = .ok (.getfield 61, 3) := by decide +kernel
theorem dX1_numberOfState_123 : decode cX1_numberOfState 123 = .ok (.ireturn, 1) := by decide +kernel
theorem dX1_numberOfState_124 : decode cX1_numberOfState 124 = .ok (.aload_n 0, 1) := by decide +kernel
theorem dX1_numberOfState_125 : decode cX1_numberOfState 125 = .ok (.getfield 30, 3) := by decide +kernel
theorem dX1_numberOfState_128 : decode cX1_numberOfState 128 = .ok (.iload_n 1, 1) := by decide +kernel
theorem dX1_numberOfState_129 : decode cX1_numberOfState 129 = .ok (.bipush 12, 2) := by decide +kernel
theorem dX1_numberOfState_131 : decode cX1_numberOfState 131 = .ok (.isub, 1) := by decide +kernel
theorem dX1_numberOfState_132 : decode cX1_numberOfState 132 = .ok (.iconst 5, 1) := by decide +kernel
theorem dX1_numberOfState_133 : decode cX1_numberOfState 133 = .ok (.invokestatic 114, 3) := by decide +kernel
theorem dX1_numberOfState_136 : decode cX1_numberOfState 136 = .ok (.iaload, 1) := by decide +kernel
theorem dX1_numberOfState_137 : decode cX1_numberOfState 137 = .ok (.ireturn, 1) := by decide +kernel
