set_option maxRecDepth 20000 in
theorem ggL_law_X2_init : GoodIn wsL_law wsX2_init := goodIn_r _ [9, 10, 11, 12, 13, 14, 15, 16, 17, 18, 19, 20, 21, 22, 23, 24, 25, 26, 27, 28, 29, 30, 31, 32, 33, 34, 35, 36, 37, 38, 39, 40, 41, 42, 43, 44, 45, 46, 47, 48, 49, 50, 51, 52, 53, 54, 55, 56, 57, 58, 911, 912, 913, 914, 915, 916, 917, 918, 919, 920, 921, 922, 923, 924, 925, 926, 927, 888, 889, 890, 891, 892, 893, 894, 895, 896, 897, 928, 929, 930, 931, 932] rfl (by decide +kernel)
set_option maxRecDepth 20000 in
theorem gL_law_X2_init : GoodIn wsL_law (wsX2_init) := ggL_law_X2_init
set_option maxRecDepth 20000 in
theorem ggL_law_X3_init : GoodIn wsL_law wsX3_init := goodIn_r _ [61, 62, 11, 12, 33, 63, 64, 65, 66, 67, 898, 899, 900, 901, 902, 903, 904, 905, 906, 907, 908, 909, 910] rfl (by decide +kernel)
set_option maxRecDepth 20000 in
theorem gL_law_X3_init : GoodIn wsL_law (wsX3_init) := ggL_law_X3_init
set_option maxRecDepth 20000 in
theorem ggL_law_L_pin : GoodIn wsL_law wsL_pin := goodIn_ca (goodIn_ca (goodIn_r _ [71, 72, 73, 74, 75, 76, 2, 77, 78, 79, 80, 81, 16, 82, 83, 84, 85, 86, 87, 88, 89, 90, 15, 91, 40, 92, 93, 94, 95, 96, 97, 98, 99, 34, 100, 101, 102, 103, 104, 105, 106, 107, 108, 109, 110, 111, 112, 113, 114, 115, 116, 117, 20, 21, 22, 118, 119, 120, 121, 122, 123, 124, 125, 35, 36, 37, 38, 39, 41, 42, 43, 44, 45, 46, 47, 48, 49, 50, 126, 127, 128, 129, 130, 131, 132, 133, 888, 889, 890, 891, 892, 893, 894, 895, 896, 897, 911, 912, 913, 914, 915, 916, 917, 918, 919, 920, 921, 922, 923, 924, 925, 926, 927] rfl (by decide +kernel)) (goodIn_sub (fun _ h => List.mem_append_left _ (List.mem_append_left _ (List.mem_append_right _ h))) (by decide +kernel))) (goodIn_sub (fun _ h => List.mem_append_left _ (List.mem_append_right _ h)) (by decide +kernel))
set_option maxRecDepth 20000 in
theorem gL_law_L_pin : GoodIn wsL_law (va_wsS RL 90 yL_pin wsL_pin) := goodIn_app (goodIn_r _ [68, 69, 70] rfl (by decide +kernel)) ggL_law_L_pin
set_option maxRecDepth 20000 in
theorem ggL_law_X3_pin : GoodIn wsL_law wsX3_pin := goodIn_r _ [137, 63, 138, 139, 5, 140, 141, 142, 143, 144, 145, 146, 147, 148, 149, 150, 151, 152, 153, 154, 155, 156, 157, 158, 159, 160, 161, 162, 163, 164, 165, 166, 167, 168, 169, 170, 171, 172, 173, 174, 175, 176, 177, 178, 179, 180, 181, 182, 183, 184, 65, 185, 186, 187, 188, 898, 899, 900, 901, 902, 903, 904, 905, 906, 907, 908, 909, 910] rfl (by decide +kernel)
set_option maxRecDepth 20000 in
theorem gL_law_X3_pin : GoodIn wsL_law (wsV RL 95 RX3 yX3_pin wsX3_pin) := goodIn_app (goodIn_r _ [134, 135, 136, 5] rfl (by decide +kernel)) ggL_law_X3_pin
set_option maxRecDepth 20000 in
theorem ggL_law_X3_thrown : GoodIn wsL_law wsX3_thrown := goodIn_r _ [192, 179, 898, 899, 900, 901, 902, 903, 904, 905, 906, 907, 908, 909, 910] rfl (by decide +kernel)
set_option maxRecDepth 20000 in
theorem gL_law_X3_thrown : GoodIn wsL_law (wsV RL 96 RX3 yX3_thrown wsX3_thrown) := goodIn_app (goodIn_r _ [189, 190, 191, 5] rfl (by decide +kernel)) ggL_law_X3_thrown
set_option maxRecDepth 20000 in
theorem ggL_law_L_pull : GoodIn wsL_law wsL_pull := goodIn_ca (goodIn_ca (goodIn_r _ [195, 72, 196, 197, 198, 199, 2, 200, 78, 79, 201, 202, 16, 82, 83, 84, 85, 86, 87, 114, 115, 116, 117, 20, 21, 22, 118, 119, 120, 15, 121, 34, 122, 123, 124, 125, 35, 36, 37, 38, 39, 40, 41, 42, 43, 44, 45, 46, 47, 48, 49, 50, 203, 204, 205, 206, 92, 93, 94, 95, 96, 97, 98, 99, 888, 889, 890, 891, 892, 893, 894, 895, 896, 897, 911, 912, 913, 914, 915, 916, 917, 918, 919, 920, 921, 922, 923, 924, 925, 926, 927] rfl (by decide +kernel)) (goodIn_sub (fun _ h => List.mem_append_left _ (List.mem_append_left _ (List.mem_append_right _ h))) (by decide +kernel))) (goodIn_sub (fun _ h => List.mem_append_right _ h) (by decide +kernel))
set_option maxRecDepth 20000 in
theorem gL_law_L_pull : GoodIn wsL_law (va_wsS RL 99 yL_pull wsL_pull) := goodIn_app (goodIn_r _ [193, 194, 70] rfl (by decide +kernel)) ggL_law_L_pull
set_option maxRecDepth 20000 in
theorem ggL_law_X3_pull : GoodIn wsL_law wsX3_pull := goodIn_r _ [210, 63, 138, 139, 5, 140, 141, 142, 143, 144, 145, 146, 147, 148, 149, 150, 151, 152, 175, 176, 177, 178, 179, 180, 181, 182, 183, 184, 65, 157, 158, 159, 160, 161, 162, 163, 898, 899, 900, 901, 902, 903, 904, 905, 906, 907, 908, 909, 910] rfl (by decide +kernel)
set_option maxRecDepth 20000 in
theorem gL_law_X3_pull : GoodIn wsL_law (wsV RL 102 RX3 yX3_pull wsX3_pull) := goodIn_app (goodIn_r _ [207, 208, 209, 5] rfl (by decide +kernel)) ggL_law_X3_pull
set_option maxRecDepth 20000 in
theorem ggL_law_L_copy : GoodIn wsL_law wsL_copy := goodIn_ca (goodIn_ca (goodIn_r _ [213, 72, 196, 214, 215, 216, 2, 217, 78, 79, 201, 202, 16, 85, 86, 87, 218, 219, 220, 114, 115, 116, 117, 20, 21, 22, 118, 119, 120, 15, 121, 34, 122, 123, 124, 125, 35, 36, 37, 38, 39, 40, 41, 42, 43, 44, 45, 46, 47, 48, 49, 50, 221, 222, 223, 224, 96, 97, 98, 99, 100, 101, 102, 103, 104, 105, 106, 130, 131, 132, 133, 107, 108, 109, 110, 111, 112, 113, 888, 889, 890, 891, 892, 893, 894, 895, 896, 897, 911, 912, 913, 914, 915, 916, 917, 918, 919, 920, 921, 922, 923, 924, 925, 926, 927] rfl (by decide +kernel)) (goodIn_sub (fun _ h => List.mem_append_left _ (List.mem_append_left _ (List.mem_append_right _ h))) (by decide +kernel))) (goodIn_sub (fun _ h => List.mem_append_right _ h) (by decide +kernel))
set_option maxRecDepth 20000 in
theorem gL_law_L_copy : GoodIn wsL_law (va_wsS RL 103 yL_copy wsL_copy) := goodIn_app (goodIn_r _ [211, 212, 70] rfl (by decide +kernel)) ggL_law_L_copy
set_option maxRecDepth 20000 in
theorem ggL_law_X3_copy : GoodIn wsL_law wsX3_copy := goodIn_r _ [228, 63, 144, 145, 5, 146, 141, 142, 143, 175, 176, 177, 178, 179, 180, 181, 182, 183, 184, 65, 161, 162, 163, 157, 158, 159, 160, 147, 148, 149, 185, 186, 187, 188, 172, 173, 174, 898, 899, 900, 901, 902, 903, 904, 905, 906, 907, 908, 909, 910] rfl (by decide +kernel)
set_option maxRecDepth 20000 in
theorem gL_law_X3_copy : GoodIn wsL_law (wsV RL 105 RX3 yX3_copy wsX3_copy) := goodIn_app (goodIn_r _ [225, 226, 227, 5] rfl (by decide +kernel)) ggL_law_X3_copy
set_option maxRecDepth 20000 in
theorem ggL_law_L_wind : GoodIn wsL_law wsL_wind := goodIn_ca (goodIn_r _ [231, 196, 232, 233, 234, 2, 235, 201, 202, 16, 236, 237, 238, 239, 218, 219, 220, 114, 115, 116, 117, 20, 21, 22, 118, 119, 120, 15, 121, 34, 122, 123, 124, 125, 35, 36, 37, 38, 39, 40, 41, 42, 43, 44, 45, 46, 47, 48, 49, 50, 888, 889, 890, 891, 892, 893, 894, 895, 896, 897, 911, 912, 913, 914, 915, 916, 917, 918, 919, 920, 921, 922, 923, 924, 925, 926, 927] rfl (by decide +kernel)) (goodIn_sub (fun _ h => List.mem_append_right _ h) (by decide +kernel))
set_option maxRecDepth 20000 in
theorem gL_law_L_wind : GoodIn wsL_law (va_wsS RL 106 yL_wind wsL_wind) := goodIn_app (goodIn_r _ [229, 230, 70] rfl (by decide +kernel)) ggL_law_L_wind
set_option maxRecDepth 20000 in
theorem ggL_law_X3_wind : GoodIn wsL_law wsX3_wind := goodIn_r _ [243, 63, 144, 145, 5, 146, 175, 176, 177, 178, 179, 180, 181, 182, 183, 184, 65, 898, 899, 900, 901, 902, 903, 904, 905, 906, 907, 908, 909, 910] rfl (by decide +kernel)
set_option maxRecDepth 20000 in
theorem gL_law_X3_wind : GoodIn wsL_law (wsV RL 109 RX3 yX3_wind wsX3_wind) := goodIn_app (goodIn_r _ [240, 241, 242, 5] rfl (by decide +kernel)) ggL_law_X3_wind
set_option maxRecDepth 20000 in
theorem ggL_law_L_vanes : GoodIn wsL_law wsL_vanes := goodIn_ca (goodIn_r _ [246, 196, 247, 248, 249, 2, 250, 201, 202, 16, 218, 219, 220, 114, 115, 116, 117, 20, 21, 22, 118, 119, 120, 15, 121, 34, 122, 123, 124, 125, 35, 36, 37, 38, 39, 40, 41, 42, 43, 44, 45, 46, 47, 48, 49, 50, 888, 889, 890, 891, 892, 893, 894, 895, 896, 897, 911, 912, 913, 914, 915, 916, 917, 918, 919, 920, 921, 922, 923, 924, 925, 926, 927] rfl (by decide +kernel)) (goodIn_sub (fun _ h => List.mem_append_right _ h) (by decide +kernel))
set_option maxRecDepth 20000 in
theorem gL_law_L_vanes : GoodIn wsL_law (va_wsS RL 110 yL_vanes wsL_vanes) := goodIn_app (goodIn_r _ [244, 245, 70] rfl (by decide +kernel)) ggL_law_L_vanes
set_option maxRecDepth 20000 in
theorem ggL_law_X3_vanes : GoodIn wsL_law wsX3_vanes := goodIn_r _ [254, 144, 145, 5, 146, 175, 176, 177, 178, 179, 255, 256, 257, 258, 63, 180, 181, 182, 183, 184, 65, 898, 899, 900, 901, 902, 903, 904, 905, 906, 907, 908, 909, 910] rfl (by decide +kernel)
set_option maxRecDepth 20000 in
theorem gL_law_X3_vanes : GoodIn wsL_law (wsV RL 112 RX3 yX3_vanes wsX3_vanes) := goodIn_app (goodIn_r _ [251, 252, 253, 5] rfl (by decide +kernel)) ggL_law_X3_vanes
set_option maxRecDepth 20000 in
theorem ggL_law_L_shift : GoodIn wsL_law wsL_shift := goodIn_ca (goodIn_r _ [261, 72, 262, 263, 264, 2, 265, 78, 79, 16, 85, 86, 87, 114, 115, 116, 117, 20, 21, 22, 118, 119, 120, 15, 121, 34, 122, 123, 124, 125, 35, 36, 37, 38, 39, 40, 41, 42, 43, 44, 45, 46, 47, 48, 49, 50, 888, 889, 890, 891, 892, 893, 894, 895, 896, 897, 911, 912, 913, 914, 915, 916, 917, 918, 919, 920, 921, 922, 923, 924, 925, 926, 927] rfl (by decide +kernel)) (goodIn_sub (fun _ h => List.mem_append_left _ (List.mem_append_left _ (List.mem_append_right _ h))) (by decide +kernel))
set_option maxRecDepth 20000 in
theorem gL_law_L_shift : GoodIn wsL_law (va_wsS RL 113 yL_shift wsL_shift) := goodIn_app (goodIn_r _ [259, 260, 70] rfl (by decide +kernel)) ggL_law_L_shift
set_option maxRecDepth 20000 in
theorem ggL_law_X3_shift : GoodIn wsL_law wsX3_shift := goodIn_r _ [269, 141, 142, 5, 143, 144, 145, 146, 175, 176, 177, 178, 179, 255, 256, 257, 258, 63, 180, 181, 182, 183, 184, 65, 898, 899, 900, 901, 902, 903, 904, 905, 906, 907, 908, 909, 910] rfl (by decide +kernel)
set_option maxRecDepth 20000 in
theorem gL_law_X3_shift : GoodIn wsL_law (wsV RL 115 RX3 yX3_shift wsX3_shift) := goodIn_app (goodIn_r _ [266, 267, 268, 5] rfl (by decide +kernel)) ggL_law_X3_shift
set_option maxRecDepth 20000 in
theorem ggL_law_L_play : GoodIn wsL_law wsL_play := goodIn_ca (goodIn_r _ [272, 196, 273, 274, 275, 2, 276, 201, 202, 16, 218, 219, 220, 114, 115, 116, 117, 20, 21, 22, 118, 119, 120, 15, 121, 34, 122, 123, 124, 125, 35, 36, 37, 38, 39, 40, 41, 42, 43, 44, 45, 46, 47, 48, 49, 50, 277, 278, 279, 280, 281, 282, 283, 284, 285, 286, 238, 287, 100, 101, 102, 103, 104, 105, 106, 288, 289, 290, 291, 96, 97, 98, 99, 292, 293, 294, 295, 107, 108, 109, 110, 111, 112, 113, 296, 297, 298, 299, 300, 301, 302, 303, 304, 305, 306, 307, 308, 309, 310, 311, 312, 313, 314, 315, 888, 889, 890, 891, 892, 893, 894, 895, 896, 897, 911, 912, 913, 914, 915, 916, 917, 918, 919, 920, 921, 922, 923, 924, 925, 926, 927] rfl (by decide +kernel)) (goodIn_sub (fun _ h => List.mem_append_right _ h) (by decide +kernel))
set_option maxRecDepth 20000 in
theorem gL_law_L_play : GoodIn wsL_law (va_wsS RL 116 yL_play wsL_play) := goodIn_app (goodIn_r _ [270, 271, 70] rfl (by decide +kernel)) ggL_law_L_play
set_option maxRecDepth 20000 in
theorem ggL_law_X3_play : GoodIn wsL_law wsX3_play := goodIn_r _ [319, 144, 145, 5, 146, 175, 176, 177, 178, 179, 180, 181, 182, 183, 184, 65, 63, 320, 321, 322, 323, 324, 325, 326, 327, 328, 329, 330, 331, 332, 333, 334, 335, 336, 337, 338, 339, 157, 158, 159, 160, 161, 162, 163, 340, 341, 342, 343, 344, 345, 346, 347, 348, 349, 350, 898, 899, 900, 901, 902, 903, 904, 905, 906, 907, 908, 909, 910] rfl (by decide +kernel)
set_option maxRecDepth 20000 in
theorem gL_law_X3_play : GoodIn wsL_law (wsV RL 118 RX3 yX3_play wsX3_play) := goodIn_app (goodIn_r _ [316, 317, 318, 5] rfl (by decide +kernel)) ggL_law_X3_play
set_option maxRecDepth 20000 in
theorem ggL_law_L_mend : GoodIn wsL_law wsL_mend := goodIn_ca (goodIn_r _ [353, 72, 354, 355, 356, 2, 357, 78, 79, 16, 85, 86, 87, 114, 115, 116, 117, 20, 21, 22, 118, 119, 120, 15, 121, 34, 122, 123, 124, 125, 35, 36, 37, 38, 39, 40, 41, 42, 43, 44, 45, 46, 47, 48, 49, 50, 358, 359, 360, 361, 888, 889, 890, 891, 892, 893, 894, 895, 896, 897, 911, 912, 913, 914, 915, 916, 917, 918, 919, 920, 921, 922, 923, 924, 925, 926, 927] rfl (by decide +kernel)) (goodIn_sub (fun _ h => List.mem_append_left _ (List.mem_append_left _ (List.mem_append_right _ h))) (by decide +kernel))
set_option maxRecDepth 20000 in
theorem gL_law_L_mend : GoodIn wsL_law (va_wsS RL 119 yL_mend wsL_mend) := goodIn_app (goodIn_r _ [351, 352, 70] rfl (by decide +kernel)) ggL_law_L_mend
set_option maxRecDepth 20000 in
theorem ggL_law_X3_mend : GoodIn wsL_law wsX3_mend := goodIn_r _ [365, 63, 147, 148, 5, 149, 144, 145, 146, 175, 176, 177, 178, 179, 340, 341, 342, 255, 256, 257, 258, 180, 181, 182, 183, 184, 65, 898, 899, 900, 901, 902, 903, 904, 905, 906, 907, 908, 909, 910] rfl (by decide +kernel)
set_option maxRecDepth 20000 in
theorem gL_law_X3_mend : GoodIn wsL_law (wsV RL 121 RX3 yX3_mend wsX3_mend) := goodIn_app (goodIn_r _ [362, 363, 364, 5] rfl (by decide +kernel)) ggL_law_X3_mend
set_option maxRecDepth 20000 in
theorem ggL_law_L_set : GoodIn wsL_law wsL_set := goodIn_ca (goodIn_ca (goodIn_r _ [368, 72, 196, 369, 370, 371, 2, 372, 78, 79, 201, 202, 373, 374, 16, 85, 86, 87, 218, 219, 220, 114, 115, 116, 117, 20, 21, 22, 118, 119, 120, 15, 121, 34, 122, 123, 124, 125, 35, 36, 37, 38, 39, 40, 41, 42, 43, 44, 45, 46, 47, 48, 49, 50, 888, 889, 890, 891, 892, 893, 894, 895, 896, 897, 911, 912, 913, 914, 915, 916, 917, 918, 919, 920, 921, 922, 923, 924, 925, 926, 927] rfl (by decide +kernel)) (goodIn_sub (fun _ h => List.mem_append_left _ (List.mem_append_left _ (List.mem_append_right _ h))) (by decide +kernel))) (goodIn_sub (fun _ h => List.mem_append_right _ h) (by decide +kernel))
set_option maxRecDepth 20000 in
theorem gL_law_L_set : GoodIn wsL_law (va_wsS RL 122 yL_set wsL_set) := goodIn_app (goodIn_r _ [366, 367, 70] rfl (by decide +kernel)) ggL_law_L_set
set_option maxRecDepth 20000 in
theorem ggL_law_X3_set : GoodIn wsL_law wsX3_set := goodIn_r _ [378, 144, 145, 5, 146, 379, 380, 381, 175, 176, 177, 178, 179, 255, 256, 257, 258, 63, 180, 181, 182, 183, 184, 65, 898, 899, 900, 901, 902, 903, 904, 905, 906, 907, 908, 909, 910] rfl (by decide +kernel)
set_option maxRecDepth 20000 in
theorem gL_law_X3_set : GoodIn wsL_law (wsV RL 125 RX3 yX3_set wsX3_set) := goodIn_app (goodIn_r _ [375, 376, 377, 5] rfl (by decide +kernel)) ggL_law_X3_set
set_option maxRecDepth 20000 in
theorem ggL_law_L_append : GoodIn wsL_law wsL_append := goodIn_ca (goodIn_ca (goodIn_r _ [384, 196, 73, 385, 386, 387, 2, 388, 201, 202, 80, 81, 25, 24, 218, 219, 220, 888, 889, 890, 891, 892, 893, 894, 895, 896, 897] rfl (by decide +kernel)) (goodIn_sub (fun _ h => List.mem_append_right _ h) (by decide +kernel))) (goodIn_sub (fun _ h => List.mem_append_left _ (List.mem_append_right _ h)) (by decide +kernel))
set_option maxRecDepth 20000 in
theorem gL_law_L_append : GoodIn wsL_law (va_wsS RL 126 yL_append wsL_append) := goodIn_app (goodIn_r _ [382, 383, 70] rfl (by decide +kernel)) ggL_law_L_append
set_option maxRecDepth 20000 in
theorem ggL_law_X3_append : GoodIn wsL_law wsX3_append := goodIn_r _ [392, 393, 67, 144, 145, 5, 146, 175, 176, 177, 178, 179, 898, 899, 900, 901, 902, 903, 904, 905, 906, 907, 908, 909, 910] rfl (by decide +kernel)
set_option maxRecDepth 20000 in
theorem gL_law_X3_append : GoodIn wsL_law (wsV RL 128 RX3 yX3_append wsX3_append) := goodIn_app (goodIn_r _ [389, 390, 391, 5] rfl (by decide +kernel)) ggL_law_X3_append
set_option maxRecDepth 20000 in
theorem ggL_law_X2_clearBuffer : GoodIn wsL_law wsX2_clearBuffer := goodIn_r _ [397, 25, 888, 889, 890, 891, 892, 893, 894, 895, 896, 897] rfl (by decide +kernel)
set_option maxRecDepth 20000 in
theorem gL_law_X2_clearBuffer : GoodIn wsL_law (wsV RL 129 RX2 yX2_clearBuffer wsX2_clearBuffer) := goodIn_app (goodIn_r _ [394, 395, 396, 2] rfl (by decide +kernel)) ggL_law_X2_clearBuffer
set_option maxRecDepth 20000 in
theorem ggL_law_X3_clearBuffer : GoodIn wsL_law wsX3_clearBuffer := goodIn_r _ [401, 179, 393, 898, 899, 900, 901, 902, 903, 904, 905, 906, 907, 908, 909, 910] rfl (by decide +kernel)
set_option maxRecDepth 20000 in
theorem gL_law_X3_clearBuffer : GoodIn wsL_law (wsV RL 132 RX3 yX3_clearBuffer wsX3_clearBuffer) := goodIn_app (goodIn_r _ [398, 399, 400, 5] rfl (by decide +kernel)) ggL_law_X3_clearBuffer
set_option maxRecDepth 20000 in
theorem ggL_law_X2_firstError : GoodIn wsL_law wsX2_firstError := goodIn_r _ [405, 406, 407, 408, 2, 409, 29, 25, 24, 410, 411, 412, 28, 413, 54, 414, 415, 416, 417, 418, 419, 420, 421, 55, 422, 423, 424, 425, 426, 427, 428, 429, 430, 431, 432, 56, 433, 434, 435, 436, 437, 438, 439, 440, 441, 442, 443, 58, 444, 445, 446, 447, 448, 449, 450, 451, 452, 453, 454, 455, 456, 457, 458, 57, 459, 460, 461, 462, 463, 464, 465, 466, 237, 238, 239, 467, 468, 469, 470, 888, 889, 890, 891, 892, 893, 894, 895, 896, 897, 928, 929, 930, 931, 932] rfl (by decide +kernel)
set_option maxRecDepth 20000 in
theorem gL_law_X2_firstError : GoodIn wsL_law (wsV RL 133 RX2 yX2_firstError wsX2_firstError) := goodIn_app (goodIn_r _ [402, 403, 404, 2] rfl (by decide +kernel)) ggL_law_X2_firstError
set_option maxRecDepth 20000 in
theorem ggL_law_X3_firstError : GoodIn wsL_law wsX3_firstError := goodIn_r _ [474, 179, 393, 475, 476, 477, 478, 5, 479, 480, 481, 482, 483, 484, 485, 486, 487, 488, 489, 67, 490, 491, 492, 493, 144, 145, 146, 494, 495, 496, 497, 498, 499, 500, 501, 502, 503, 504, 63, 153, 154, 155, 156, 157, 158, 159, 160, 161, 162, 163, 164, 165, 166, 167, 168, 169, 170, 171, 172, 173, 174, 898, 899, 900, 901, 902, 903, 904, 905, 906, 907, 908, 909, 910] rfl (by decide +kernel)
set_option maxRecDepth 20000 in
theorem gL_law_X3_firstError : GoodIn wsL_law (wsV RL 136 RX3 yX3_firstError wsX3_firstError) := goodIn_app (goodIn_r _ [471, 472, 473, 5] rfl (by decide +kernel)) ggL_law_X3_firstError
set_option maxRecDepth 20000 in
theorem ggL_law_L_pins : GoodIn wsL_law wsL_pins := goodIn_ca (goodIn_r _ [507, 196, 508, 509, 510, 2, 511, 201, 202, 25, 29, 406, 407, 408, 409, 24, 410, 411, 412, 28, 413, 54, 414, 415, 416, 417, 418, 419, 420, 421, 55, 422, 423, 424, 425, 426, 427, 428, 429, 430, 431, 432, 56, 433, 434, 435, 436, 437, 438, 439, 440, 441, 442, 443, 58, 444, 445, 446, 447, 448, 449, 450, 451, 452, 453, 454, 455, 456, 457, 458, 57, 459, 460, 461, 462, 463, 464, 465, 466, 237, 238, 239, 467, 468, 469, 470, 512, 513, 514, 515, 114, 115, 116, 117, 20, 21, 22, 16, 118, 119, 120, 15, 121, 34, 122, 123, 124, 125, 35, 36, 37, 38, 39, 40, 41, 42, 43, 44, 45, 46, 47, 48, 49, 50, 516, 517, 518, 519, 520, 521, 522, 523, 524, 525, 526, 527, 528, 529, 530, 531, 532, 533, 89, 90, 91, 92, 93, 94, 95, 96, 97, 98, 99, 100, 101, 102, 103, 104, 105, 106, 107, 108, 109, 110, 111, 112, 113, 534, 127, 128, 129, 888, 889, 890, 891, 892, 893, 894, 895, 896, 897, 928, 929, 930, 931, 932, 911, 912, 913, 914, 915, 916, 917, 918, 919, 920, 921, 922, 923, 924, 925, 926, 927] rfl (by decide +kernel)) (goodIn_sub (fun _ h => List.mem_append_right _ h) (by decide +kernel))
set_option maxRecDepth 20000 in
theorem gL_law_L_pins : GoodIn wsL_law (va_wsS RL 137 yL_pins wsL_pins) := goodIn_app (goodIn_r _ [505, 506, 70] rfl (by decide +kernel)) ggL_law_L_pins
set_option maxRecDepth 20000 in
theorem ggL_law_X3_pins : GoodIn wsL_law wsX3_pins := goodIn_r _ [538, 393, 481, 476, 477, 478, 5, 479, 475, 480, 482, 483, 484, 485, 486, 487, 488, 489, 67, 490, 491, 492, 493, 144, 145, 146, 494, 495, 496, 497, 498, 499, 500, 501, 502, 503, 504, 63, 153, 154, 155, 156, 157, 158, 159, 160, 161, 162, 163, 164, 165, 166, 167, 168, 169, 170, 171, 172, 173, 174, 175, 176, 177, 178, 179, 180, 181, 182, 183, 184, 65, 898, 899, 900, 901, 902, 903, 904, 905, 906, 907, 908, 909, 910] rfl (by decide +kernel)
set_option maxRecDepth 20000 in
theorem gL_law_X3_pins : GoodIn wsL_law (wsV RL 140 RX3 yX3_pins wsX3_pins) := goodIn_app (goodIn_r _ [535, 536, 537, 5] rfl (by decide +kernel)) ggL_law_X3_pins
set_option maxRecDepth 20000 in
theorem ggL_law_L_undo : GoodIn wsL_law wsL_undo := goodIn_ca (goodIn_r _ [541, 73, 542, 543, 544, 2, 545, 80, 81, 22, 16, 20, 21, 118, 119, 120, 15, 121, 34, 122, 123, 124, 125, 35, 36, 37, 38, 39, 40, 41, 42, 43, 44, 45, 46, 47, 48, 49, 50, 888, 889, 890, 891, 892, 893, 894, 895, 896, 897, 911, 912, 913, 914, 915, 916, 917, 918, 919, 920, 921, 922, 923, 924, 925, 926, 927] rfl (by decide +kernel)) (goodIn_sub (fun _ h => List.mem_append_left _ (List.mem_append_right _ h)) (by decide +kernel))
set_option maxRecDepth 20000 in
theorem gL_law_L_undo : GoodIn wsL_law (va_wsS RL 141 yL_undo wsL_undo) := goodIn_app (goodIn_r _ [539, 540, 70] rfl (by decide +kernel)) ggL_law_L_undo
set_option maxRecDepth 20000 in
theorem ggL_law_X3_undo : GoodIn wsL_law wsX3_undo := goodIn_r _ [549, 184, 63, 65, 175, 176, 177, 5, 178, 179, 898, 899, 900, 901, 902, 903, 904, 905, 906, 907, 908, 909, 910] rfl (by decide +kernel)
set_option maxRecDepth 20000 in
theorem gL_law_X3_undo : GoodIn wsL_law (wsV RL 143 RX3 yX3_undo wsX3_undo) := goodIn_app (goodIn_r _ [546, 547, 548, 5] rfl (by decide +kernel)) ggL_law_X3_undo
set_option maxRecDepth 20000 in
theorem ggL_law_X2_keep : GoodIn wsL_law wsX2_keep := goodIn_r _ [553, 18, 16, 19, 118, 119, 120, 15, 121, 34, 122, 123, 124, 125, 35, 36, 37, 38, 39, 40, 41, 42, 43, 44, 45, 46, 47, 48, 49, 50, 554, 555, 556, 557, 558, 131, 132, 133, 96, 97, 98, 99, 107, 108, 109, 110, 111, 112, 113, 888, 889, 890, 891, 892, 893, 894, 895, 896, 897, 911, 912, 913, 914, 915, 916, 917, 918, 919, 920, 921, 922, 923, 924, 925, 926, 927] rfl (by decide +kernel)
set_option maxRecDepth 20000 in
theorem gL_law_X2_keep : GoodIn wsL_law (wsV RL 144 RX2 yX2_keep wsX2_keep) := goodIn_app (goodIn_r _ [550, 551, 552, 2] rfl (by decide +kernel)) ggL_law_X2_keep
set_option maxRecDepth 20000 in
theorem ggL_law_X3_keep : GoodIn wsL_law wsX3_keep := goodIn_r _ [562, 179, 66, 63, 563, 564, 565, 566, 5, 567, 185, 186, 187, 188, 161, 162, 163, 172, 173, 174, 898, 899, 900, 901, 902, 903, 904, 905, 906, 907, 908, 909, 910] rfl (by decide +kernel)
set_option maxRecDepth 20000 in
theorem gL_law_X3_keep : GoodIn wsL_law (wsV RL 147 RX3 yX3_keep wsX3_keep) := goodIn_app (goodIn_r _ [559, 560, 561, 5] rfl (by decide +kernel)) ggL_law_X3_keep
set_option maxRecDepth 20000 in
theorem ggL_law_L_restore : GoodIn wsL_law wsL_restore := goodIn_ca (goodIn_r _ [570, 73, 571, 572, 573, 2, 574, 80, 81, 19, 16, 18, 114, 115, 116, 117, 20, 21, 22, 118, 119, 120, 15, 121, 34, 122, 123, 124, 125, 35, 36, 37, 38, 39, 40, 41, 42, 43, 44, 45, 46, 47, 48, 49, 50, 554, 555, 556, 557, 558, 131, 132, 133, 96, 97, 98, 99, 107, 108, 109, 110, 111, 112, 113, 888, 889, 890, 891, 892, 893, 894, 895, 896, 897, 911, 912, 913, 914, 915, 916, 917, 918, 919, 920, 921, 922, 923, 924, 925, 926, 927] rfl (by decide +kernel)) (goodIn_sub (fun _ h => List.mem_append_left _ (List.mem_append_right _ h)) (by decide +kernel))
set_option maxRecDepth 20000 in
theorem gL_law_L_restore : GoodIn wsL_law (va_wsS RL 148 yL_restore wsL_restore) := goodIn_app (goodIn_r _ [568, 569, 70] rfl (by decide +kernel)) ggL_law_L_restore
set_option maxRecDepth 20000 in
theorem ggL_law_X3_restore : GoodIn wsL_law wsX3_restore := goodIn_r _ [578, 563, 63, 66, 175, 176, 177, 5, 178, 179, 180, 181, 182, 183, 184, 65, 564, 565, 566, 567, 185, 186, 187, 188, 161, 162, 163, 172, 173, 174, 898, 899, 900, 901, 902, 903, 904, 905, 906, 907, 908, 909, 910] rfl (by decide +kernel)
set_option maxRecDepth 20000 in
theorem gL_law_X3_restore : GoodIn wsL_law (wsV RL 150 RX3 yX3_restore wsX3_restore) := goodIn_app (goodIn_r _ [575, 576, 577, 5] rfl (by decide +kernel)) ggL_law_X3_restore
set_option maxRecDepth 20000 in
theorem ggL_law_L_whyNot : GoodIn wsL_law wsL_whyNot := goodIn_ca (goodIn_r _ [581, 72, 582, 583, 584, 2, 585, 78, 79, 16, 82, 83, 84, 85, 86, 87, 88, 89, 90, 15, 91, 40, 92, 93, 94, 95, 96, 97, 98, 99, 34, 100, 101, 102, 103, 104, 105, 106, 107, 108, 109, 110, 111, 112, 113, 888, 889, 890, 891, 892, 893, 894, 895, 896, 897, 911, 912, 913, 914, 915, 916, 917, 918, 919, 920, 921, 922, 923, 924, 925, 926, 927] rfl (by decide +kernel)) (goodIn_sub (fun _ h => List.mem_append_left _ (List.mem_append_left _ (List.mem_append_right _ h))) (by decide +kernel))
set_option maxRecDepth 20000 in
theorem gL_law_L_whyNot : GoodIn wsL_law (va_wsS RL 151 yL_whyNot wsL_whyNot) := goodIn_app (goodIn_r _ [579, 580, 70] rfl (by decide +kernel)) ggL_law_L_whyNot
set_option maxRecDepth 20000 in
theorem ggL_law_X3_whyNot : GoodIn wsL_law wsX3_whyNot := goodIn_r _ [589, 138, 139, 5, 140, 141, 142, 143, 144, 145, 146, 147, 148, 149, 150, 151, 152, 175, 176, 177, 178, 179, 153, 154, 155, 156, 63, 157, 158, 159, 160, 161, 162, 163, 164, 165, 166, 167, 168, 169, 170, 171, 172, 173, 174, 898, 899, 900, 901, 902, 903, 904, 905, 906, 907, 908, 909, 910] rfl (by decide +kernel)
set_option maxRecDepth 20000 in
theorem gL_law_X3_whyNot : GoodIn wsL_law (wsV RL 153 RX3 yX3_whyNot wsX3_whyNot) := goodIn_app (goodIn_r _ [586, 587, 588, 5] rfl (by decide +kernel)) ggL_law_X3_whyNot
set_option maxRecDepth 20000 in
theorem ggL_law_L_next : GoodIn wsL_law wsL_next := goodIn_ca (goodIn_r _ [592, 72, 593, 594, 595, 2, 596, 78, 79, 16, 82, 83, 84, 85, 86, 87, 597, 598, 599, 15, 600, 100, 101, 102, 103, 104, 105, 106, 92, 93, 94, 95, 96, 97, 98, 99, 34, 888, 889, 890, 891, 892, 893, 894, 895, 896, 897, 911, 912, 913, 914, 915, 916, 917, 918, 919, 920, 921, 922, 923, 924, 925, 926, 927] rfl (by decide +kernel)) (goodIn_sub (fun _ h => List.mem_append_left _ (List.mem_append_left _ (List.mem_append_right _ h))) (by decide +kernel))
set_option maxRecDepth 20000 in
theorem gL_law_L_next : GoodIn wsL_law (va_wsS RL 154 yL_next wsL_next) := goodIn_app (goodIn_r _ [590, 591, 70] rfl (by decide +kernel)) ggL_law_L_next
set_option maxRecDepth 20000 in
theorem ggL_law_X3_next : GoodIn wsL_law wsX3_next := goodIn_r _ [604, 138, 139, 5, 140, 141, 142, 143, 144, 145, 146, 147, 148, 149, 150, 151, 152, 175, 176, 177, 178, 179, 157, 158, 159, 160, 63, 161, 162, 163, 898, 899, 900, 901, 902, 903, 904, 905, 906, 907, 908, 909, 910] rfl (by decide +kernel)
set_option maxRecDepth 20000 in
theorem gL_law_X3_next : GoodIn wsL_law (wsV RL 156 RX3 yX3_next wsX3_next) := goodIn_app (goodIn_r _ [601, 602, 603, 5] rfl (by decide +kernel)) ggL_law_X3_next
set_option maxRecDepth 20000 in
theorem ggL_law_L_tune : GoodIn wsL_law wsL_tune := goodIn_ca (goodIn_ca (goodIn_r _ [607, 72, 196, 608, 609, 610, 2, 611, 78, 79, 201, 202, 16, 85, 86, 87, 612, 613, 614, 15, 615, 558, 131, 132, 133, 96, 97, 98, 99, 34, 107, 108, 109, 110, 111, 112, 113, 616, 617, 618, 619, 92, 93, 94, 95, 620, 621, 622, 623, 624, 625, 626, 627, 888, 889, 890, 891, 892, 893, 894, 895, 896, 897, 911, 912, 913, 914, 915, 916, 917, 918, 919, 920, 921, 922, 923, 924, 925, 926, 927] rfl (by decide +kernel)) (goodIn_sub (fun _ h => List.mem_append_left _ (List.mem_append_left _ (List.mem_append_right _ h))) (by decide +kernel))) (goodIn_sub (fun _ h => List.mem_append_right _ h) (by decide +kernel))
set_option maxRecDepth 20000 in
theorem gL_law_L_tune : GoodIn wsL_law (va_wsS RL 157 yL_tune wsL_tune) := goodIn_app (goodIn_r _ [605, 606, 70] rfl (by decide +kernel)) ggL_law_L_tune
set_option maxRecDepth 20000 in
theorem ggL_law_X3_tune : GoodIn wsL_law wsX3_tune := goodIn_r _ [631, 141, 142, 5, 143, 144, 145, 146, 175, 176, 177, 178, 179, 632, 633, 634, 635, 185, 186, 187, 188, 63, 161, 162, 163, 172, 173, 174, 636, 637, 638, 639, 168, 169, 170, 171, 157, 158, 159, 160, 640, 641, 642, 643, 898, 899, 900, 901, 902, 903, 904, 905, 906, 907, 908, 909, 910] rfl (by decide +kernel)
set_option maxRecDepth 20000 in
theorem gL_law_X3_tune : GoodIn wsL_law (wsV RL 159 RX3 yX3_tune wsX3_tune) := goodIn_app (goodIn_r _ [628, 629, 630, 5] rfl (by decide +kernel)) ggL_law_X3_tune
set_option maxRecDepth 20000 in
theorem ggL_law_L_chord : GoodIn wsL_law wsL_chord := goodIn_ca (goodIn_r _ [646, 72, 647, 648, 649, 2, 650, 78, 79, 16, 85, 86, 87, 651, 97, 98, 15, 99, 34, 888, 889, 890, 891, 892, 893, 894, 895, 896, 897, 911, 912, 913, 914, 915, 916, 917, 918, 919, 920, 921, 922, 923, 924, 925, 926, 927] rfl (by decide +kernel)) (goodIn_sub (fun _ h => List.mem_append_left _ (List.mem_append_left _ (List.mem_append_right _ h))) (by decide +kernel))
set_option maxRecDepth 20000 in
theorem gL_law_L_chord : GoodIn wsL_law (va_wsS RL 160 yL_chord wsL_chord) := goodIn_app (goodIn_r _ [644, 645, 70] rfl (by decide +kernel)) ggL_law_L_chord
set_option maxRecDepth 20000 in
theorem ggL_law_X3_chord : GoodIn wsL_law wsX3_chord := goodIn_r _ [655, 141, 142, 5, 143, 144, 145, 146, 150, 151, 152, 175, 176, 177, 178, 179, 168, 169, 170, 171, 157, 158, 159, 160, 63, 161, 162, 163, 898, 899, 900, 901, 902, 903, 904, 905, 906, 907, 908, 909, 910] rfl (by decide +kernel)
set_option maxRecDepth 20000 in
theorem gL_law_X3_chord : GoodIn wsL_law (wsV RL 162 RX3 yX3_chord wsX3_chord) := goodIn_app (goodIn_r _ [652, 653, 654, 5] rfl (by decide +kernel)) ggL_law_X3_chord
set_option maxRecDepth 20000 in
theorem ggL_law_L_tooth : GoodIn wsL_law wsL_tooth := goodIn_ca (goodIn_ca (goodIn_r _ [658, 72, 196, 659, 660, 661, 2, 662, 78, 79, 201, 202, 16, 85, 86, 87, 663, 664, 665, 15, 666, 36, 37, 43, 300, 301, 302, 303, 35, 46, 285, 286, 238, 287, 308, 309, 310, 311, 41, 667, 668, 669, 670, 92, 93, 94, 95, 96, 97, 98, 99, 34, 888, 889, 890, 891, 892, 893, 894, 895, 896, 897, 911, 912, 913, 914, 915, 916, 917, 918, 919, 920, 921, 922, 923, 924, 925, 926, 927] rfl (by decide +kernel)) (goodIn_sub (fun _ h => List.mem_append_left _ (List.mem_append_left _ (List.mem_append_right _ h))) (by decide +kernel))) (goodIn_sub (fun _ h => List.mem_append_right _ h) (by decide +kernel))
set_option maxRecDepth 20000 in
theorem gL_law_L_tooth : GoodIn wsL_law (va_wsS RL 163 yL_tooth wsL_tooth) := goodIn_app (goodIn_r _ [656, 657, 70] rfl (by decide +kernel)) ggL_law_L_tooth
set_option maxRecDepth 20000 in
theorem ggL_law_X3_tooth : GoodIn wsL_law wsX3_tooth := goodIn_r _ [674, 147, 148, 5, 149, 144, 145, 146, 175, 176, 177, 178, 179, 675, 676, 677, 678, 63, 340, 341, 342, 679, 680, 681, 682, 161, 162, 163, 898, 899, 900, 901, 902, 903, 904, 905, 906, 907, 908, 909, 910] rfl (by decide +kernel)
set_option maxRecDepth 20000 in
theorem gL_law_X3_tooth : GoodIn wsL_law (wsV RL 165 RX3 yX3_tooth wsX3_tooth) := goodIn_app (goodIn_r _ [671, 672, 673, 5] rfl (by decide +kernel)) ggL_law_X3_tooth
set_option maxRecDepth 20000 in
theorem ggL_law_L_note : GoodIn wsL_law wsL_note := goodIn_ca (goodIn_r _ [685, 196, 686, 687, 688, 2, 689, 201, 202, 16, 85, 86, 87, 690, 691, 692, 15, 693, 48, 694, 237, 238, 239, 695, 696, 697, 698, 38, 699, 700, 701, 702, 103, 104, 105, 106, 703, 704, 705, 706, 39, 888, 889, 890, 891, 892, 893, 894, 895, 896, 897, 911, 912, 913, 914, 915, 916, 917, 918, 919, 920, 921, 922, 923, 924, 925, 926, 927] rfl (by decide +kernel)) (goodIn_sub (fun _ h => List.mem_append_right _ h) (by decide +kernel))
set_option maxRecDepth 20000 in
theorem gL_law_L_note : GoodIn wsL_law (va_wsS RL 166 yL_note wsL_note) := goodIn_app (goodIn_r _ [683, 684, 70] rfl (by decide +kernel)) ggL_law_L_note
set_option maxRecDepth 20000 in
theorem ggL_law_X3_note : GoodIn wsL_law wsX3_note := goodIn_r _ [710, 63, 144, 145, 5, 146, 175, 176, 177, 178, 179, 898, 899, 900, 901, 902, 903, 904, 905, 906, 907, 908, 909, 910] rfl (by decide +kernel)
set_option maxRecDepth 20000 in
theorem gL_law_X3_note : GoodIn wsL_law (wsV RL 168 RX3 yX3_note wsX3_note) := goodIn_app (goodIn_r _ [707, 708, 709, 5] rfl (by decide +kernel)) ggL_law_X3_note
set_option maxRecDepth 20000 in
theorem ggL_law_L_count : GoodIn wsL_law wsL_count := goodIn_ca (goodIn_r _ [713, 196, 714, 715, 716, 2, 717, 201, 202, 85, 86, 87, 718, 719, 720, 721, 22, 16, 722, 723, 724, 15, 725, 42, 43, 44, 45, 46, 47, 48, 49, 50, 40, 726, 727, 728, 729, 300, 301, 302, 303, 35, 285, 286, 238, 287, 730, 731, 732, 733, 41, 107, 108, 109, 110, 111, 112, 113, 734, 555, 556, 557, 558, 131, 132, 133, 96, 97, 98, 99, 34, 103, 104, 105, 106, 888, 889, 890, 891, 892, 893, 894, 895, 896, 897, 911, 912, 913, 914, 915, 916, 917, 918, 919, 920, 921, 922, 923, 924, 925, 926, 927] rfl (by decide +kernel)) (goodIn_sub (fun _ h => List.mem_append_right _ h) (by decide +kernel))
set_option maxRecDepth 20000 in
theorem gL_law_L_count : GoodIn wsL_law (va_wsS RL 169 yL_count wsL_count) := goodIn_app (goodIn_r _ [711, 712, 70] rfl (by decide +kernel)) ggL_law_L_count
set_option maxRecDepth 20000 in
theorem ggL_law_X3_count : GoodIn wsL_law wsX3_count := goodIn_r _ [738, 144, 145, 5, 146, 175, 176, 177, 178, 179, 739, 740, 741, 742, 63, 184, 743, 744, 745, 746, 340, 341, 342, 564, 565, 566, 567, 185, 186, 187, 188, 161, 162, 163, 172, 173, 174, 898, 899, 900, 901, 902, 903, 904, 905, 906, 907, 908, 909, 910] rfl (by decide +kernel)
set_option maxRecDepth 20000 in
theorem gL_law_X3_count : GoodIn wsL_law (wsV RL 171 RX3 yX3_count wsX3_count) := goodIn_app (goodIn_r _ [735, 736, 737, 5] rfl (by decide +kernel)) ggL_law_X3_count
set_option maxRecDepth 20000 in
theorem ggL_law_L_ifPlayed : GoodIn wsL_law wsL_ifPlayed := goodIn_ca (goodIn_r _ [749, 196, 750, 751, 752, 2, 753, 201, 202, 16, 218, 219, 220, 85, 86, 87, 754, 755, 756, 757, 17, 118, 119, 120, 15, 121, 34, 122, 123, 124, 125, 35, 36, 37, 38, 39, 40, 41, 42, 43, 44, 45, 46, 47, 48, 49, 50, 277, 278, 279, 280, 281, 282, 283, 284, 285, 286, 238, 287, 100, 101, 102, 103, 104, 105, 106, 288, 289, 290, 291, 96, 97, 98, 99, 292, 293, 294, 295, 107, 108, 109, 110, 111, 112, 113, 296, 297, 298, 299, 300, 301, 302, 303, 304, 305, 306, 307, 308, 309, 310, 311, 312, 313, 314, 315, 758, 759, 760, 761, 762, 731, 732, 733, 888, 889, 890, 891, 892, 893, 894, 895, 896, 897, 911, 912, 913, 914, 915, 916, 917, 918, 919, 920, 921, 922, 923, 924, 925, 926, 927] rfl (by decide +kernel)) (goodIn_sub (fun _ h => List.mem_append_right _ h) (by decide +kernel))
set_option maxRecDepth 20000 in
theorem gL_law_L_ifPlayed : GoodIn wsL_law (va_wsS RL 172 yL_ifPlayed wsL_ifPlayed) := goodIn_app (goodIn_r _ [747, 748, 70] rfl (by decide +kernel)) ggL_law_L_ifPlayed
set_option maxRecDepth 20000 in
theorem ggL_law_X3_ifPlayed : GoodIn wsL_law wsX3_ifPlayed := goodIn_r _ [766, 144, 145, 5, 146, 175, 176, 177, 178, 179, 767, 768, 769, 770, 63, 64, 771, 772, 773, 774, 743, 744, 745, 746, 340, 341, 342, 320, 321, 322, 323, 324, 325, 326, 327, 328, 329, 330, 331, 332, 333, 334, 335, 336, 337, 338, 339, 157, 158, 159, 160, 161, 162, 163, 343, 344, 345, 346, 347, 348, 349, 350, 775, 776, 777, 778, 898, 899, 900, 901, 902, 903, 904, 905, 906, 907, 908, 909, 910] rfl (by decide +kernel)
set_option maxRecDepth 20000 in
theorem gL_law_X3_ifPlayed : GoodIn wsL_law (wsV RL 174 RX3 yX3_ifPlayed wsX3_ifPlayed) := goodIn_app (goodIn_r _ [763, 764, 765, 5] rfl (by decide +kernel)) ggL_law_X3_ifPlayed
set_option maxRecDepth 20000 in
theorem ggL_law_X2_fewestVanes : GoodIn wsL_law wsX2_fewestVanes := goodIn_r _ [782, 783, 784, 785, 2, 786, 17, 16, 754, 755, 756, 757, 118, 119, 120, 15, 121, 34, 122, 123, 124, 125, 35, 36, 37, 38, 39, 40, 41, 42, 43, 44, 45, 46, 47, 48, 49, 50, 277, 278, 279, 280, 281, 282, 283, 284, 285, 286, 238, 287, 100, 101, 102, 103, 104, 105, 106, 288, 289, 290, 291, 96, 97, 98, 99, 292, 293, 294, 295, 107, 108, 109, 110, 111, 112, 113, 296, 297, 298, 299, 300, 301, 302, 303, 304, 305, 306, 307, 308, 309, 310, 311, 312, 313, 314, 315, 888, 889, 890, 891, 892, 893, 894, 895, 896, 897, 911, 912, 913, 914, 915, 916, 917, 918, 919, 920, 921, 922, 923, 924, 925, 926, 927] rfl (by decide +kernel)
set_option maxRecDepth 20000 in
theorem gL_law_X2_fewestVanes : GoodIn wsL_law (wsV RL 175 RX2 yX2_fewestVanes wsX2_fewestVanes) := goodIn_app (goodIn_r _ [779, 780, 781, 2] rfl (by decide +kernel)) ggL_law_X2_fewestVanes
set_option maxRecDepth 20000 in
theorem ggL_law_X3_fewestVanes : GoodIn wsL_law wsX3_fewestVanes := goodIn_r _ [790, 179, 791, 792, 793, 5, 794, 63, 767, 768, 769, 770, 64, 771, 772, 773, 774, 743, 744, 745, 746, 340, 341, 342, 320, 321, 322, 323, 324, 325, 326, 327, 328, 329, 330, 331, 332, 333, 334, 335, 336, 337, 338, 339, 157, 158, 159, 160, 161, 162, 163, 343, 344, 345, 346, 347, 348, 349, 350, 775, 776, 777, 778, 898, 899, 900, 901, 902, 903, 904, 905, 906, 907, 908, 909, 910] rfl (by decide +kernel)
set_option maxRecDepth 20000 in
theorem gL_law_X3_fewestVanes : GoodIn wsL_law (wsV RL 178 RX3 yX3_fewestVanes wsX3_fewestVanes) := goodIn_app (goodIn_r _ [787, 788, 789, 5] rfl (by decide +kernel)) ggL_law_X3_fewestVanes
set_option maxRecDepth 20000 in
theorem ggL_law_L_windFor : GoodIn wsL_law wsL_windFor := goodIn_ca (goodIn_r _ [797, 196, 798, 799, 800, 2, 801, 201, 202, 16, 218, 219, 220, 802, 803, 804, 15, 805, 42, 43, 100, 101, 102, 103, 104, 105, 106, 288, 289, 290, 291, 40, 292, 293, 294, 295, 41, 96, 97, 98, 99, 34, 107, 108, 109, 110, 111, 112, 113, 888, 889, 890, 891, 892, 893, 894, 895, 896, 897, 911, 912, 913, 914, 915, 916, 917, 918, 919, 920, 921, 922, 923, 924, 925, 926, 927] rfl (by decide +kernel)) (goodIn_sub (fun _ h => List.mem_append_right _ h) (by decide +kernel))
set_option maxRecDepth 20000 in
theorem gL_law_L_windFor : GoodIn wsL_law (va_wsS RL 179 yL_windFor wsL_windFor) := goodIn_app (goodIn_r _ [795, 796, 70] rfl (by decide +kernel)) ggL_law_L_windFor
set_option maxRecDepth 20000 in
theorem ggL_law_X3_windFor : GoodIn wsL_law wsX3_windFor := goodIn_r _ [809, 144, 145, 5, 146, 175, 176, 177, 178, 179, 810, 811, 812, 813, 63, 771, 772, 773, 774, 64, 328, 329, 330, 331, 332, 333, 334, 335, 336, 337, 338, 339, 157, 158, 159, 160, 161, 162, 163, 340, 341, 342, 775, 776, 777, 778, 898, 899, 900, 901, 902, 903, 904, 905, 906, 907, 908, 909, 910] rfl (by decide +kernel)
set_option maxRecDepth 20000 in
theorem gL_law_X3_windFor : GoodIn wsL_law (wsV RL 181 RX3 yX3_windFor wsX3_windFor) := goodIn_app (goodIn_r _ [806, 807, 808, 5] rfl (by decide +kernel)) ggL_law_X3_windFor
set_option maxRecDepth 20000 in
theorem ggL_law_X2_clean : GoodIn wsL_law wsX2_clean := goodIn_r _ [817, 818, 819, 820, 2, 821, 16, 822, 286, 238, 287, 888, 889, 890, 891, 892, 893, 894, 895, 896, 897, 911, 912, 913, 914, 915, 916, 917, 918, 919, 920, 921, 922, 923, 924, 925, 926, 927] rfl (by decide +kernel)
set_option maxRecDepth 20000 in
theorem gL_law_X2_clean : GoodIn wsL_law (wsV RL 182 RX2 yX2_clean wsX2_clean) := goodIn_app (goodIn_r _ [814, 815, 816, 2] rfl (by decide +kernel)) ggL_law_X2_clean
set_option maxRecDepth 20000 in
theorem ggL_law_X3_clean : GoodIn wsL_law wsX3_clean := goodIn_r _ [826, 179, 827, 828, 829, 5, 830, 63, 898, 899, 900, 901, 902, 903, 904, 905, 906, 907, 908, 909, 910] rfl (by decide +kernel)
set_option maxRecDepth 20000 in
theorem gL_law_X3_clean : GoodIn wsL_law (wsV RL 186 RX3 yX3_clean wsX3_clean) := goodIn_app (goodIn_r _ [823, 824, 825, 5] rfl (by decide +kernel)) ggL_law_X3_clean
set_option maxRecDepth 20000 in
theorem ggL_law_X2_digest : GoodIn wsL_law wsX2_digest := goodIn_r _ [834, 835, 16, 718, 719, 720, 2, 721, 22, 722, 723, 724, 15, 725, 42, 43, 44, 45, 46, 47, 48, 49, 50, 40, 726, 727, 728, 729, 300, 301, 302, 303, 35, 285, 286, 238, 287, 730, 731, 732, 733, 41, 107, 108, 109, 110, 111, 112, 113, 734, 555, 556, 557, 558, 131, 132, 133, 96, 97, 98, 99, 34, 103, 104, 105, 106, 836, 837, 838, 839, 840, 841, 842, 843, 612, 613, 614, 615, 616, 617, 618, 619, 92, 93, 94, 95, 620, 621, 622, 623, 624, 625, 626, 627, 651, 844, 845, 846, 847, 663, 664, 665, 666, 36, 37, 308, 309, 310, 311, 667, 668, 669, 670, 848, 849, 850, 851, 690, 691, 692, 693, 694, 237, 239, 695, 696, 697, 698, 38, 699, 700, 701, 702, 703, 704, 705, 706, 39, 852, 853, 854, 855, 754, 755, 756, 757, 17, 118, 119, 120, 121, 122, 123, 124, 125, 277, 278, 279, 280, 281, 282, 283, 284, 100, 101, 102, 288, 289, 290, 291, 292, 293, 294, 295, 296, 297, 298, 299, 304, 305, 306, 307, 312, 313, 314, 315, 758, 759, 760, 761, 762, 783, 784, 785, 786, 802, 803, 804, 805, 818, 819, 820, 821, 822, 856, 857, 858, 859, 860, 861, 862, 863, 864, 865, 25, 24, 888, 889, 890, 891, 892, 893, 894, 895, 896, 897, 911, 912, 913, 914, 915, 916, 917, 918, 919, 920, 921, 922, 923, 924, 925, 926, 927] rfl (by decide +kernel)
set_option maxRecDepth 20000 in
theorem gL_law_X2_digest : GoodIn wsL_law (wsV RL 187 RX2 yX2_digest wsX2_digest) := goodIn_app (goodIn_r _ [831, 832, 833, 2] rfl (by decide +kernel)) ggL_law_X2_digest
set_option maxRecDepth 20000 in
theorem ggL_law_X3_digest : GoodIn wsL_law wsX3_digest := goodIn_r _ [869, 179, 870, 871, 393, 67, 739, 740, 741, 5, 742, 63, 184, 743, 744, 745, 746, 340, 341, 342, 564, 565, 566, 567, 185, 186, 187, 188, 161, 162, 163, 172, 173, 174, 872, 873, 874, 875, 876, 877, 878, 879, 880, 632, 633, 634, 635, 636, 637, 638, 639, 168, 169, 170, 171, 157, 158, 159, 160, 640, 641, 642, 643, 675, 676, 677, 678, 679, 680, 681, 682, 767, 768, 769, 770, 64, 771, 772, 773, 774, 320, 321, 322, 323, 324, 325, 326, 327, 328, 329, 330, 331, 332, 333, 334, 335, 336, 337, 338, 339, 343, 344, 345, 346, 347, 348, 349, 350, 775, 776, 777, 778, 791, 792, 793, 794, 810, 811, 812, 813, 827, 828, 829, 830, 881, 882, 883, 884, 885, 886, 887, 898, 899, 900, 901, 902, 903, 904, 905, 906, 907, 908, 909, 910] rfl (by decide +kernel)
set_option maxRecDepth 20000 in
theorem gL_law_X3_digest : GoodIn wsL_law (wsV RL 191 RX3 yX3_digest wsX3_digest) := goodIn_app (goodIn_r _ [866, 867, 868, 5] rfl (by decide +kernel)) ggL_law_X3_digest
