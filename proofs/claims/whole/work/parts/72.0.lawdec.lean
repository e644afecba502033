set_option maxRecDepth 20000 in
theorem ggL_law_X10_init : GoodIn wsL_law wsX10_init := goodIn_r _ [10, 11, 12, 13, 14, 15, 16, 17, 18, 19, 20, 21, 22, 23, 24, 25, 26, 27, 28, 29, 30, 31, 32, 33, 34, 35, 36, 37, 38, 39, 40, 41, 42, 43, 44, 45, 46, 47, 48, 49, 50, 51, 52, 53, 54, 55, 56, 57, 58, 59, 60, 61, 62, 63, 64, 65, 66, 67, 68, 69, 70, 71, 72, 73, 74, 75, 76, 77, 78, 79, 80, 81, 82, 83, 84, 85, 86, 87, 88, 89, 90, 91, 92, 93, 94, 95, 96, 97, 98, 99, 100, 101, 102, 103, 104, 105, 106, 107, 108, 109, 110, 111, 112, 113, 114, 115, 116, 117, 118, 119, 120, 121, 122, 123, 124, 125, 126, 127, 128, 129, 130, 131, 132, 133, 134, 135, 136, 137, 138, 139, 140, 141, 142, 143, 144, 932, 933, 934, 935, 911, 912, 913, 914, 915, 916, 917, 936, 937, 938, 939, 940, 941, 942, 943, 944, 945, 946, 947, 948, 949, 950, 951, 952, 953, 954, 955, 956, 957, 958, 959, 960, 961, 962, 963, 964, 965, 966, 967, 968, 969] (by decide +kernel) (by decide +kernel)
set_option maxRecDepth 20000 in
theorem gL_law_X10_init : GoodIn wsL_law (wsX10_init) := ggL_law_X10_init
set_option maxRecDepth 20000 in
theorem ggL_law_X11_init : GoodIn wsL_law wsX11_init := goodIn_r _ [147, 148, 12, 13, 35, 149, 150, 151, 152, 153, 154, 155, 156, 5, 157, 918, 919, 920, 921, 922, 923, 924, 925, 926, 927, 928, 929, 930, 931] (by decide +kernel) (by decide +kernel)
set_option maxRecDepth 20000 in
theorem gL_law_X11_init : GoodIn wsL_law (wsX11_init) := ggL_law_X11_init
set_option maxRecDepth 20000 in
theorem ggL_law_L_addPulsed : GoodIn wsL_law wsL_addPulsed := goodIn_ca (goodIn_ca (goodIn_r _ [161, 162, 163, 164, 165, 166, 2, 167, 168, 30, 26, 169, 170, 171, 172, 173, 174, 175, 176, 177, 178, 179, 180, 181, 182, 29, 183, 184, 138, 185, 186, 187, 52, 188, 189, 190, 191, 192, 193, 194, 195, 196, 197, 25, 198, 77, 79, 83, 87, 199, 88, 89, 90, 91, 200, 201, 202, 76, 203, 96, 204, 205, 206, 207, 60, 208, 69, 209, 210, 211, 212, 213, 214, 215, 216, 44, 217, 61, 218, 219, 220, 221, 222, 223, 224, 82, 225, 103, 104, 105, 226, 227, 228, 229, 86, 230, 128, 129, 231, 232, 130, 233, 234, 235, 236, 237, 238, 239, 120, 121, 122, 66, 67, 240, 241, 242, 243, 911, 912, 913, 914, 915, 916, 917, 938, 939, 940, 941, 942, 943, 944, 945, 946, 961, 962, 947, 948, 949, 958, 959, 960, 954, 955, 956, 957, 963, 964, 965, 966, 967, 968, 969] (by decide +kernel) (by decide +kernel)) (goodIn_sub (fun _ h => List.mem_append_left _ (List.mem_append_left _ (List.mem_append_right _ h))) (by decide +kernel))) (goodIn_sub (fun _ h => List.mem_append_left _ (List.mem_append_right _ h)) (by decide +kernel))
set_option maxRecDepth 20000 in
theorem gL_law_L_addPulsed : GoodIn wsL_law (va_wsS RL 82 yL_addPulsed wsL_addPulsed) := goodIn_app (goodIn_of _ (by decide +kernel)) ggL_law_L_addPulsed
set_option maxRecDepth 20000 in
theorem ggL_law_X11_addPulsed : GoodIn wsL_law wsX11_addPulsed := goodIn_r _ [247, 248, 149, 249, 250, 5, 251, 252, 253, 254, 255, 256, 257, 258, 259, 260, 261, 262, 263, 264, 265, 266, 267, 268, 269, 270, 271, 272, 273, 150, 274, 275, 276, 277, 918, 919, 920, 921, 922, 923, 924, 925, 926, 927, 928, 929, 930, 931] (by decide +kernel) (by decide +kernel)
set_option maxRecDepth 20000 in
theorem gL_law_X11_addPulsed : GoodIn wsL_law (wsV RL 87 RX11 yX11_addPulsed wsX11_addPulsed) := goodIn_app (goodIn_of _ (by decide +kernel)) ggL_law_X11_addPulsed
set_option maxRecDepth 20000 in
theorem ggL_law_X11_thrown : GoodIn wsL_law wsX11_thrown := goodIn_r _ [281, 268, 918, 919, 920, 921, 922, 923, 924, 925, 926, 927, 928, 929, 930, 931] (by decide +kernel) (by decide +kernel)
set_option maxRecDepth 20000 in
theorem gL_law_X11_thrown : GoodIn wsL_law (wsV RL 88 RX11 yX11_thrown wsX11_thrown) := goodIn_app (goodIn_of _ (by decide +kernel)) ggL_law_X11_thrown
set_option maxRecDepth 20000 in
theorem ggL_law_L_addHopping : GoodIn wsL_law wsL_addHopping := goodIn_ca (goodIn_ca (goodIn_r _ [284, 162, 163, 285, 286, 287, 2, 288, 168, 30, 26, 169, 170, 171, 172, 173, 174, 175, 176, 177, 178, 179, 180, 181, 182, 29, 183, 184, 138, 185, 186, 187, 52, 188, 189, 190, 191, 192, 193, 194, 195, 196, 197, 25, 198, 77, 79, 83, 87, 199, 88, 89, 90, 91, 200, 201, 202, 76, 203, 96, 204, 205, 206, 207, 60, 208, 69, 209, 210, 211, 212, 213, 214, 215, 216, 44, 217, 61, 218, 219, 220, 221, 222, 223, 224, 82, 225, 103, 104, 105, 226, 227, 228, 229, 86, 230, 128, 129, 231, 232, 130, 233, 234, 235, 236, 237, 238, 239, 120, 121, 122, 66, 67, 240, 241, 242, 243, 911, 912, 913, 914, 915, 916, 917, 938, 939, 940, 941, 942, 943, 944, 945, 946, 961, 962, 947, 948, 949, 958, 959, 960, 954, 955, 956, 957, 963, 964, 965, 966, 967, 968, 969] (by decide +kernel) (by decide +kernel)) (goodIn_sub (fun _ h => List.mem_append_left _ (List.mem_append_left _ (List.mem_append_right _ h))) (by decide +kernel))) (goodIn_sub (fun _ h => List.mem_append_left _ (List.mem_append_right _ h)) (by decide +kernel))
set_option maxRecDepth 20000 in
theorem gL_law_L_addHopping : GoodIn wsL_law (va_wsS RL 91 yL_addHopping wsL_addHopping) := goodIn_app (goodIn_of _ (by decide +kernel)) ggL_law_L_addHopping
set_option maxRecDepth 20000 in
theorem ggL_law_X11_addHopping : GoodIn wsL_law wsX11_addHopping := goodIn_r _ [292, 252, 248, 149, 249, 250, 5, 251, 253, 254, 255, 256, 257, 258, 259, 260, 261, 262, 263, 264, 265, 266, 267, 268, 269, 270, 271, 272, 273, 150, 274, 275, 276, 277, 918, 919, 920, 921, 922, 923, 924, 925, 926, 927, 928, 929, 930, 931] (by decide +kernel) (by decide +kernel)
set_option maxRecDepth 20000 in
theorem gL_law_X11_addHopping : GoodIn wsL_law (wsV RL 93 RX11 yX11_addHopping wsX11_addHopping) := goodIn_app (goodIn_of _ (by decide +kernel)) ggL_law_X11_addHopping
set_option maxRecDepth 20000 in
theorem ggL_law_L_removeSignal : GoodIn wsL_law wsL_removeSignal := goodIn_ca (goodIn_r _ [295, 296, 297, 298, 299, 2, 300, 26, 30, 301, 302, 303, 304, 305, 306, 193, 194, 180, 181, 182, 29, 183, 184, 138, 185, 186, 187, 52, 188, 189, 190, 191, 192, 195, 196, 197, 25, 198, 77, 79, 83, 87, 199, 88, 89, 90, 91, 200, 201, 202, 76, 203, 96, 204, 205, 206, 207, 60, 208, 69, 209, 210, 211, 212, 213, 214, 215, 216, 44, 217, 61, 218, 219, 220, 221, 222, 223, 224, 82, 225, 103, 104, 105, 226, 227, 228, 229, 86, 230, 128, 129, 231, 232, 130, 233, 234, 307, 308, 309, 310, 311, 312, 313, 314, 66, 67, 911, 912, 913, 914, 915, 916, 917, 938, 939, 940, 941, 942, 943, 944, 945, 946, 961, 962, 947, 948, 949, 958, 959, 960, 954, 955, 956, 957, 963, 964, 965, 966, 967, 968, 969] (by decide +kernel) (by decide +kernel)) (goodIn_sub (fun _ h => List.mem_append_right _ h) (by decide +kernel))
set_option maxRecDepth 20000 in
theorem gL_law_L_removeSignal : GoodIn wsL_law (va_wsS RL 94 yL_removeSignal wsL_removeSignal) := goodIn_app (goodIn_of _ (by decide +kernel)) ggL_law_L_removeSignal
set_option maxRecDepth 20000 in
theorem ggL_law_X11_removeSignal : GoodIn wsL_law wsX11_removeSignal := goodIn_r _ [318, 149, 253, 254, 5, 255, 264, 265, 266, 267, 268, 269, 270, 271, 272, 273, 150, 918, 919, 920, 921, 922, 923, 924, 925, 926, 927, 928, 929, 930, 931] (by decide +kernel) (by decide +kernel)
set_option maxRecDepth 20000 in
theorem gL_law_X11_removeSignal : GoodIn wsL_law (wsV RL 97 RX11 yX11_removeSignal wsX11_removeSignal) := goodIn_app (goodIn_of _ (by decide +kernel)) ggL_law_X11_removeSignal
set_option maxRecDepth 20000 in
theorem ggL_law_L_setLevels : GoodIn wsL_law wsL_setLevels := goodIn_ca (goodIn_r _ [321, 162, 322, 323, 324, 2, 325, 30, 26, 169, 170, 171, 172, 173, 180, 181, 182, 29, 183, 184, 138, 185, 186, 187, 52, 188, 189, 190, 191, 192, 193, 194, 195, 196, 197, 25, 198, 77, 79, 83, 87, 199, 88, 89, 90, 91, 200, 201, 202, 76, 203, 96, 204, 205, 206, 207, 60, 208, 69, 209, 210, 211, 212, 213, 214, 215, 216, 44, 217, 61, 218, 219, 220, 221, 222, 223, 224, 82, 225, 103, 104, 105, 226, 227, 228, 229, 86, 230, 128, 129, 231, 232, 130, 233, 234, 911, 912, 913, 914, 915, 916, 917, 938, 939, 940, 941, 942, 943, 944, 945, 946, 947, 948, 949, 961, 962, 958, 959, 960, 954, 955, 956, 957, 963, 964, 965, 966, 967, 968, 969] (by decide +kernel) (by decide +kernel)) (goodIn_sub (fun _ h => List.mem_append_left _ (List.mem_append_left _ (List.mem_append_right _ h))) (by decide +kernel))
set_option maxRecDepth 20000 in
theorem gL_law_L_setLevels : GoodIn wsL_law (va_wsS RL 98 yL_setLevels wsL_setLevels) := goodIn_app (goodIn_of _ (by decide +kernel)) ggL_law_L_setLevels
set_option maxRecDepth 20000 in
theorem ggL_law_X11_setLevels : GoodIn wsL_law wsX11_setLevels := goodIn_r _ [329, 149, 256, 257, 5, 258, 259, 253, 254, 255, 264, 265, 266, 267, 268, 269, 270, 271, 272, 273, 150, 918, 919, 920, 921, 922, 923, 924, 925, 926, 927, 928, 929, 930, 931] (by decide +kernel) (by decide +kernel)
set_option maxRecDepth 20000 in
theorem gL_law_X11_setLevels : GoodIn wsL_law (wsV RL 101 RX11 yX11_setLevels wsX11_setLevels) := goodIn_app (goodIn_of _ (by decide +kernel)) ggL_law_X11_setLevels
set_option maxRecDepth 20000 in
theorem ggL_law_L_setMask : GoodIn wsL_law wsL_setMask := goodIn_ca (goodIn_ca (goodIn_r _ [332, 296, 162, 333, 334, 335, 2, 336, 30, 26, 301, 302, 303, 304, 305, 306, 193, 194, 169, 170, 171, 172, 173, 180, 181, 182, 29, 183, 184, 138, 185, 186, 187, 52, 188, 189, 190, 191, 192, 195, 196, 197, 25, 198, 77, 79, 83, 87, 199, 88, 89, 90, 91, 200, 201, 202, 76, 203, 96, 204, 205, 206, 207, 60, 208, 69, 209, 210, 211, 212, 213, 214, 215, 216, 44, 217, 61, 218, 219, 220, 221, 222, 223, 224, 82, 225, 103, 104, 105, 226, 227, 228, 229, 86, 230, 128, 129, 231, 232, 130, 233, 234, 337, 338, 339, 340, 341, 342, 343, 344, 66, 67, 345, 346, 347, 348, 119, 120, 121, 122, 911, 912, 913, 914, 915, 916, 917, 938, 939, 940, 941, 942, 943, 944, 945, 946, 947, 948, 949, 961, 962, 958, 959, 960, 954, 955, 956, 957, 963, 964, 965, 966, 967, 968, 969] (by decide +kernel) (by decide +kernel)) (goodIn_sub (fun _ h => List.mem_append_right _ h) (by decide +kernel))) (goodIn_sub (fun _ h => List.mem_append_left _ (List.mem_append_left _ (List.mem_append_right _ h))) (by decide +kernel))
set_option maxRecDepth 20000 in
theorem gL_law_L_setMask : GoodIn wsL_law (va_wsS RL 102 yL_setMask wsL_setMask) := goodIn_app (goodIn_of _ (by decide +kernel)) ggL_law_L_setMask
set_option maxRecDepth 20000 in
theorem ggL_law_X11_setMask : GoodIn wsL_law wsX11_setMask := goodIn_r _ [352, 149, 249, 250, 5, 251, 252, 253, 254, 255, 256, 257, 258, 259, 264, 265, 266, 267, 268, 269, 270, 271, 272, 273, 150, 918, 919, 920, 921, 922, 923, 924, 925, 926, 927, 928, 929, 930, 931] (by decide +kernel) (by decide +kernel)
set_option maxRecDepth 20000 in
theorem gL_law_X11_setMask : GoodIn wsL_law (wsV RL 105 RX11 yX11_setMask wsX11_setMask) := goodIn_app (goodIn_of _ (by decide +kernel)) ggL_law_X11_setMask
set_option maxRecDepth 20000 in
theorem ggL_law_L_setHops : GoodIn wsL_law wsL_setHops := goodIn_ca (goodIn_r _ [355, 162, 356, 357, 358, 2, 359, 30, 26, 169, 170, 171, 172, 173, 180, 181, 182, 29, 183, 184, 138, 185, 186, 187, 52, 188, 189, 190, 191, 192, 193, 194, 195, 196, 197, 25, 198, 77, 79, 83, 87, 199, 88, 89, 90, 91, 200, 201, 202, 76, 203, 96, 204, 205, 206, 207, 60, 208, 69, 209, 210, 211, 212, 213, 214, 215, 216, 44, 217, 61, 218, 219, 220, 221, 222, 223, 224, 82, 225, 103, 104, 105, 226, 227, 228, 229, 86, 230, 128, 129, 231, 232, 130, 233, 234, 911, 912, 913, 914, 915, 916, 917, 938, 939, 940, 941, 942, 943, 944, 945, 946, 947, 948, 949, 961, 962, 958, 959, 960, 954, 955, 956, 957, 963, 964, 965, 966, 967, 968, 969] (by decide +kernel) (by decide +kernel)) (goodIn_sub (fun _ h => List.mem_append_left _ (List.mem_append_left _ (List.mem_append_right _ h))) (by decide +kernel))
set_option maxRecDepth 20000 in
theorem gL_law_L_setHops : GoodIn wsL_law (va_wsS RL 106 yL_setHops wsL_setHops) := goodIn_app (goodIn_of _ (by decide +kernel)) ggL_law_L_setHops
set_option maxRecDepth 20000 in
theorem ggL_law_X11_setHops : GoodIn wsL_law wsX11_setHops := goodIn_r _ [363, 248, 259, 149, 253, 254, 5, 255, 264, 265, 266, 267, 268, 269, 270, 271, 272, 273, 150, 918, 919, 920, 921, 922, 923, 924, 925, 926, 927, 928, 929, 930, 931] (by decide +kernel) (by decide +kernel)
set_option maxRecDepth 20000 in
theorem gL_law_X11_setHops : GoodIn wsL_law (wsV RL 108 RX11 yX11_setHops wsX11_setHops) := goodIn_app (goodIn_of _ (by decide +kernel)) ggL_law_X11_setHops
set_option maxRecDepth 20000 in
theorem ggL_law_L_append : GoodIn wsL_law wsL_append := goodIn_ca (goodIn_ca (goodIn_r _ [366, 162, 163, 367, 368, 369, 2, 370, 178, 179, 18, 169, 170, 171, 172, 173, 371, 372, 373, 21, 374, 375, 54, 193, 194, 911, 912, 913, 914, 915, 916, 917, 936, 937] (by decide +kernel) (by decide +kernel)) (goodIn_sub (fun _ h => List.mem_append_left _ (List.mem_append_right _ h)) (by decide +kernel))) (goodIn_sub (fun _ h => List.mem_append_left _ (List.mem_append_left _ (List.mem_append_right _ h))) (by decide +kernel))
set_option maxRecDepth 20000 in
theorem gL_law_L_append : GoodIn wsL_law (va_wsS RL 109 yL_append wsL_append) := goodIn_app (goodIn_of _ (by decide +kernel)) ggL_law_L_append
set_option maxRecDepth 20000 in
theorem ggL_law_X11_append : GoodIn wsL_law wsX11_append := goodIn_r _ [379, 380, 381, 151, 253, 254, 5, 255, 264, 265, 266, 267, 268, 918, 919, 920, 921, 922, 923, 924, 925, 926, 927, 928, 929, 930, 931] (by decide +kernel) (by decide +kernel)
set_option maxRecDepth 20000 in
theorem gL_law_X11_append : GoodIn wsL_law (wsV RL 111 RX11 yX11_append wsX11_append) := goodIn_app (goodIn_of _ (by decide +kernel)) ggL_law_X11_append
set_option maxRecDepth 20000 in
theorem ggL_law_X10_clearText : GoodIn wsL_law wsX10_clearText := goodIn_r _ [385, 18, 911, 912, 913, 914, 915, 916, 917, 936, 937] (by decide +kernel) (by decide +kernel)
set_option maxRecDepth 20000 in
theorem gL_law_X10_clearText : GoodIn wsL_law (wsV RL 112 RX10 yX10_clearText wsX10_clearText) := goodIn_app (goodIn_of _ (by decide +kernel)) ggL_law_X10_clearText
set_option maxRecDepth 20000 in
theorem ggL_law_X11_clearText : GoodIn wsL_law wsX11_clearText := goodIn_r _ [389, 268, 381, 918, 919, 920, 921, 922, 923, 924, 925, 926, 927, 928, 929, 930, 931] (by decide +kernel) (by decide +kernel)
set_option maxRecDepth 20000 in
theorem gL_law_X11_clearText : GoodIn wsL_law (wsV RL 115 RX11 yX11_clearText wsX11_clearText) := goodIn_app (goodIn_of _ (by decide +kernel)) ggL_law_X11_clearText
set_option maxRecDepth 20000 in
theorem ggL_law_X10_parsePlan : GoodIn wsL_law wsX10_parsePlan := goodIn_r _ [393, 17, 30, 26, 394, 395, 396, 16, 397, 398, 399, 45, 41, 400, 401, 402, 44, 403, 218, 219, 220, 404, 405, 406, 407, 408, 409, 410, 21, 411, 375, 54, 193, 2, 194, 412, 413, 414, 415, 416, 417, 418, 419, 420, 421, 422, 423, 424, 425, 426, 427, 428, 429, 430, 431, 432, 433, 434, 435, 436, 437, 438, 439, 61, 440, 120, 121, 60, 122, 66, 67, 69, 180, 181, 182, 29, 183, 184, 138, 185, 186, 187, 52, 188, 189, 190, 191, 192, 195, 196, 197, 25, 198, 77, 79, 83, 87, 199, 88, 89, 90, 91, 200, 201, 202, 76, 203, 96, 204, 205, 206, 207, 208, 209, 210, 211, 212, 213, 214, 215, 216, 217, 221, 222, 223, 224, 82, 225, 103, 104, 105, 226, 227, 228, 229, 86, 230, 128, 129, 231, 232, 130, 233, 234, 441, 911, 912, 913, 914, 915, 916, 917, 938, 939, 940, 941, 942, 943, 944, 945, 946, 932, 933, 934, 935, 954, 955, 956, 957, 936, 937, 958, 959, 960, 947, 948, 949, 961, 962, 963, 964, 965, 966, 967, 968, 969] (by decide +kernel) (by decide +kernel)
set_option maxRecDepth 20000 in
theorem gL_law_X10_parsePlan : GoodIn wsL_law (wsV RL 116 RX10 yX10_parsePlan wsX10_parsePlan) := goodIn_app (goodIn_of _ (by decide +kernel)) ggL_law_X10_parsePlan
set_option maxRecDepth 20000 in
theorem ggL_law_X11_parsePlan : GoodIn wsL_law wsX11_parsePlan := goodIn_r _ [445, 268, 446, 447, 381, 149, 152, 448, 449, 450, 5, 451, 452, 453, 454, 455, 151, 456, 457, 458, 459, 460, 461, 462, 463, 464, 253, 254, 255, 465, 466, 467, 468, 469, 470, 471, 472, 269, 270, 271, 272, 273, 150, 918, 919, 920, 921, 922, 923, 924, 925, 926, 927, 928, 929, 930, 931] (by decide +kernel) (by decide +kernel)
set_option maxRecDepth 20000 in
theorem gL_law_X11_parsePlan : GoodIn wsL_law (wsV RL 119 RX11 yX11_parsePlan wsX11_parsePlan) := goodIn_app (goodIn_of _ (by decide +kernel)) ggL_law_X11_parsePlan
set_option maxRecDepth 20000 in
theorem ggL_law_X10_steps : GoodIn wsL_law wsX10_steps := goodIn_r _ [476, 26, 911, 912, 913, 914, 915, 916, 917, 938, 939, 940, 941, 942, 943, 944, 945, 946, 954, 955, 956, 957] (by decide +kernel) (by decide +kernel)
set_option maxRecDepth 20000 in
theorem gL_law_X10_steps : GoodIn wsL_law (wsV RL 120 RX10 yX10_steps wsX10_steps) := goodIn_app (goodIn_of _ (by decide +kernel)) ggL_law_X10_steps
set_option maxRecDepth 20000 in
theorem ggL_law_X11_steps : GoodIn wsL_law wsX11_steps := goodIn_r _ [480, 268, 149, 918, 919, 920, 921, 922, 923, 924, 925, 926, 927, 928, 929, 930, 931] (by decide +kernel) (by decide +kernel)
set_option maxRecDepth 20000 in
theorem gL_law_X11_steps : GoodIn wsL_law (wsV RL 123 RX11 yX11_steps wsX11_steps) := goodIn_app (goodIn_of _ (by decide +kernel)) ggL_law_X11_steps
set_option maxRecDepth 20000 in
theorem ggL_law_L_step : GoodIn wsL_law wsL_step := goodIn_ca (goodIn_ca (goodIn_r _ [483, 296, 162, 484, 485, 486, 2, 487, 26, 301, 302, 303, 304, 305, 306, 193, 194, 169, 170, 171, 172, 173, 488, 342, 343, 60, 344, 66, 67, 69, 911, 912, 913, 914, 915, 916, 917, 938, 939, 940, 941, 942, 943, 944, 945, 946, 954, 955, 956, 957, 958, 959, 960] (by decide +kernel) (by decide +kernel)) (goodIn_sub (fun _ h => List.mem_append_right _ h) (by decide +kernel))) (goodIn_sub (fun _ h => List.mem_append_left _ (List.mem_append_left _ (List.mem_append_right _ h))) (by decide +kernel))
set_option maxRecDepth 20000 in
theorem gL_law_L_step : GoodIn wsL_law (va_wsS RL 124 yL_step wsL_step) := goodIn_app (goodIn_of _ (by decide +kernel)) ggL_law_L_step
set_option maxRecDepth 20000 in
theorem ggL_law_X11_step : GoodIn wsL_law wsX11_step := goodIn_r _ [492, 149, 493, 253, 254, 5, 255, 264, 265, 266, 267, 268, 918, 919, 920, 921, 922, 923, 924, 925, 926, 927, 928, 929, 930, 931] (by decide +kernel) (by decide +kernel)
set_option maxRecDepth 20000 in
theorem gL_law_X11_step : GoodIn wsL_law (wsV RL 126 RX11 yX11_step wsX11_step) := goodIn_app (goodIn_of _ (by decide +kernel)) ggL_law_X11_step
set_option maxRecDepth 20000 in
theorem ggL_law_L_planByte : GoodIn wsL_law wsL_planByte := goodIn_ca (goodIn_r _ [496, 162, 497, 498, 499, 2, 500, 172, 173, 26, 22, 501, 502, 503, 44, 504, 218, 61, 505, 342, 343, 60, 344, 66, 67, 69, 506, 507, 508, 21, 509, 510, 372, 373, 374, 375, 54, 193, 194, 511, 512, 409, 410, 411, 911, 912, 913, 914, 915, 916, 917, 938, 939, 940, 941, 942, 943, 944, 945, 946, 936, 937, 954, 955, 956, 957, 958, 959, 960] (by decide +kernel) (by decide +kernel)) (goodIn_sub (fun _ h => List.mem_append_left _ (List.mem_append_left _ (List.mem_append_right _ h))) (by decide +kernel))
set_option maxRecDepth 20000 in
theorem gL_law_L_planByte : GoodIn wsL_law (va_wsS RL 127 yL_planByte wsL_planByte) := goodIn_app (goodIn_of _ (by decide +kernel)) ggL_law_L_planByte
set_option maxRecDepth 20000 in
theorem ggL_law_X11_planByte : GoodIn wsL_law wsX11_planByte := goodIn_r _ [516, 517, 518, 519, 149, 264, 265, 266, 5, 267, 268, 520, 521, 522, 523, 524, 525, 526, 527, 918, 919, 920, 921, 922, 923, 924, 925, 926, 927, 928, 929, 930, 931] (by decide +kernel) (by decide +kernel)
set_option maxRecDepth 20000 in
theorem gL_law_X11_planByte : GoodIn wsL_law (wsV RL 129 RX11 yX11_planByte wsX11_planByte) := goodIn_app (goodIn_of _ (by decide +kernel)) ggL_law_X11_planByte
set_option maxRecDepth 20000 in
theorem ggL_law_L_revisit : GoodIn wsL_law wsL_revisit := goodIn_ca (goodIn_r _ [530, 296, 531, 532, 533, 2, 534, 26, 301, 302, 303, 304, 305, 306, 193, 194, 535, 536, 537, 44, 538, 218, 61, 539, 51, 52, 53, 540, 541, 542, 543, 505, 342, 343, 60, 344, 66, 67, 69, 911, 912, 913, 914, 915, 916, 917, 938, 939, 940, 941, 942, 943, 944, 945, 946, 954, 955, 956, 957, 958, 959, 960] (by decide +kernel) (by decide +kernel)) (goodIn_sub (fun _ h => List.mem_append_right _ h) (by decide +kernel))
set_option maxRecDepth 20000 in
theorem gL_law_L_revisit : GoodIn wsL_law (va_wsS RL 130 yL_revisit wsL_revisit) := goodIn_app (goodIn_of _ (by decide +kernel)) ggL_law_L_revisit
set_option maxRecDepth 20000 in
theorem ggL_law_X11_revisit : GoodIn wsL_law wsX11_revisit := goodIn_r _ [547, 149, 249, 250, 5, 251, 252, 253, 254, 255, 264, 265, 266, 267, 268, 548, 549, 550, 551, 918, 919, 920, 921, 922, 923, 924, 925, 926, 927, 928, 929, 930, 931] (by decide +kernel) (by decide +kernel)
set_option maxRecDepth 20000 in
theorem gL_law_X11_revisit : GoodIn wsL_law (wsV RL 132 RX11 yX11_revisit wsX11_revisit) := goodIn_app (goodIn_of _ (by decide +kernel)) ggL_law_X11_revisit
set_option maxRecDepth 20000 in
theorem ggL_law_L_run : GoodIn wsL_law wsL_run := goodIn_ca (goodIn_r _ [554, 162, 555, 556, 557, 2, 558, 30, 26, 36, 169, 170, 171, 172, 173, 180, 181, 182, 29, 183, 184, 138, 185, 186, 187, 52, 188, 189, 190, 191, 192, 193, 194, 195, 196, 197, 25, 198, 77, 79, 83, 87, 199, 88, 89, 90, 91, 200, 201, 202, 76, 203, 96, 204, 205, 206, 207, 60, 208, 69, 209, 210, 211, 212, 213, 214, 215, 216, 44, 217, 61, 218, 219, 220, 221, 222, 223, 224, 82, 225, 103, 104, 105, 226, 227, 228, 229, 86, 230, 128, 129, 231, 232, 130, 233, 234, 559, 560, 561, 562, 563, 564, 565, 566, 567, 568, 569, 570, 571, 112, 113, 114, 572, 573, 574, 575, 576, 342, 343, 344, 66, 67, 577, 578, 579, 580, 581, 582, 583, 584, 585, 541, 542, 543, 505, 586, 587, 588, 589, 590, 591, 592, 593, 341, 119, 120, 121, 122, 594, 595, 596, 597, 598, 599, 600, 338, 339, 340, 601, 602, 603, 604, 605, 606, 607, 608, 609, 610, 611, 612, 613, 614, 615, 616, 617, 618, 619, 620, 621, 622, 911, 912, 913, 914, 915, 916, 917, 938, 939, 940, 941, 942, 943, 944, 945, 946, 947, 948, 949, 961, 962, 958, 959, 960, 954, 955, 956, 957, 963, 964, 965, 966, 967, 968, 969] (by decide +kernel) (by decide +kernel)) (goodIn_sub (fun _ h => List.mem_append_left _ (List.mem_append_left _ (List.mem_append_right _ h))) (by decide +kernel))
set_option maxRecDepth 20000 in
theorem gL_law_L_run : GoodIn wsL_law (va_wsS RL 133 yL_run wsL_run) := goodIn_app (goodIn_of _ (by decide +kernel)) ggL_law_L_run
set_option maxRecDepth 20000 in
theorem ggL_law_X11_run : GoodIn wsL_law wsX11_run := goodIn_r _ [626, 627, 149, 253, 254, 5, 255, 264, 265, 266, 267, 268, 269, 270, 271, 272, 273, 150, 628, 629, 630, 631, 632, 633, 634, 635, 636, 637, 638, 639, 640, 641, 642, 643, 644, 645, 646, 647, 648, 649, 650, 651, 652, 653, 654, 918, 919, 920, 921, 922, 923, 924, 925, 926, 927, 928, 929, 930, 931] (by decide +kernel) (by decide +kernel)
set_option maxRecDepth 20000 in
theorem gL_law_X11_run : GoodIn wsL_law (wsV RL 135 RX11 yX11_run wsX11_run) := goodIn_app (goodIn_of _ (by decide +kernel)) ggL_law_X11_run
set_option maxRecDepth 20000 in
theorem ggL_law_X10_presentStep : GoodIn wsL_law wsX10_presentStep := goodIn_r _ [658, 26, 659, 564, 565, 44, 566, 218, 219, 911, 912, 913, 914, 915, 916, 917, 938, 939, 940, 941, 942, 943, 944, 945, 946, 954, 955, 956, 957] (by decide +kernel) (by decide +kernel)
set_option maxRecDepth 20000 in
theorem gL_law_X10_presentStep : GoodIn wsL_law (wsV RL 136 RX10 yX10_presentStep wsX10_presentStep) := goodIn_app (goodIn_of _ (by decide +kernel)) ggL_law_X10_presentStep
set_option maxRecDepth 20000 in
theorem ggL_law_X11_presentStep : GoodIn wsL_law wsX11_presentStep := goodIn_r _ [663, 268, 664, 665, 666, 5, 667, 149, 918, 919, 920, 921, 922, 923, 924, 925, 926, 927, 928, 929, 930, 931] (by decide +kernel) (by decide +kernel)
set_option maxRecDepth 20000 in
theorem gL_law_X11_presentStep : GoodIn wsL_law (wsV RL 139 RX11 yX11_presentStep wsX11_presentStep) := goodIn_app (goodIn_of _ (by decide +kernel)) ggL_law_X11_presentStep
set_option maxRecDepth 20000 in
theorem ggL_law_L_level : GoodIn wsL_law wsL_level := goodIn_ca (goodIn_r _ [670, 296, 671, 672, 673, 2, 674, 26, 36, 301, 302, 303, 304, 305, 306, 193, 194, 675, 568, 569, 25, 570, 88, 77, 199, 571, 112, 113, 114, 572, 573, 574, 76, 575, 204, 96, 576, 342, 343, 60, 344, 66, 67, 69, 577, 578, 579, 580, 581, 582, 583, 584, 911, 912, 913, 914, 915, 916, 917, 938, 939, 940, 941, 942, 943, 944, 945, 946, 961, 962, 958, 959, 960] (by decide +kernel) (by decide +kernel)) (goodIn_sub (fun _ h => List.mem_append_right _ h) (by decide +kernel))
set_option maxRecDepth 20000 in
theorem gL_law_L_level : GoodIn wsL_law (va_wsS RL 140 yL_level wsL_level) := goodIn_app (goodIn_of _ (by decide +kernel)) ggL_law_L_level
set_option maxRecDepth 20000 in
theorem ggL_law_X11_level : GoodIn wsL_law wsX11_level := goodIn_r _ [679, 249, 250, 5, 251, 252, 253, 254, 255, 264, 265, 266, 267, 268, 636, 637, 638, 639, 149, 918, 919, 920, 921, 922, 923, 924, 925, 926, 927, 928, 929, 930, 931] (by decide +kernel) (by decide +kernel)
set_option maxRecDepth 20000 in
theorem gL_law_X11_level : GoodIn wsL_law (wsV RL 142 RX11 yX11_level wsX11_level) := goodIn_app (goodIn_of _ (by decide +kernel)) ggL_law_X11_level
set_option maxRecDepth 20000 in
theorem ggL_law_L_detector : GoodIn wsL_law wsL_detector := goodIn_ca (goodIn_ca (goodIn_r _ [682, 296, 162, 683, 684, 685, 2, 686, 26, 301, 302, 303, 304, 305, 306, 193, 194, 169, 170, 171, 172, 173, 488, 342, 343, 60, 344, 66, 67, 69, 911, 912, 913, 914, 915, 916, 917, 938, 939, 940, 941, 942, 943, 944, 945, 946, 963, 964, 965, 958, 959, 960] (by decide +kernel) (by decide +kernel)) (goodIn_sub (fun _ h => List.mem_append_right _ h) (by decide +kernel))) (goodIn_sub (fun _ h => List.mem_append_left _ (List.mem_append_left _ (List.mem_append_right _ h))) (by decide +kernel))
set_option maxRecDepth 20000 in
theorem gL_law_L_detector : GoodIn wsL_law (va_wsS RL 143 yL_detector wsL_detector) := goodIn_app (goodIn_of _ (by decide +kernel)) ggL_law_L_detector
set_option maxRecDepth 20000 in
theorem ggL_law_X11_detector : GoodIn wsL_law wsX11_detector := goodIn_r _ [690, 691, 149, 249, 250, 5, 251, 252, 253, 254, 255, 264, 265, 266, 267, 268, 918, 919, 920, 921, 922, 923, 924, 925, 926, 927, 928, 929, 930, 931] (by decide +kernel) (by decide +kernel)
set_option maxRecDepth 20000 in
theorem gL_law_X11_detector : GoodIn wsL_law (wsV RL 145 RX11 yX11_detector wsX11_detector) := goodIn_app (goodIn_of _ (by decide +kernel)) ggL_law_X11_detector
set_option maxRecDepth 20000 in
theorem ggL_law_L_average : GoodIn wsL_law wsL_average := goodIn_ca (goodIn_r _ [694, 296, 695, 696, 697, 2, 698, 26, 301, 302, 303, 304, 305, 306, 193, 194, 699, 700, 701, 82, 702, 103, 703, 187, 52, 188, 104, 341, 342, 343, 60, 344, 66, 67, 69, 911, 912, 913, 914, 915, 916, 917, 938, 939, 940, 941, 942, 943, 944, 945, 946, 963, 964, 965, 958, 959, 960] (by decide +kernel) (by decide +kernel)) (goodIn_sub (fun _ h => List.mem_append_right _ h) (by decide +kernel))
set_option maxRecDepth 20000 in
theorem gL_law_L_average : GoodIn wsL_law (va_wsS RL 146 yL_average wsL_average) := goodIn_app (goodIn_of _ (by decide +kernel)) ggL_law_L_average
set_option maxRecDepth 20000 in
theorem ggL_law_X11_average : GoodIn wsL_law wsX11_average := goodIn_r _ [707, 249, 250, 5, 251, 252, 253, 254, 255, 264, 265, 266, 267, 268, 708, 709, 710, 711, 149, 918, 919, 920, 921, 922, 923, 924, 925, 926, 927, 928, 929, 930, 931] (by decide +kernel) (by decide +kernel)
set_option maxRecDepth 20000 in
theorem gL_law_X11_average : GoodIn wsL_law (wsV RL 148 RX11 yX11_average wsX11_average) := goodIn_app (goodIn_of _ (by decide +kernel)) ggL_law_X11_average
set_option maxRecDepth 20000 in
theorem ggL_law_L_occupancy : GoodIn wsL_law wsL_occupancy := goodIn_ca (goodIn_r _ [714, 296, 715, 716, 717, 2, 718, 26, 301, 302, 303, 304, 305, 306, 193, 194, 488, 342, 343, 60, 344, 66, 67, 69, 911, 912, 913, 914, 915, 916, 917, 938, 939, 940, 941, 942, 943, 944, 945, 946, 963, 964, 965, 958, 959, 960] (by decide +kernel) (by decide +kernel)) (goodIn_sub (fun _ h => List.mem_append_right _ h) (by decide +kernel))
set_option maxRecDepth 20000 in
theorem gL_law_L_occupancy : GoodIn wsL_law (va_wsS RL 149 yL_occupancy wsL_occupancy) := goodIn_app (goodIn_of _ (by decide +kernel)) ggL_law_L_occupancy
set_option maxRecDepth 20000 in
theorem ggL_law_X11_occupancy : GoodIn wsL_law wsX11_occupancy := goodIn_r _ [722, 149, 249, 250, 5, 251, 252, 253, 254, 255, 264, 265, 266, 267, 268, 918, 919, 920, 921, 922, 923, 924, 925, 926, 927, 928, 929, 930, 931] (by decide +kernel) (by decide +kernel)
set_option maxRecDepth 20000 in
theorem gL_law_X11_occupancy : GoodIn wsL_law (wsV RL 152 RX11 yX11_occupancy wsX11_occupancy) := goodIn_app (goodIn_of _ (by decide +kernel)) ggL_law_X11_occupancy
set_option maxRecDepth 20000 in
theorem ggL_law_X10_reset : GoodIn wsL_law wsX10_reset := goodIn_r _ [726, 30, 26, 180, 181, 182, 29, 183, 184, 138, 185, 186, 187, 52, 188, 189, 190, 191, 192, 193, 2, 194, 195, 196, 197, 25, 198, 77, 79, 83, 87, 199, 88, 89, 90, 91, 200, 201, 202, 76, 203, 96, 204, 205, 206, 207, 60, 208, 69, 209, 210, 211, 212, 213, 214, 215, 216, 44, 217, 61, 218, 219, 220, 221, 222, 223, 224, 82, 225, 103, 104, 105, 226, 227, 228, 229, 86, 230, 128, 129, 231, 232, 130, 233, 234, 727, 116, 117, 118, 107, 108, 109, 110, 111, 112, 113, 114, 119, 120, 121, 122, 66, 67, 728, 729, 730, 731, 132, 911, 912, 913, 914, 915, 916, 917, 938, 939, 940, 941, 942, 943, 944, 945, 946, 966, 967, 968, 969, 947, 948, 949, 961, 962, 958, 959, 960, 954, 955, 956, 957, 963, 964, 965] (by decide +kernel) (by decide +kernel)
set_option maxRecDepth 20000 in
theorem gL_law_X10_reset : GoodIn wsL_law (wsV RL 153 RX10 yX10_reset wsX10_reset) := goodIn_app (goodIn_of _ (by decide +kernel)) ggL_law_X10_reset
set_option maxRecDepth 20000 in
theorem ggL_law_X11_reset : GoodIn wsL_law wsX11_reset := goodIn_r _ [735, 268, 149, 269, 270, 271, 5, 272, 273, 150, 154, 155, 156, 157, 918, 919, 920, 921, 922, 923, 924, 925, 926, 927, 928, 929, 930, 931] (by decide +kernel) (by decide +kernel)
set_option maxRecDepth 20000 in
theorem gL_law_X11_reset : GoodIn wsL_law (wsV RL 156 RX11 yX11_reset wsX11_reset) := goodIn_app (goodIn_of _ (by decide +kernel)) ggL_law_X11_reset
set_option maxRecDepth 20000 in
theorem ggL_law_X10_events : GoodIn wsL_law wsX10_events := goodIn_r _ [739, 26, 911, 912, 913, 914, 915, 916, 917, 938, 939, 940, 941, 942, 943, 944, 945, 946, 966, 967, 968, 969] (by decide +kernel) (by decide +kernel)
set_option maxRecDepth 20000 in
theorem gL_law_X10_events : GoodIn wsL_law (wsV RL 157 RX10 yX10_events wsX10_events) := goodIn_app (goodIn_of _ (by decide +kernel)) ggL_law_X10_events
set_option maxRecDepth 20000 in
theorem ggL_law_X11_events : GoodIn wsL_law wsX11_events := goodIn_r _ [743, 268, 149, 918, 919, 920, 921, 922, 923, 924, 925, 926, 927, 928, 929, 930, 931] (by decide +kernel) (by decide +kernel)
set_option maxRecDepth 20000 in
theorem gL_law_X11_events : GoodIn wsL_law (wsV RL 160 RX11 yX11_events wsX11_events) := goodIn_app (goodIn_of _ (by decide +kernel)) ggL_law_X11_events
set_option maxRecDepth 20000 in
theorem ggL_law_L_event : GoodIn wsL_law wsL_event := goodIn_ca (goodIn_ca (goodIn_r _ [746, 296, 162, 747, 748, 749, 2, 750, 26, 301, 302, 303, 304, 305, 306, 193, 194, 169, 170, 171, 172, 173, 751, 752, 753, 754, 34, 755, 756, 757, 33, 758, 759, 187, 52, 188, 760, 143, 142, 144, 761, 112, 113, 114, 762, 763, 764, 765, 766, 767, 768, 86, 769, 129, 128, 605, 342, 343, 60, 344, 66, 67, 69, 770, 771, 772, 773, 774, 775, 776, 777, 778, 779, 780, 781, 782, 783, 784, 785, 786, 787, 788, 911, 912, 913, 914, 915, 916, 917, 938, 939, 940, 941, 942, 943, 944, 945, 946, 966, 967, 968, 969, 950, 951, 952, 953, 958, 959, 960] (by decide +kernel) (by decide +kernel)) (goodIn_sub (fun _ h => List.mem_append_right _ h) (by decide +kernel))) (goodIn_sub (fun _ h => List.mem_append_left _ (List.mem_append_left _ (List.mem_append_right _ h))) (by decide +kernel))
set_option maxRecDepth 20000 in
theorem gL_law_L_event : GoodIn wsL_law (va_wsS RL 161 yL_event wsL_event) := goodIn_app (goodIn_of _ (by decide +kernel)) ggL_law_L_event
set_option maxRecDepth 20000 in
theorem ggL_law_X11_event : GoodIn wsL_law wsX11_event := goodIn_r _ [792, 793, 794, 795, 796, 5, 797, 149, 253, 254, 255, 264, 265, 266, 267, 268, 798, 799, 800, 801, 153, 648, 649, 650, 802, 803, 804, 805, 806, 807, 808, 809, 810, 811, 812, 918, 919, 920, 921, 922, 923, 924, 925, 926, 927, 928, 929, 930, 931] (by decide +kernel) (by decide +kernel)
set_option maxRecDepth 20000 in
theorem gL_law_X11_event : GoodIn wsL_law (wsV RL 163 RX11 yX11_event wsX11_event) := goodIn_app (goodIn_of _ (by decide +kernel)) ggL_law_X11_event
set_option maxRecDepth 20000 in
theorem ggL_law_L_chainLength : GoodIn wsL_law wsL_chainLength := goodIn_ca (goodIn_r _ [815, 296, 816, 817, 818, 2, 819, 26, 34, 301, 302, 303, 304, 305, 306, 193, 194, 751, 752, 753, 754, 755, 756, 757, 33, 758, 759, 187, 52, 188, 760, 143, 142, 144, 761, 112, 113, 114, 762, 763, 764, 765, 766, 767, 768, 86, 769, 129, 128, 605, 342, 343, 60, 344, 66, 67, 69, 770, 771, 772, 773, 774, 775, 784, 785, 786, 787, 820, 821, 822, 823, 911, 912, 913, 914, 915, 916, 917, 938, 939, 940, 941, 942, 943, 944, 945, 946, 966, 967, 968, 969, 950, 951, 952, 953, 958, 959, 960] (by decide +kernel) (by decide +kernel)) (goodIn_sub (fun _ h => List.mem_append_right _ h) (by decide +kernel))
set_option maxRecDepth 20000 in
theorem gL_law_L_chainLength : GoodIn wsL_law (va_wsS RL 164 yL_chainLength wsL_chainLength) := goodIn_app (goodIn_of _ (by decide +kernel)) ggL_law_L_chainLength
set_option maxRecDepth 20000 in
theorem ggL_law_X11_chainLength : GoodIn wsL_law wsX11_chainLength := goodIn_r _ [827, 794, 795, 796, 5, 797, 149, 253, 254, 255, 264, 265, 266, 267, 268, 798, 799, 800, 801, 153, 648, 649, 650, 802, 803, 804, 828, 829, 830, 831, 832, 809, 810, 811, 812, 918, 919, 920, 921, 922, 923, 924, 925, 926, 927, 928, 929, 930, 931] (by decide +kernel) (by decide +kernel)
set_option maxRecDepth 20000 in
theorem gL_law_X11_chainLength : GoodIn wsL_law (wsV RL 166 RX11 yX11_chainLength wsX11_chainLength) := goodIn_app (goodIn_of _ (by decide +kernel)) ggL_law_X11_chainLength
set_option maxRecDepth 20000 in
theorem ggL_law_X10_chains : GoodIn wsL_law wsX10_chains := goodIn_r _ [836, 34, 751, 752, 753, 2, 754, 26, 755, 756, 757, 33, 758, 759, 187, 52, 188, 760, 143, 142, 144, 761, 112, 113, 114, 762, 763, 764, 765, 766, 767, 768, 86, 769, 129, 128, 193, 194, 605, 342, 343, 60, 344, 66, 67, 69, 770, 771, 772, 773, 774, 775, 837, 838, 839, 840, 911, 912, 913, 914, 915, 916, 917, 938, 939, 940, 941, 942, 943, 944, 945, 946, 966, 967, 968, 969, 950, 951, 952, 953, 958, 959, 960] (by decide +kernel) (by decide +kernel)
set_option maxRecDepth 20000 in
theorem gL_law_X10_chains : GoodIn wsL_law (wsV RL 167 RX10 yX10_chains wsX10_chains) := goodIn_app (goodIn_of _ (by decide +kernel)) ggL_law_X10_chains
set_option maxRecDepth 20000 in
theorem ggL_law_X11_chains : GoodIn wsL_law wsX11_chains := goodIn_r _ [844, 268, 149, 153, 798, 799, 800, 5, 801, 648, 649, 650, 253, 254, 255, 802, 803, 804, 918, 919, 920, 921, 922, 923, 924, 925, 926, 927, 928, 929, 930, 931] (by decide +kernel) (by decide +kernel)
set_option maxRecDepth 20000 in
theorem gL_law_X11_chains : GoodIn wsL_law (wsV RL 170 RX11 yX11_chains wsX11_chains) := goodIn_app (goodIn_of _ (by decide +kernel)) ggL_law_X11_chains
set_option maxRecDepth 20000 in
theorem ggL_law_L_hopInterval : GoodIn wsL_law wsL_hopInterval := goodIn_ca (goodIn_r _ [847, 296, 848, 849, 850, 2, 851, 26, 34, 301, 302, 303, 304, 305, 306, 193, 194, 751, 752, 753, 754, 755, 756, 757, 33, 758, 759, 187, 52, 188, 760, 143, 142, 144, 761, 112, 113, 114, 762, 763, 764, 765, 766, 767, 768, 86, 769, 129, 128, 605, 342, 343, 60, 344, 66, 67, 69, 770, 771, 772, 773, 774, 775, 784, 785, 786, 787, 820, 821, 822, 823, 852, 853, 854, 855, 788, 911, 912, 913, 914, 915, 916, 917, 938, 939, 940, 941, 942, 943, 944, 945, 946, 966, 967, 968, 969, 950, 951, 952, 953, 958, 959, 960] (by decide +kernel) (by decide +kernel)) (goodIn_sub (fun _ h => List.mem_append_right _ h) (by decide +kernel))
set_option maxRecDepth 20000 in
theorem gL_law_L_hopInterval : GoodIn wsL_law (va_wsS RL 171 yL_hopInterval wsL_hopInterval) := goodIn_app (goodIn_of _ (by decide +kernel)) ggL_law_L_hopInterval
set_option maxRecDepth 20000 in
theorem ggL_law_X11_hopInterval : GoodIn wsL_law wsX11_hopInterval := goodIn_r _ [859, 149, 832, 794, 795, 796, 5, 797, 253, 254, 255, 264, 265, 266, 267, 268, 798, 799, 800, 801, 153, 648, 649, 650, 802, 803, 804, 828, 829, 830, 831, 809, 810, 811, 812, 918, 919, 920, 921, 922, 923, 924, 925, 926, 927, 928, 929, 930, 931] (by decide +kernel) (by decide +kernel)
set_option maxRecDepth 20000 in
theorem gL_law_X11_hopInterval : GoodIn wsL_law (wsV RL 173 RX11 yX11_hopInterval wsX11_hopInterval) := goodIn_app (goodIn_of _ (by decide +kernel)) ggL_law_X11_hopInterval
set_option maxRecDepth 20000 in
theorem ggL_law_L_undo : GoodIn wsL_law wsL_undo := goodIn_ca (goodIn_r _ [862, 163, 863, 864, 865, 2, 866, 178, 179, 30, 26, 867, 868, 869, 29, 870, 184, 138, 185, 189, 190, 191, 192, 193, 194, 195, 196, 197, 25, 198, 77, 79, 83, 87, 199, 88, 89, 90, 91, 200, 201, 202, 76, 203, 96, 204, 205, 206, 207, 60, 208, 69, 209, 187, 52, 188, 210, 211, 212, 213, 214, 215, 216, 44, 217, 61, 218, 219, 220, 221, 222, 223, 224, 82, 225, 103, 104, 105, 226, 227, 228, 229, 86, 230, 128, 129, 231, 232, 130, 233, 234, 911, 912, 913, 914, 915, 916, 917, 947, 948, 949, 938, 939, 940, 941, 942, 943, 944, 945, 946, 961, 962, 958, 959, 960, 954, 955, 956, 957, 963, 964, 965, 966, 967, 968, 969] (by decide +kernel) (by decide +kernel)) (goodIn_sub (fun _ h => List.mem_append_left _ (List.mem_append_right _ h)) (by decide +kernel))
set_option maxRecDepth 20000 in
theorem gL_law_L_undo : GoodIn wsL_law (va_wsS RL 174 yL_undo wsL_undo) := goodIn_app (goodIn_of _ (by decide +kernel)) ggL_law_L_undo
set_option maxRecDepth 20000 in
theorem ggL_law_X11_undo : GoodIn wsL_law wsX11_undo := goodIn_r _ [874, 273, 149, 150, 264, 265, 266, 5, 267, 268, 918, 919, 920, 921, 922, 923, 924, 925, 926, 927, 928, 929, 930, 931] (by decide +kernel) (by decide +kernel)
set_option maxRecDepth 20000 in
theorem gL_law_X11_undo : GoodIn wsL_law (wsV RL 177 RX11 yX11_undo wsX11_undo) := goodIn_app (goodIn_of _ (by decide +kernel)) ggL_law_X11_undo
set_option maxRecDepth 20000 in
theorem ggL_law_X10_digest : GoodIn wsL_law wsX10_digest := goodIn_r _ [878, 879, 18, 26, 30, 880, 881, 2, 882, 883, 884, 885, 886, 60, 887, 888, 889, 890, 891, 67, 598, 342, 343, 344, 66, 69, 659, 564, 565, 44, 566, 218, 219, 892, 893, 894, 82, 895, 103, 600, 338, 339, 340, 105, 341, 896, 897, 700, 701, 702, 703, 187, 52, 188, 104, 751, 752, 753, 754, 34, 755, 756, 757, 33, 758, 759, 760, 143, 142, 144, 761, 112, 113, 114, 762, 763, 764, 765, 766, 767, 768, 86, 769, 129, 128, 193, 194, 605, 770, 771, 772, 773, 774, 775, 898, 899, 900, 901, 776, 777, 778, 779, 780, 781, 782, 783, 784, 785, 786, 787, 788, 911, 912, 913, 914, 915, 916, 917, 936, 937, 938, 939, 940, 941, 942, 943, 944, 945, 946, 961, 962, 954, 955, 956, 957, 947, 948, 949, 958, 959, 960, 963, 964, 965, 966, 967, 968, 969, 950, 951, 952, 953] (by decide +kernel) (by decide +kernel)
set_option maxRecDepth 20000 in
theorem gL_law_X10_digest : GoodIn wsL_law (wsV RL 178 RX10 yX10_digest wsX10_digest) := goodIn_app (goodIn_of _ (by decide +kernel)) ggL_law_X10_digest
set_option maxRecDepth 20000 in
theorem ggL_law_X11_digest : GoodIn wsL_law wsX11_digest := goodIn_r _ [905, 268, 906, 381, 149, 252, 273, 907, 908, 909, 5, 910, 664, 665, 666, 667, 708, 709, 710, 711, 798, 799, 800, 801, 153, 648, 649, 650, 253, 254, 255, 802, 803, 804, 805, 806, 807, 808, 809, 810, 811, 812, 918, 919, 920, 921, 922, 923, 924, 925, 926, 927, 928, 929, 930, 931] (by decide +kernel) (by decide +kernel)
set_option maxRecDepth 20000 in
theorem gL_law_X11_digest : GoodIn wsL_law (wsV RL 182 RX11 yX11_digest wsX11_digest) := goodIn_app (goodIn_of _ (by decide +kernel)) ggL_law_X11_digest
theorem dL_law_0 : decode cL_law 0 = .ok (.new 8, 3) := by decide +kernel
theorem dL_law_3 : decode cL_law 3 = .ok (.dup, 1) := by decide +kernel
theorem dL_law_4 : decode cL_law 4 = .ok (.invokespecial 78, 3) := by decide +kernel
theorem dL_law_7 : decode cL_law 7 = .ok (.astore_n 1, 1) := by decide +kernel
theorem dL_law_8 : decode cL_law 8 = .ok (.new 79, 3) := by decide +kernel
theorem dL_law_11 : decode cL_law 11 = .ok (.dup, 1) := by decide +kernel
theorem dL_law_12 : decode cL_law 12 = .ok (.invokespecial 81, 3) := by decide +kernel
theorem dL_law_15 : decode cL_law 15 = .ok (.astore_n 2, 1) := by decide +kernel
theorem dL_law_16 : decode cL_law 16 = .ok (.iconst 1, 1) := by decide +kernel
theorem dL_law_17 : decode cL_law 17 = .ok (.newarray .long, 2) := by decide +kernel
theorem dL_law_19 : decode cL_law 19 = .ok (.astore_n 3, 1) := by decide +kernel
theorem dL_law_20 : decode cL_law 20 = .ok (.iconst 1, 1) := by decide +kernel
theorem dL_law_21 : decode cL_law 21 = .ok (.newarray .double, 2) := by decide +kernel
theorem dL_law_23 : decode cL_law 23 = .ok (.astore 4, 2) := by decide +kernel
theorem dL_law_25 : decode cL_law 25 = .ok (.iconst 0, 1) := by decide +kernel
theorem dL_law_26 : decode cL_law 26 = .ok (.istore 5, 2) := by decide +kernel
theorem dL_law_28 : decode cL_law 28 = .ok (.iload 5, 2) := by decide +kernel
theorem dL_law_30 : decode cL_law 30 = .ok (.aload_n 0, 1) := by decide +kernel
theorem dL_law_31 : decode cL_law 31 = .ok (.arraylength, 1) := by decide +kernel
theorem dL_law_32 : decode cL_law 32 = .ok (.bipush 6, 2) := by decide +kernel
theorem dL_law_34 : decode cL_law 34 = .ok (.isub, 1) := by decide +kernel
theorem dL_law_35 : decode cL_law 35 = .ok (.if_icmp .gt 1518, 3) := by decide +kernel
theorem dL_law_38 : decode cL_law 38 = .ok (.aload_n 0, 1) := by decide +kernel
theorem dL_law_39 : decode cL_law 39 = .ok (.iload 5, 2) := by decide +kernel
theorem dL_law_41 : decode cL_law 41 = .ok (.iaload, 1) := by decide +kernel
theorem dL_law_42 : decode cL_law 42 = .ok (.bipush 31, 2) := by decide +kernel
theorem dL_law_44 : decode cL_law 44 = .ok (.iand, 1) := by decide +kernel
theorem dL_law_45 : decode cL_law 45 = .ok (.tableswitch 1502 0 26 #[123, 227, 331, 387, 455, 535, 603, 659, 672, 685, 698, 766, 822, 878, 934, 947, 1003, 1071, 1127, 1204, 1217, 1230, 1298, 1354, 1367, 1444, 1488], 123) := by decide +kernel
theorem dL_law_168 : decode cL_law 168 = .ok (.aload_n 1, 1) := by decide +kernel
theorem dL_law_169 : decode cL_law 169 = .ok (.aload_n 0, 1) := by decide +kernel
theorem dL_law_170 : decode cL_law 170 = .ok (.iload 5, 2) := by decide +kernel
theorem dL_law_172 : decode cL_law 172 = .ok (.iconst 1, 1) := by decide +kernel
theorem dL_law_173 : decode cL_law 173 = .ok (.iadd, 1) := by decide +kernel
theorem dL_law_174 : decode cL_law 174 = .ok (.iaload, 1) := by decide +kernel
theorem dL_law_175 : decode cL_law 175 = .ok (.aload_n 0, 1) := by decide +kernel
theorem dL_law_176 : decode cL_law 176 = .ok (.iload 5, 2) := by decide +kernel
theorem dL_law_178 : decode cL_law 178 = .ok (.iconst 2, 1) := by decide +kernel
theorem dL_law_179 : decode cL_law 179 = .ok (.iadd, 1) := by decide +kernel
theorem dL_law_180 : decode cL_law 180 = .ok (.iaload, 1) := by decide +kernel
theorem dL_law_181 : decode cL_law 181 = .ok (.aload_n 0, 1) := by decide +kernel
theorem dL_law_182 : decode cL_law 182 = .ok (.iload 5, 2) := by decide +kernel
theorem dL_law_184 : decode cL_law 184 = .ok (.iconst 3, 1) := by decide +kernel
theorem dL_law_185 : decode cL_law 185 = .ok (.iadd, 1) := by decide +kernel
theorem dL_law_186 : decode cL_law 186 = .ok (.iaload, 1) := by decide +kernel
theorem dL_law_187 : decode cL_law 187 = .ok (.aload_n 0, 1) := by decide +kernel
theorem dL_law_188 : decode cL_law 188 = .ok (.iload 5, 2) := by decide +kernel
theorem dL_law_190 : decode cL_law 190 = .ok (.iconst 4, 1) := by decide +kernel
theorem dL_law_191 : decode cL_law 191 = .ok (.iadd, 1) := by decide +kernel
theorem dL_law_192 : decode cL_law 192 = .ok (.iaload, 1) := by decide +kernel
theorem dL_law_193 : decode cL_law 193 = .ok (.aload_n 0, 1) := by decide +kernel
theorem dL_law_194 : decode cL_law 194 = .ok (.iload 5, 2) := by decide +kernel
theorem dL_law_196 : decode cL_law 196 = .ok (.iconst 5, 1) := by decide +kernel
theorem dL_law_197 : decode cL_law 197 = .ok (.iadd, 1) := by decide +kernel
theorem dL_law_198 : decode cL_law 198 = .ok (.iaload, 1) := by decide +kernel
theorem dL_law_199 : decode cL_law 199 = .ok (.aload_n 3, 1) := by decide +kernel
theorem dL_law_200 : decode cL_law 200 = .ok (.invokestatic 82, 3) := by decide +kernel
theorem dL_law_203 : decode cL_law 203 = .ok (.istore 6, 2) := by decide +kernel
theorem dL_law_205 : decode cL_law 205 = .ok (.aload_n 2, 1) := by decide +kernel
theorem dL_law_206 : decode cL_law 206 = .ok (.aload_n 0, 1) := by decide +kernel
theorem dL_law_207 : decode cL_law 207 = .ok (.iload 5, 2) := by decide +kernel
theorem dL_law_209 : decode cL_law 209 = .ok (.iconst 1, 1) := by decide +kernel
theorem dL_law_210 : decode cL_law 210 = .ok (.iadd, 1) := by decide +kernel
theorem dL_law_211 : decode cL_law 211 = .ok (.iaload, 1) := by decide +kernel
theorem dL_law_212 : decode cL_law 212 = .ok (.aload_n 0, 1) := by decide +kernel
theorem dL_law_213 : decode cL_law 213 = .ok (.iload 5, 2) := by decide +kernel
theorem dL_law_215 : decode cL_law 215 = .ok (.iconst 2, 1) := by decide +kernel
theorem dL_law_216 : decode cL_law 216 = .ok (.iadd, 1) := by decide +kernel
theorem dL_law_217 : decode cL_law 217 = .ok (.iaload, 1) := by decide +kernel
theorem dL_law_218 : decode cL_law 218 = .ok (.aload_n 0, 1) := by decide +kernel
theorem dL_law_219 : decode cL_law 219 = .ok (.iload 5, 2) := by decide +kernel
theorem dL_law_221 : decode cL_law 221 = .ok (.iconst 3, 1) := by decide +kernel
theorem dL_law_222 : decode cL_law 222 = .ok (.iadd, 1) := by decide +kernel
