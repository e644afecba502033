set_option maxRecDepth 20000 in
theorem ggL_law_X10_init : GoodIn wsL_law wsX10_init := goodIn_r _ [10, 11, 12, 13, 14, 15, 16, 17, 18, 19, 20, 21, 22, 23, 24, 25, 26, 27, 28, 29, 30, 31, 32, 33, 34, 35, 36, 37, 38, 39, 40, 41, 42, 43, 44, 45, 46, 47, 48, 49, 50, 51, 52, 53, 54, 55, 56, 57, 58, 59, 60, 61, 62, 63, 64, 65, 66, 67, 68, 69, 70, 71, 72, 73, 74, 75, 76, 77, 78, 79, 80, 81, 82, 83, 84, 85, 86, 87, 88, 89, 90, 91, 92, 93, 94, 95, 96, 97, 98, 99, 100, 101, 102, 103, 104, 105, 106, 107, 108, 109, 110, 111, 112, 113, 114, 115, 116, 117, 118, 119, 120, 121, 122, 123, 124, 125, 126, 127, 128, 129, 130, 131, 132, 133, 134, 135, 136, 137, 138, 139, 140, 141, 142, 143, 931, 932, 910, 911, 912, 913, 914, 915, 916, 933, 934, 935, 936, 937, 938, 939, 940, 941, 942, 943, 944, 945, 946, 947, 948, 949, 950, 951, 952, 953, 954, 955, 956, 957, 958, 959, 960, 961, 962, 963, 964, 965, 966, 967, 968] (by decide +kernel) (by decide +kernel)
set_option maxRecDepth 20000 in
theorem gL_law_X10_init : GoodIn wsL_law (wsX10_init) := ggL_law_X10_init
set_option maxRecDepth 20000 in
theorem ggL_law_X11_init : GoodIn wsL_law wsX11_init := goodIn_r _ [146, 147, 12, 13, 35, 148, 149, 150, 151, 152, 153, 154, 155, 5, 156, 917, 918, 919, 920, 921, 922, 923, 924, 925, 926, 927, 928, 929, 930] (by decide +kernel) (by decide +kernel)
set_option maxRecDepth 20000 in
theorem gL_law_X11_init : GoodIn wsL_law (wsX11_init) := ggL_law_X11_init
set_option maxRecDepth 20000 in
theorem ggL_law_L_addPulsed : GoodIn wsL_law wsL_addPulsed := goodIn_ca (goodIn_ca (goodIn_r _ [160, 161, 162, 163, 164, 165, 2, 166, 167, 30, 26, 168, 169, 170, 171, 172, 173, 174, 175, 176, 177, 178, 179, 180, 181, 29, 182, 183, 137, 184, 185, 186, 43, 187, 188, 189, 190, 191, 192, 193, 194, 195, 196, 25, 197, 76, 78, 82, 86, 198, 87, 88, 89, 90, 199, 200, 201, 75, 202, 95, 203, 204, 205, 206, 60, 207, 69, 208, 209, 210, 211, 212, 213, 214, 215, 52, 216, 61, 217, 218, 219, 220, 221, 222, 223, 81, 224, 102, 103, 104, 225, 226, 227, 228, 85, 229, 127, 128, 230, 231, 129, 232, 233, 234, 235, 236, 237, 238, 119, 120, 121, 66, 67, 239, 240, 241, 242, 910, 911, 912, 913, 914, 915, 916, 937, 938, 939, 940, 941, 942, 943, 944, 945, 960, 961, 946, 947, 948, 957, 958, 959, 953, 954, 955, 956, 962, 963, 964, 965, 966, 967, 968] (by decide +kernel) (by decide +kernel)) (goodIn_sub (fun _ h => List.mem_append_left _ (List.mem_append_left _ (List.mem_append_right _ h))) (by decide +kernel))) (goodIn_sub (fun _ h => List.mem_append_left _ (List.mem_append_right _ h)) (by decide +kernel))
set_option maxRecDepth 20000 in
theorem gL_law_L_addPulsed : GoodIn wsL_law (va_wsS RL 82 yL_addPulsed wsL_addPulsed) := goodIn_app (goodIn_of _ (by decide +kernel)) ggL_law_L_addPulsed
set_option maxRecDepth 20000 in
theorem ggL_law_X11_addPulsed : GoodIn wsL_law wsX11_addPulsed := goodIn_r _ [246, 247, 148, 248, 249, 5, 250, 251, 252, 253, 254, 255, 256, 257, 258, 259, 260, 261, 262, 263, 264, 265, 266, 267, 268, 269, 270, 271, 272, 149, 273, 274, 275, 276, 917, 918, 919, 920, 921, 922, 923, 924, 925, 926, 927, 928, 929, 930] (by decide +kernel) (by decide +kernel)
set_option maxRecDepth 20000 in
theorem gL_law_X11_addPulsed : GoodIn wsL_law (wsV RL 87 RX11 yX11_addPulsed wsX11_addPulsed) := goodIn_app (goodIn_of _ (by decide +kernel)) ggL_law_X11_addPulsed
set_option maxRecDepth 20000 in
theorem ggL_law_X11_thrown : GoodIn wsL_law wsX11_thrown := goodIn_r _ [280, 267, 917, 918, 919, 920, 921, 922, 923, 924, 925, 926, 927, 928, 929, 930] (by decide +kernel) (by decide +kernel)
set_option maxRecDepth 20000 in
theorem gL_law_X11_thrown : GoodIn wsL_law (wsV RL 88 RX11 yX11_thrown wsX11_thrown) := goodIn_app (goodIn_of _ (by decide +kernel)) ggL_law_X11_thrown
set_option maxRecDepth 20000 in
theorem ggL_law_L_addHopping : GoodIn wsL_law wsL_addHopping := goodIn_ca (goodIn_ca (goodIn_r _ [283, 161, 162, 284, 285, 286, 2, 287, 167, 30, 26, 168, 169, 170, 171, 172, 173, 174, 175, 176, 177, 178, 179, 180, 181, 29, 182, 183, 137, 184, 185, 186, 43, 187, 188, 189, 190, 191, 192, 193, 194, 195, 196, 25, 197, 76, 78, 82, 86, 198, 87, 88, 89, 90, 199, 200, 201, 75, 202, 95, 203, 204, 205, 206, 60, 207, 69, 208, 209, 210, 211, 212, 213, 214, 215, 52, 216, 61, 217, 218, 219, 220, 221, 222, 223, 81, 224, 102, 103, 104, 225, 226, 227, 228, 85, 229, 127, 128, 230, 231, 129, 232, 233, 234, 235, 236, 237, 238, 119, 120, 121, 66, 67, 239, 240, 241, 242, 910, 911, 912, 913, 914, 915, 916, 937, 938, 939, 940, 941, 942, 943, 944, 945, 960, 961, 946, 947, 948, 957, 958, 959, 953, 954, 955, 956, 962, 963, 964, 965, 966, 967, 968] (by decide +kernel) (by decide +kernel)) (goodIn_sub (fun _ h => List.mem_append_left _ (List.mem_append_left _ (List.mem_append_right _ h))) (by decide +kernel))) (goodIn_sub (fun _ h => List.mem_append_left _ (List.mem_append_right _ h)) (by decide +kernel))
set_option maxRecDepth 20000 in
theorem gL_law_L_addHopping : GoodIn wsL_law (va_wsS RL 91 yL_addHopping wsL_addHopping) := goodIn_app (goodIn_of _ (by decide +kernel)) ggL_law_L_addHopping
set_option maxRecDepth 20000 in
theorem ggL_law_X11_addHopping : GoodIn wsL_law wsX11_addHopping := goodIn_r _ [291, 251, 247, 148, 248, 249, 5, 250, 252, 253, 254, 255, 256, 257, 258, 259, 260, 261, 262, 263, 264, 265, 266, 267, 268, 269, 270, 271, 272, 149, 273, 274, 275, 276, 917, 918, 919, 920, 921, 922, 923, 924, 925, 926, 927, 928, 929, 930] (by decide +kernel) (by decide +kernel)
set_option maxRecDepth 20000 in
theorem gL_law_X11_addHopping : GoodIn wsL_law (wsV RL 93 RX11 yX11_addHopping wsX11_addHopping) := goodIn_app (goodIn_of _ (by decide +kernel)) ggL_law_X11_addHopping
set_option maxRecDepth 20000 in
theorem ggL_law_L_removeSignal : GoodIn wsL_law wsL_removeSignal := goodIn_ca (goodIn_r _ [294, 295, 296, 297, 298, 2, 299, 26, 30, 300, 301, 302, 303, 304, 305, 192, 193, 179, 180, 181, 29, 182, 183, 137, 184, 185, 186, 43, 187, 188, 189, 190, 191, 194, 195, 196, 25, 197, 76, 78, 82, 86, 198, 87, 88, 89, 90, 199, 200, 201, 75, 202, 95, 203, 204, 205, 206, 60, 207, 69, 208, 209, 210, 211, 212, 213, 214, 215, 52, 216, 61, 217, 218, 219, 220, 221, 222, 223, 81, 224, 102, 103, 104, 225, 226, 227, 228, 85, 229, 127, 128, 230, 231, 129, 232, 233, 306, 307, 308, 309, 310, 311, 312, 313, 66, 67, 910, 911, 912, 913, 914, 915, 916, 937, 938, 939, 940, 941, 942, 943, 944, 945, 960, 961, 946, 947, 948, 957, 958, 959, 953, 954, 955, 956, 962, 963, 964, 965, 966, 967, 968] (by decide +kernel) (by decide +kernel)) (goodIn_sub (fun _ h => List.mem_append_right _ h) (by decide +kernel))
set_option maxRecDepth 20000 in
theorem gL_law_L_removeSignal : GoodIn wsL_law (va_wsS RL 94 yL_removeSignal wsL_removeSignal) := goodIn_app (goodIn_of _ (by decide +kernel)) ggL_law_L_removeSignal
set_option maxRecDepth 20000 in
theorem ggL_law_X11_removeSignal : GoodIn wsL_law wsX11_removeSignal := goodIn_r _ [317, 148, 252, 253, 5, 254, 263, 264, 265, 266, 267, 268, 269, 270, 271, 272, 149, 917, 918, 919, 920, 921, 922, 923, 924, 925, 926, 927, 928, 929, 930] (by decide +kernel) (by decide +kernel)
set_option maxRecDepth 20000 in
theorem gL_law_X11_removeSignal : GoodIn wsL_law (wsV RL 97 RX11 yX11_removeSignal wsX11_removeSignal) := goodIn_app (goodIn_of _ (by decide +kernel)) ggL_law_X11_removeSignal
set_option maxRecDepth 20000 in
theorem ggL_law_L_setLevels : GoodIn wsL_law wsL_setLevels := goodIn_ca (goodIn_r _ [320, 161, 321, 322, 323, 2, 324, 30, 26, 168, 169, 170, 171, 172, 179, 180, 181, 29, 182, 183, 137, 184, 185, 186, 43, 187, 188, 189, 190, 191, 192, 193, 194, 195, 196, 25, 197, 76, 78, 82, 86, 198, 87, 88, 89, 90, 199, 200, 201, 75, 202, 95, 203, 204, 205, 206, 60, 207, 69, 208, 209, 210, 211, 212, 213, 214, 215, 52, 216, 61, 217, 218, 219, 220, 221, 222, 223, 81, 224, 102, 103, 104, 225, 226, 227, 228, 85, 229, 127, 128, 230, 231, 129, 232, 233, 910, 911, 912, 913, 914, 915, 916, 937, 938, 939, 940, 941, 942, 943, 944, 945, 946, 947, 948, 960, 961, 957, 958, 959, 953, 954, 955, 956, 962, 963, 964, 965, 966, 967, 968] (by decide +kernel) (by decide +kernel)) (goodIn_sub (fun _ h => List.mem_append_left _ (List.mem_append_left _ (List.mem_append_right _ h))) (by decide +kernel))
set_option maxRecDepth 20000 in
theorem gL_law_L_setLevels : GoodIn wsL_law (va_wsS RL 98 yL_setLevels wsL_setLevels) := goodIn_app (goodIn_of _ (by decide +kernel)) ggL_law_L_setLevels
set_option maxRecDepth 20000 in
theorem ggL_law_X11_setLevels : GoodIn wsL_law wsX11_setLevels := goodIn_r _ [328, 148, 255, 256, 5, 257, 258, 252, 253, 254, 263, 264, 265, 266, 267, 268, 269, 270, 271, 272, 149, 917, 918, 919, 920, 921, 922, 923, 924, 925, 926, 927, 928, 929, 930] (by decide +kernel) (by decide +kernel)
set_option maxRecDepth 20000 in
theorem gL_law_X11_setLevels : GoodIn wsL_law (wsV RL 101 RX11 yX11_setLevels wsX11_setLevels) := goodIn_app (goodIn_of _ (by decide +kernel)) ggL_law_X11_setLevels
set_option maxRecDepth 20000 in
theorem ggL_law_L_setMask : GoodIn wsL_law wsL_setMask := goodIn_ca (goodIn_ca (goodIn_r _ [331, 295, 161, 332, 333, 334, 2, 335, 30, 26, 300, 301, 302, 303, 304, 305, 192, 193, 168, 169, 170, 171, 172, 179, 180, 181, 29, 182, 183, 137, 184, 185, 186, 43, 187, 188, 189, 190, 191, 194, 195, 196, 25, 197, 76, 78, 82, 86, 198, 87, 88, 89, 90, 199, 200, 201, 75, 202, 95, 203, 204, 205, 206, 60, 207, 69, 208, 209, 210, 211, 212, 213, 214, 215, 52, 216, 61, 217, 218, 219, 220, 221, 222, 223, 81, 224, 102, 103, 104, 225, 226, 227, 228, 85, 229, 127, 128, 230, 231, 129, 232, 233, 336, 337, 338, 339, 340, 341, 342, 343, 66, 67, 344, 345, 346, 347, 118, 119, 120, 121, 910, 911, 912, 913, 914, 915, 916, 937, 938, 939, 940, 941, 942, 943, 944, 945, 946, 947, 948, 960, 961, 957, 958, 959, 953, 954, 955, 956, 962, 963, 964, 965, 966, 967, 968] (by decide +kernel) (by decide +kernel)) (goodIn_sub (fun _ h => List.mem_append_right _ h) (by decide +kernel))) (goodIn_sub (fun _ h => List.mem_append_left _ (List.mem_append_left _ (List.mem_append_right _ h))) (by decide +kernel))
set_option maxRecDepth 20000 in
theorem gL_law_L_setMask : GoodIn wsL_law (va_wsS RL 102 yL_setMask wsL_setMask) := goodIn_app (goodIn_of _ (by decide +kernel)) ggL_law_L_setMask
set_option maxRecDepth 20000 in
theorem ggL_law_X11_setMask : GoodIn wsL_law wsX11_setMask := goodIn_r _ [351, 148, 248, 249, 5, 250, 251, 252, 253, 254, 255, 256, 257, 258, 263, 264, 265, 266, 267, 268, 269, 270, 271, 272, 149, 917, 918, 919, 920, 921, 922, 923, 924, 925, 926, 927, 928, 929, 930] (by decide +kernel) (by decide +kernel)
set_option maxRecDepth 20000 in
theorem gL_law_X11_setMask : GoodIn wsL_law (wsV RL 105 RX11 yX11_setMask wsX11_setMask) := goodIn_app (goodIn_of _ (by decide +kernel)) ggL_law_X11_setMask
set_option maxRecDepth 20000 in
theorem ggL_law_L_setHops : GoodIn wsL_law wsL_setHops := goodIn_ca (goodIn_r _ [354, 161, 355, 356, 357, 2, 358, 30, 26, 168, 169, 170, 171, 172, 179, 180, 181, 29, 182, 183, 137, 184, 185, 186, 43, 187, 188, 189, 190, 191, 192, 193, 194, 195, 196, 25, 197, 76, 78, 82, 86, 198, 87, 88, 89, 90, 199, 200, 201, 75, 202, 95, 203, 204, 205, 206, 60, 207, 69, 208, 209, 210, 211, 212, 213, 214, 215, 52, 216, 61, 217, 218, 219, 220, 221, 222, 223, 81, 224, 102, 103, 104, 225, 226, 227, 228, 85, 229, 127, 128, 230, 231, 129, 232, 233, 910, 911, 912, 913, 914, 915, 916, 937, 938, 939, 940, 941, 942, 943, 944, 945, 946, 947, 948, 960, 961, 957, 958, 959, 953, 954, 955, 956, 962, 963, 964, 965, 966, 967, 968] (by decide +kernel) (by decide +kernel)) (goodIn_sub (fun _ h => List.mem_append_left _ (List.mem_append_left _ (List.mem_append_right _ h))) (by decide +kernel))
set_option maxRecDepth 20000 in
theorem gL_law_L_setHops : GoodIn wsL_law (va_wsS RL 106 yL_setHops wsL_setHops) := goodIn_app (goodIn_of _ (by decide +kernel)) ggL_law_L_setHops
set_option maxRecDepth 20000 in
theorem ggL_law_X11_setHops : GoodIn wsL_law wsX11_setHops := goodIn_r _ [362, 247, 258, 148, 252, 253, 5, 254, 263, 264, 265, 266, 267, 268, 269, 270, 271, 272, 149, 917, 918, 919, 920, 921, 922, 923, 924, 925, 926, 927, 928, 929, 930] (by decide +kernel) (by decide +kernel)
set_option maxRecDepth 20000 in
theorem gL_law_X11_setHops : GoodIn wsL_law (wsV RL 108 RX11 yX11_setHops wsX11_setHops) := goodIn_app (goodIn_of _ (by decide +kernel)) ggL_law_X11_setHops
set_option maxRecDepth 20000 in
theorem ggL_law_L_append : GoodIn wsL_law wsL_append := goodIn_ca (goodIn_ca (goodIn_r _ [365, 161, 162, 366, 367, 368, 2, 369, 177, 178, 17, 168, 169, 170, 171, 172, 370, 371, 372, 16, 373, 374, 45, 192, 193, 910, 911, 912, 913, 914, 915, 916, 931, 932] (by decide +kernel) (by decide +kernel)) (goodIn_sub (fun _ h => List.mem_append_left _ (List.mem_append_right _ h)) (by decide +kernel))) (goodIn_sub (fun _ h => List.mem_append_left _ (List.mem_append_left _ (List.mem_append_right _ h))) (by decide +kernel))
set_option maxRecDepth 20000 in
theorem gL_law_L_append : GoodIn wsL_law (va_wsS RL 109 yL_append wsL_append) := goodIn_app (goodIn_of _ (by decide +kernel)) ggL_law_L_append
set_option maxRecDepth 20000 in
theorem ggL_law_X11_append : GoodIn wsL_law wsX11_append := goodIn_r _ [378, 379, 380, 150, 252, 253, 5, 254, 263, 264, 265, 266, 267, 917, 918, 919, 920, 921, 922, 923, 924, 925, 926, 927, 928, 929, 930] (by decide +kernel) (by decide +kernel)
set_option maxRecDepth 20000 in
theorem gL_law_X11_append : GoodIn wsL_law (wsV RL 111 RX11 yX11_append wsX11_append) := goodIn_app (goodIn_of _ (by decide +kernel)) ggL_law_X11_append
set_option maxRecDepth 20000 in
theorem ggL_law_X10_clearText : GoodIn wsL_law wsX10_clearText := goodIn_r _ [384, 17, 910, 911, 912, 913, 914, 915, 916, 931, 932] (by decide +kernel) (by decide +kernel)
set_option maxRecDepth 20000 in
theorem gL_law_X10_clearText : GoodIn wsL_law (wsV RL 112 RX10 yX10_clearText wsX10_clearText) := goodIn_app (goodIn_of _ (by decide +kernel)) ggL_law_X10_clearText
set_option maxRecDepth 20000 in
theorem ggL_law_X11_clearText : GoodIn wsL_law wsX11_clearText := goodIn_r _ [388, 267, 380, 917, 918, 919, 920, 921, 922, 923, 924, 925, 926, 927, 928, 929, 930] (by decide +kernel) (by decide +kernel)
set_option maxRecDepth 20000 in
theorem gL_law_X11_clearText : GoodIn wsL_law (wsV RL 115 RX11 yX11_clearText wsX11_clearText) := goodIn_app (goodIn_of _ (by decide +kernel)) ggL_law_X11_clearText
set_option maxRecDepth 20000 in
theorem ggL_law_X10_parsePlan : GoodIn wsL_law wsX10_parsePlan := goodIn_r _ [392, 21, 30, 26, 393, 394, 395, 20, 396, 397, 398, 53, 54, 399, 400, 401, 52, 402, 217, 218, 219, 403, 404, 405, 406, 407, 408, 409, 16, 410, 374, 45, 192, 2, 193, 411, 412, 413, 414, 415, 416, 417, 418, 419, 420, 421, 422, 423, 424, 425, 426, 427, 428, 429, 430, 431, 432, 433, 434, 435, 436, 437, 438, 61, 439, 119, 120, 60, 121, 66, 67, 69, 179, 180, 181, 29, 182, 183, 137, 184, 185, 186, 43, 187, 188, 189, 190, 191, 194, 195, 196, 25, 197, 76, 78, 82, 86, 198, 87, 88, 89, 90, 199, 200, 201, 75, 202, 95, 203, 204, 205, 206, 207, 208, 209, 210, 211, 212, 213, 214, 215, 216, 220, 221, 222, 223, 81, 224, 102, 103, 104, 225, 226, 227, 228, 85, 229, 127, 128, 230, 231, 129, 232, 233, 440, 910, 911, 912, 913, 914, 915, 916, 937, 938, 939, 940, 941, 942, 943, 944, 945, 933, 934, 935, 936, 953, 954, 955, 956, 931, 932, 957, 958, 959, 946, 947, 948, 960, 961, 962, 963, 964, 965, 966, 967, 968] (by decide +kernel) (by decide +kernel)
set_option maxRecDepth 20000 in
theorem gL_law_X10_parsePlan : GoodIn wsL_law (wsV RL 116 RX10 yX10_parsePlan wsX10_parsePlan) := goodIn_app (goodIn_of _ (by decide +kernel)) ggL_law_X10_parsePlan
set_option maxRecDepth 20000 in
theorem ggL_law_X11_parsePlan : GoodIn wsL_law wsX11_parsePlan := goodIn_r _ [444, 267, 445, 446, 380, 148, 151, 447, 448, 449, 5, 450, 451, 452, 453, 454, 150, 455, 456, 457, 458, 459, 460, 461, 462, 463, 252, 253, 254, 464, 465, 466, 467, 468, 469, 470, 471, 268, 269, 270, 271, 272, 149, 917, 918, 919, 920, 921, 922, 923, 924, 925, 926, 927, 928, 929, 930] (by decide +kernel) (by decide +kernel)
set_option maxRecDepth 20000 in
theorem gL_law_X11_parsePlan : GoodIn wsL_law (wsV RL 119 RX11 yX11_parsePlan wsX11_parsePlan) := goodIn_app (goodIn_of _ (by decide +kernel)) ggL_law_X11_parsePlan
set_option maxRecDepth 20000 in
theorem ggL_law_X10_steps : GoodIn wsL_law wsX10_steps := goodIn_r _ [475, 26, 910, 911, 912, 913, 914, 915, 916, 937, 938, 939, 940, 941, 942, 943, 944, 945, 953, 954, 955, 956] (by decide +kernel) (by decide +kernel)
set_option maxRecDepth 20000 in
theorem gL_law_X10_steps : GoodIn wsL_law (wsV RL 120 RX10 yX10_steps wsX10_steps) := goodIn_app (goodIn_of _ (by decide +kernel)) ggL_law_X10_steps
set_option maxRecDepth 20000 in
theorem ggL_law_X11_steps : GoodIn wsL_law wsX11_steps := goodIn_r _ [479, 267, 148, 917, 918, 919, 920, 921, 922, 923, 924, 925, 926, 927, 928, 929, 930] (by decide +kernel) (by decide +kernel)
set_option maxRecDepth 20000 in
theorem gL_law_X11_steps : GoodIn wsL_law (wsV RL 123 RX11 yX11_steps wsX11_steps) := goodIn_app (goodIn_of _ (by decide +kernel)) ggL_law_X11_steps
set_option maxRecDepth 20000 in
theorem ggL_law_L_step : GoodIn wsL_law wsL_step := goodIn_ca (goodIn_ca (goodIn_r _ [482, 295, 161, 483, 484, 485, 2, 486, 26, 300, 301, 302, 303, 304, 305, 192, 193, 168, 169, 170, 171, 172, 487, 341, 342, 60, 343, 66, 67, 69, 910, 911, 912, 913, 914, 915, 916, 937, 938, 939, 940, 941, 942, 943, 944, 945, 953, 954, 955, 956, 957, 958, 959] (by decide +kernel) (by decide +kernel)) (goodIn_sub (fun _ h => List.mem_append_right _ h) (by decide +kernel))) (goodIn_sub (fun _ h => List.mem_append_left _ (List.mem_append_left _ (List.mem_append_right _ h))) (by decide +kernel))
set_option maxRecDepth 20000 in
theorem gL_law_L_step : GoodIn wsL_law (va_wsS RL 124 yL_step wsL_step) := goodIn_app (goodIn_of _ (by decide +kernel)) ggL_law_L_step
set_option maxRecDepth 20000 in
theorem ggL_law_X11_step : GoodIn wsL_law wsX11_step := goodIn_r _ [491, 148, 492, 252, 253, 5, 254, 263, 264, 265, 266, 267, 917, 918, 919, 920, 921, 922, 923, 924, 925, 926, 927, 928, 929, 930] (by decide +kernel) (by decide +kernel)
set_option maxRecDepth 20000 in
theorem gL_law_X11_step : GoodIn wsL_law (wsV RL 126 RX11 yX11_step wsX11_step) := goodIn_app (goodIn_of _ (by decide +kernel)) ggL_law_X11_step
set_option maxRecDepth 20000 in
theorem ggL_law_L_planByte : GoodIn wsL_law wsL_planByte := goodIn_ca (goodIn_r _ [495, 161, 496, 497, 498, 2, 499, 171, 172, 26, 22, 500, 501, 502, 52, 503, 217, 61, 504, 341, 342, 60, 343, 66, 67, 69, 505, 506, 507, 16, 508, 509, 371, 372, 373, 374, 45, 192, 193, 510, 511, 408, 409, 410, 910, 911, 912, 913, 914, 915, 916, 937, 938, 939, 940, 941, 942, 943, 944, 945, 931, 932, 953, 954, 955, 956, 957, 958, 959] (by decide +kernel) (by decide +kernel)) (goodIn_sub (fun _ h => List.mem_append_left _ (List.mem_append_left _ (List.mem_append_right _ h))) (by decide +kernel))
set_option maxRecDepth 20000 in
theorem gL_law_L_planByte : GoodIn wsL_law (va_wsS RL 127 yL_planByte wsL_planByte) := goodIn_app (goodIn_of _ (by decide +kernel)) ggL_law_L_planByte
set_option maxRecDepth 20000 in
theorem ggL_law_X11_planByte : GoodIn wsL_law wsX11_planByte := goodIn_r _ [515, 516, 517, 518, 148, 263, 264, 265, 5, 266, 267, 519, 520, 521, 522, 523, 524, 525, 526, 917, 918, 919, 920, 921, 922, 923, 924, 925, 926, 927, 928, 929, 930] (by decide +kernel) (by decide +kernel)
set_option maxRecDepth 20000 in
theorem gL_law_X11_planByte : GoodIn wsL_law (wsV RL 129 RX11 yX11_planByte wsX11_planByte) := goodIn_app (goodIn_of _ (by decide +kernel)) ggL_law_X11_planByte
set_option maxRecDepth 20000 in
theorem ggL_law_L_revisit : GoodIn wsL_law wsL_revisit := goodIn_ca (goodIn_r _ [529, 295, 530, 531, 532, 2, 533, 26, 300, 301, 302, 303, 304, 305, 192, 193, 534, 535, 536, 52, 537, 217, 61, 538, 42, 43, 44, 539, 540, 541, 542, 504, 341, 342, 60, 343, 66, 67, 69, 910, 911, 912, 913, 914, 915, 916, 937, 938, 939, 940, 941, 942, 943, 944, 945, 953, 954, 955, 956, 957, 958, 959] (by decide +kernel) (by decide +kernel)) (goodIn_sub (fun _ h => List.mem_append_right _ h) (by decide +kernel))
set_option maxRecDepth 20000 in
theorem gL_law_L_revisit : GoodIn wsL_law (va_wsS RL 130 yL_revisit wsL_revisit) := goodIn_app (goodIn_of _ (by decide +kernel)) ggL_law_L_revisit
set_option maxRecDepth 20000 in
theorem ggL_law_X11_revisit : GoodIn wsL_law wsX11_revisit := goodIn_r _ [546, 148, 248, 249, 5, 250, 251, 252, 253, 254, 263, 264, 265, 266, 267, 547, 548, 549, 550, 917, 918, 919, 920, 921, 922, 923, 924, 925, 926, 927, 928, 929, 930] (by decide +kernel) (by decide +kernel)
set_option maxRecDepth 20000 in
theorem gL_law_X11_revisit : GoodIn wsL_law (wsV RL 132 RX11 yX11_revisit wsX11_revisit) := goodIn_app (goodIn_of _ (by decide +kernel)) ggL_law_X11_revisit
set_option maxRecDepth 20000 in
theorem ggL_law_L_run : GoodIn wsL_law wsL_run := goodIn_ca (goodIn_r _ [553, 161, 554, 555, 556, 2, 557, 30, 26, 36, 168, 169, 170, 171, 172, 179, 180, 181, 29, 182, 183, 137, 184, 185, 186, 43, 187, 188, 189, 190, 191, 192, 193, 194, 195, 196, 25, 197, 76, 78, 82, 86, 198, 87, 88, 89, 90, 199, 200, 201, 75, 202, 95, 203, 204, 205, 206, 60, 207, 69, 208, 209, 210, 211, 212, 213, 214, 215, 52, 216, 61, 217, 218, 219, 220, 221, 222, 223, 81, 224, 102, 103, 104, 225, 226, 227, 228, 85, 229, 127, 128, 230, 231, 129, 232, 233, 558, 559, 560, 561, 562, 563, 564, 565, 566, 567, 568, 569, 570, 111, 112, 113, 571, 572, 573, 574, 575, 341, 342, 343, 66, 67, 576, 577, 578, 579, 580, 581, 582, 583, 584, 540, 541, 542, 504, 585, 586, 587, 588, 589, 590, 591, 592, 340, 118, 119, 120, 121, 593, 594, 595, 596, 597, 598, 599, 337, 338, 339, 600, 601, 602, 603, 604, 605, 606, 607, 608, 609, 610, 611, 612, 613, 614, 615, 616, 617, 618, 619, 620, 621, 910, 911, 912, 913, 914, 915, 916, 937, 938, 939, 940, 941, 942, 943, 944, 945, 946, 947, 948, 960, 961, 957, 958, 959, 953, 954, 955, 956, 962, 963, 964, 965, 966, 967, 968] (by decide +kernel) (by decide +kernel)) (goodIn_sub (fun _ h => List.mem_append_left _ (List.mem_append_left _ (List.mem_append_right _ h))) (by decide +kernel))
set_option maxRecDepth 20000 in
theorem gL_law_L_run : GoodIn wsL_law (va_wsS RL 133 yL_run wsL_run) := goodIn_app (goodIn_of _ (by decide +kernel)) ggL_law_L_run
set_option maxRecDepth 20000 in
theorem ggL_law_X11_run : GoodIn wsL_law wsX11_run := goodIn_r _ [625, 626, 148, 252, 253, 5, 254, 263, 264, 265, 266, 267, 268, 269, 270, 271, 272, 149, 627, 628, 629, 630, 631, 632, 633, 634, 635, 636, 637, 638, 639, 640, 641, 642, 643, 644, 645, 646, 647, 648, 649, 650, 651, 652, 653, 917, 918, 919, 920, 921, 922, 923, 924, 925, 926, 927, 928, 929, 930] (by decide +kernel) (by decide +kernel)
set_option maxRecDepth 20000 in
theorem gL_law_X11_run : GoodIn wsL_law (wsV RL 135 RX11 yX11_run wsX11_run) := goodIn_app (goodIn_of _ (by decide +kernel)) ggL_law_X11_run
set_option maxRecDepth 20000 in
theorem ggL_law_X10_presentStep : GoodIn wsL_law wsX10_presentStep := goodIn_r _ [657, 26, 658, 563, 564, 52, 565, 217, 218, 910, 911, 912, 913, 914, 915, 916, 937, 938, 939, 940, 941, 942, 943, 944, 945, 953, 954, 955, 956] (by decide +kernel) (by decide +kernel)
set_option maxRecDepth 20000 in
theorem gL_law_X10_presentStep : GoodIn wsL_law (wsV RL 136 RX10 yX10_presentStep wsX10_presentStep) := goodIn_app (goodIn_of _ (by decide +kernel)) ggL_law_X10_presentStep
set_option maxRecDepth 20000 in
theorem ggL_law_X11_presentStep : GoodIn wsL_law wsX11_presentStep := goodIn_r _ [662, 267, 663, 664, 665, 5, 666, 148, 917, 918, 919, 920, 921, 922, 923, 924, 925, 926, 927, 928, 929, 930] (by decide +kernel) (by decide +kernel)
set_option maxRecDepth 20000 in
theorem gL_law_X11_presentStep : GoodIn wsL_law (wsV RL 139 RX11 yX11_presentStep wsX11_presentStep) := goodIn_app (goodIn_of _ (by decide +kernel)) ggL_law_X11_presentStep
set_option maxRecDepth 20000 in
theorem ggL_law_L_level : GoodIn wsL_law wsL_level := goodIn_ca (goodIn_r _ [669, 295, 670, 671, 672, 2, 673, 26, 36, 300, 301, 302, 303, 304, 305, 192, 193, 674, 567, 568, 25, 569, 87, 76, 198, 570, 111, 112, 113, 571, 572, 573, 75, 574, 203, 95, 575, 341, 342, 60, 343, 66, 67, 69, 576, 577, 578, 579, 580, 581, 582, 583, 910, 911, 912, 913, 914, 915, 916, 937, 938, 939, 940, 941, 942, 943, 944, 945, 960, 961, 957, 958, 959] (by decide +kernel) (by decide +kernel)) (goodIn_sub (fun _ h => List.mem_append_right _ h) (by decide +kernel))
set_option maxRecDepth 20000 in
theorem gL_law_L_level : GoodIn wsL_law (va_wsS RL 140 yL_level wsL_level) := goodIn_app (goodIn_of _ (by decide +kernel)) ggL_law_L_level
set_option maxRecDepth 20000 in
theorem ggL_law_X11_level : GoodIn wsL_law wsX11_level := goodIn_r _ [678, 248, 249, 5, 250, 251, 252, 253, 254, 263, 264, 265, 266, 267, 635, 636, 637, 638, 148, 917, 918, 919, 920, 921, 922, 923, 924, 925, 926, 927, 928, 929, 930] (by decide +kernel) (by decide +kernel)
set_option maxRecDepth 20000 in
theorem gL_law_X11_level : GoodIn wsL_law (wsV RL 142 RX11 yX11_level wsX11_level) := goodIn_app (goodIn_of _ (by decide +kernel)) ggL_law_X11_level
set_option maxRecDepth 20000 in
theorem ggL_law_L_detector : GoodIn wsL_law wsL_detector := goodIn_ca (goodIn_ca (goodIn_r _ [681, 295, 161, 682, 683, 684, 2, 685, 26, 300, 301, 302, 303, 304, 305, 192, 193, 168, 169, 170, 171, 172, 487, 341, 342, 60, 343, 66, 67, 69, 910, 911, 912, 913, 914, 915, 916, 937, 938, 939, 940, 941, 942, 943, 944, 945, 962, 963, 964, 957, 958, 959] (by decide +kernel) (by decide +kernel)) (goodIn_sub (fun _ h => List.mem_append_right _ h) (by decide +kernel))) (goodIn_sub (fun _ h => List.mem_append_left _ (List.mem_append_left _ (List.mem_append_right _ h))) (by decide +kernel))
set_option maxRecDepth 20000 in
theorem gL_law_L_detector : GoodIn wsL_law (va_wsS RL 143 yL_detector wsL_detector) := goodIn_app (goodIn_of _ (by decide +kernel)) ggL_law_L_detector
set_option maxRecDepth 20000 in
theorem ggL_law_X11_detector : GoodIn wsL_law wsX11_detector := goodIn_r _ [689, 690, 148, 248, 249, 5, 250, 251, 252, 253, 254, 263, 264, 265, 266, 267, 917, 918, 919, 920, 921, 922, 923, 924, 925, 926, 927, 928, 929, 930] (by decide +kernel) (by decide +kernel)
set_option maxRecDepth 20000 in
theorem gL_law_X11_detector : GoodIn wsL_law (wsV RL 145 RX11 yX11_detector wsX11_detector) := goodIn_app (goodIn_of _ (by decide +kernel)) ggL_law_X11_detector
set_option maxRecDepth 20000 in
theorem ggL_law_L_average : GoodIn wsL_law wsL_average := goodIn_ca (goodIn_r _ [693, 295, 694, 695, 696, 2, 697, 26, 300, 301, 302, 303, 304, 305, 192, 193, 698, 699, 700, 81, 701, 102, 702, 186, 43, 187, 103, 340, 341, 342, 60, 343, 66, 67, 69, 910, 911, 912, 913, 914, 915, 916, 937, 938, 939, 940, 941, 942, 943, 944, 945, 962, 963, 964, 957, 958, 959] (by decide +kernel) (by decide +kernel)) (goodIn_sub (fun _ h => List.mem_append_right _ h) (by decide +kernel))
set_option maxRecDepth 20000 in
theorem gL_law_L_average : GoodIn wsL_law (va_wsS RL 146 yL_average wsL_average) := goodIn_app (goodIn_of _ (by decide +kernel)) ggL_law_L_average
set_option maxRecDepth 20000 in
theorem ggL_law_X11_average : GoodIn wsL_law wsX11_average := goodIn_r _ [706, 248, 249, 5, 250, 251, 252, 253, 254, 263, 264, 265, 266, 267, 707, 708, 709, 710, 148, 917, 918, 919, 920, 921, 922, 923, 924, 925, 926, 927, 928, 929, 930] (by decide +kernel) (by decide +kernel)
set_option maxRecDepth 20000 in
theorem gL_law_X11_average : GoodIn wsL_law (wsV RL 148 RX11 yX11_average wsX11_average) := goodIn_app (goodIn_of _ (by decide +kernel)) ggL_law_X11_average
set_option maxRecDepth 20000 in
theorem ggL_law_L_occupancy : GoodIn wsL_law wsL_occupancy := goodIn_ca (goodIn_r _ [713, 295, 714, 715, 716, 2, 717, 26, 300, 301, 302, 303, 304, 305, 192, 193, 487, 341, 342, 60, 343, 66, 67, 69, 910, 911, 912, 913, 914, 915, 916, 937, 938, 939, 940, 941, 942, 943, 944, 945, 962, 963, 964, 957, 958, 959] (by decide +kernel) (by decide +kernel)) (goodIn_sub (fun _ h => List.mem_append_right _ h) (by decide +kernel))
set_option maxRecDepth 20000 in
theorem gL_law_L_occupancy : GoodIn wsL_law (va_wsS RL 149 yL_occupancy wsL_occupancy) := goodIn_app (goodIn_of _ (by decide +kernel)) ggL_law_L_occupancy
set_option maxRecDepth 20000 in
theorem ggL_law_X11_occupancy : GoodIn wsL_law wsX11_occupancy := goodIn_r _ [721, 148, 248, 249, 5, 250, 251, 252, 253, 254, 263, 264, 265, 266, 267, 917, 918, 919, 920, 921, 922, 923, 924, 925, 926, 927, 928, 929, 930] (by decide +kernel) (by decide +kernel)
set_option maxRecDepth 20000 in
theorem gL_law_X11_occupancy : GoodIn wsL_law (wsV RL 152 RX11 yX11_occupancy wsX11_occupancy) := goodIn_app (goodIn_of _ (by decide +kernel)) ggL_law_X11_occupancy
set_option maxRecDepth 20000 in
theorem ggL_law_X10_reset : GoodIn wsL_law wsX10_reset := goodIn_r _ [725, 30, 26, 179, 180, 181, 29, 182, 183, 137, 184, 185, 186, 43, 187, 188, 189, 190, 191, 192, 2, 193, 194, 195, 196, 25, 197, 76, 78, 82, 86, 198, 87, 88, 89, 90, 199, 200, 201, 75, 202, 95, 203, 204, 205, 206, 60, 207, 69, 208, 209, 210, 211, 212, 213, 214, 215, 52, 216, 61, 217, 218, 219, 220, 221, 222, 223, 81, 224, 102, 103, 104, 225, 226, 227, 228, 85, 229, 127, 128, 230, 231, 129, 232, 233, 726, 115, 116, 117, 106, 107, 108, 109, 110, 111, 112, 113, 118, 119, 120, 121, 66, 67, 727, 728, 729, 730, 131, 910, 911, 912, 913, 914, 915, 916, 937, 938, 939, 940, 941, 942, 943, 944, 945, 965, 966, 967, 968, 946, 947, 948, 960, 961, 957, 958, 959, 953, 954, 955, 956, 962, 963, 964] (by decide +kernel) (by decide +kernel)
set_option maxRecDepth 20000 in
theorem gL_law_X10_reset : GoodIn wsL_law (wsV RL 153 RX10 yX10_reset wsX10_reset) := goodIn_app (goodIn_of _ (by decide +kernel)) ggL_law_X10_reset
set_option maxRecDepth 20000 in
theorem ggL_law_X11_reset : GoodIn wsL_law wsX11_reset := goodIn_r _ [734, 267, 148, 268, 269, 270, 5, 271, 272, 149, 153, 154, 155, 156, 917, 918, 919, 920, 921, 922, 923, 924, 925, 926, 927, 928, 929, 930] (by decide +kernel) (by decide +kernel)
set_option maxRecDepth 20000 in
theorem gL_law_X11_reset : GoodIn wsL_law (wsV RL 156 RX11 yX11_reset wsX11_reset) := goodIn_app (goodIn_of _ (by decide +kernel)) ggL_law_X11_reset
set_option maxRecDepth 20000 in
theorem ggL_law_X10_events : GoodIn wsL_law wsX10_events := goodIn_r _ [738, 26, 910, 911, 912, 913, 914, 915, 916, 937, 938, 939, 940, 941, 942, 943, 944, 945, 965, 966, 967, 968] (by decide +kernel) (by decide +kernel)
set_option maxRecDepth 20000 in
theorem gL_law_X10_events : GoodIn wsL_law (wsV RL 157 RX10 yX10_events wsX10_events) := goodIn_app (goodIn_of _ (by decide +kernel)) ggL_law_X10_events
set_option maxRecDepth 20000 in
theorem ggL_law_X11_events : GoodIn wsL_law wsX11_events := goodIn_r _ [742, 267, 148, 917, 918, 919, 920, 921, 922, 923, 924, 925, 926, 927, 928, 929, 930] (by decide +kernel) (by decide +kernel)
set_option maxRecDepth 20000 in
theorem gL_law_X11_events : GoodIn wsL_law (wsV RL 160 RX11 yX11_events wsX11_events) := goodIn_app (goodIn_of _ (by decide +kernel)) ggL_law_X11_events
set_option maxRecDepth 20000 in
theorem ggL_law_L_event : GoodIn wsL_law wsL_event := goodIn_ca (goodIn_ca (goodIn_r _ [745, 295, 161, 746, 747, 748, 2, 749, 26, 300, 301, 302, 303, 304, 305, 192, 193, 168, 169, 170, 171, 172, 750, 751, 752, 753, 34, 754, 755, 756, 33, 757, 758, 186, 43, 187, 759, 142, 141, 143, 760, 111, 112, 113, 761, 762, 763, 764, 765, 766, 767, 85, 768, 128, 127, 604, 341, 342, 60, 343, 66, 67, 69, 769, 770, 771, 772, 773, 774, 775, 776, 777, 778, 779, 780, 781, 782, 783, 784, 785, 786, 787, 910, 911, 912, 913, 914, 915, 916, 937, 938, 939, 940, 941, 942, 943, 944, 945, 965, 966, 967, 968, 949, 950, 951, 952, 957, 958, 959] (by decide +kernel) (by decide +kernel)) (goodIn_sub (fun _ h => List.mem_append_right _ h) (by decide +kernel))) (goodIn_sub (fun _ h => List.mem_append_left _ (List.mem_append_left _ (List.mem_append_right _ h))) (by decide +kernel))
set_option maxRecDepth 20000 in
theorem gL_law_L_event : GoodIn wsL_law (va_wsS RL 161 yL_event wsL_event) := goodIn_app (goodIn_of _ (by decide +kernel)) ggL_law_L_event
set_option maxRecDepth 20000 in
theorem ggL_law_X11_event : GoodIn wsL_law wsX11_event := goodIn_r _ [791, 792, 793, 794, 795, 5, 796, 148, 252, 253, 254, 263, 264, 265, 266, 267, 797, 798, 799, 800, 152, 647, 648, 649, 801, 802, 803, 804, 805, 806, 807, 808, 809, 810, 811, 917, 918, 919, 920, 921, 922, 923, 924, 925, 926, 927, 928, 929, 930] (by decide +kernel) (by decide +kernel)
set_option maxRecDepth 20000 in
theorem gL_law_X11_event : GoodIn wsL_law (wsV RL 163 RX11 yX11_event wsX11_event) := goodIn_app (goodIn_of _ (by decide +kernel)) ggL_law_X11_event
set_option maxRecDepth 20000 in
theorem ggL_law_L_chainLength : GoodIn wsL_law wsL_chainLength := goodIn_ca (goodIn_r _ [814, 295, 815, 816, 817, 2, 818, 26, 34, 300, 301, 302, 303, 304, 305, 192, 193, 750, 751, 752, 753, 754, 755, 756, 33, 757, 758, 186, 43, 187, 759, 142, 141, 143, 760, 111, 112, 113, 761, 762, 763, 764, 765, 766, 767, 85, 768, 128, 127, 604, 341, 342, 60, 343, 66, 67, 69, 769, 770, 771, 772, 773, 774, 783, 784, 785, 786, 819, 820, 821, 822, 910, 911, 912, 913, 914, 915, 916, 937, 938, 939, 940, 941, 942, 943, 944, 945, 965, 966, 967, 968, 949, 950, 951, 952, 957, 958, 959] (by decide +kernel) (by decide +kernel)) (goodIn_sub (fun _ h => List.mem_append_right _ h) (by decide +kernel))
set_option maxRecDepth 20000 in
theorem gL_law_L_chainLength : GoodIn wsL_law (va_wsS RL 164 yL_chainLength wsL_chainLength) := goodIn_app (goodIn_of _ (by decide +kernel)) ggL_law_L_chainLength
set_option maxRecDepth 20000 in
theorem ggL_law_X11_chainLength : GoodIn wsL_law wsX11_chainLength := goodIn_r _ [826, 793, 794, 795, 5, 796, 148, 252, 253, 254, 263, 264, 265, 266, 267, 797, 798, 799, 800, 152, 647, 648, 649, 801, 802, 803, 827, 828, 829, 830, 831, 808, 809, 810, 811, 917, 918, 919, 920, 921, 922, 923, 924, 925, 926, 927, 928, 929, 930] (by decide +kernel) (by decide +kernel)
set_option maxRecDepth 20000 in
theorem gL_law_X11_chainLength : GoodIn wsL_law (wsV RL 166 RX11 yX11_chainLength wsX11_chainLength) := goodIn_app (goodIn_of _ (by decide +kernel)) ggL_law_X11_chainLength
set_option maxRecDepth 20000 in
theorem ggL_law_X10_chains : GoodIn wsL_law wsX10_chains := goodIn_r _ [835, 34, 750, 751, 752, 2, 753, 26, 754, 755, 756, 33, 757, 758, 186, 43, 187, 759, 142, 141, 143, 760, 111, 112, 113, 761, 762, 763, 764, 765, 766, 767, 85, 768, 128, 127, 192, 193, 604, 341, 342, 60, 343, 66, 67, 69, 769, 770, 771, 772, 773, 774, 836, 837, 838, 839, 910, 911, 912, 913, 914, 915, 916, 937, 938, 939, 940, 941, 942, 943, 944, 945, 965, 966, 967, 968, 949, 950, 951, 952, 957, 958, 959] (by decide +kernel) (by decide +kernel)
set_option maxRecDepth 20000 in
theorem gL_law_X10_chains : GoodIn wsL_law (wsV RL 167 RX10 yX10_chains wsX10_chains) := goodIn_app (goodIn_of _ (by decide +kernel)) ggL_law_X10_chains
set_option maxRecDepth 20000 in
theorem ggL_law_X11_chains : GoodIn wsL_law wsX11_chains := goodIn_r _ [843, 267, 148, 152, 797, 798, 799, 5, 800, 647, 648, 649, 252, 253, 254, 801, 802, 803, 917, 918, 919, 920, 921, 922, 923, 924, 925, 926, 927, 928, 929, 930] (by decide +kernel) (by decide +kernel)
set_option maxRecDepth 20000 in
theorem gL_law_X11_chains : GoodIn wsL_law (wsV RL 170 RX11 yX11_chains wsX11_chains) := goodIn_app (goodIn_of _ (by decide +kernel)) ggL_law_X11_chains
set_option maxRecDepth 20000 in
theorem ggL_law_L_hopInterval : GoodIn wsL_law wsL_hopInterval := goodIn_ca (goodIn_r _ [846, 295, 847, 848, 849, 2, 850, 26, 34, 300, 301, 302, 303, 304, 305, 192, 193, 750, 751, 752, 753, 754, 755, 756, 33, 757, 758, 186, 43, 187, 759, 142, 141, 143, 760, 111, 112, 113, 761, 762, 763, 764, 765, 766, 767, 85, 768, 128, 127, 604, 341, 342, 60, 343, 66, 67, 69, 769, 770, 771, 772, 773, 774, 783, 784, 785, 786, 819, 820, 821, 822, 851, 852, 853, 854, 787, 910, 911, 912, 913, 914, 915, 916, 937, 938, 939, 940, 941, 942, 943, 944, 945, 965, 966, 967, 968, 949, 950, 951, 952, 957, 958, 959] (by decide +kernel) (by decide +kernel)) (goodIn_sub (fun _ h => List.mem_append_right _ h) (by decide +kernel))
set_option maxRecDepth 20000 in
theorem gL_law_L_hopInterval : GoodIn wsL_law (va_wsS RL 171 yL_hopInterval wsL_hopInterval) := goodIn_app (goodIn_of _ (by decide +kernel)) ggL_law_L_hopInterval
set_option maxRecDepth 20000 in
theorem ggL_law_X11_hopInterval : GoodIn wsL_law wsX11_hopInterval := goodIn_r _ [858, 148, 831, 793, 794, 795, 5, 796, 252, 253, 254, 263, 264, 265, 266, 267, 797, 798, 799, 800, 152, 647, 648, 649, 801, 802, 803, 827, 828, 829, 830, 808, 809, 810, 811, 917, 918, 919, 920, 921, 922, 923, 924, 925, 926, 927, 928, 929, 930] (by decide +kernel) (by decide +kernel)
set_option maxRecDepth 20000 in
theorem gL_law_X11_hopInterval : GoodIn wsL_law (wsV RL 173 RX11 yX11_hopInterval wsX11_hopInterval) := goodIn_app (goodIn_of _ (by decide +kernel)) ggL_law_X11_hopInterval
set_option maxRecDepth 20000 in
theorem ggL_law_L_undo : GoodIn wsL_law wsL_undo := goodIn_ca (goodIn_r _ [861, 162, 862, 863, 864, 2, 865, 177, 178, 30, 26, 866, 867, 868, 29, 869, 183, 137, 184, 188, 189, 190, 191, 192, 193, 194, 195, 196, 25, 197, 76, 78, 82, 86, 198, 87, 88, 89, 90, 199, 200, 201, 75, 202, 95, 203, 204, 205, 206, 60, 207, 69, 208, 186, 43, 187, 209, 210, 211, 212, 213, 214, 215, 52, 216, 61, 217, 218, 219, 220, 221, 222, 223, 81, 224, 102, 103, 104, 225, 226, 227, 228, 85, 229, 127, 128, 230, 231, 129, 232, 233, 910, 911, 912, 913, 914, 915, 916, 946, 947, 948, 937, 938, 939, 940, 941, 942, 943, 944, 945, 960, 961, 957, 958, 959, 953, 954, 955, 956, 962, 963, 964, 965, 966, 967, 968] (by decide +kernel) (by decide +kernel)) (goodIn_sub (fun _ h => List.mem_append_left _ (List.mem_append_right _ h)) (by decide +kernel))
set_option maxRecDepth 20000 in
theorem gL_law_L_undo : GoodIn wsL_law (va_wsS RL 174 yL_undo wsL_undo) := goodIn_app (goodIn_of _ (by decide +kernel)) ggL_law_L_undo
set_option maxRecDepth 20000 in
theorem ggL_law_X11_undo : GoodIn wsL_law wsX11_undo := goodIn_r _ [873, 272, 148, 149, 263, 264, 265, 5, 266, 267, 917, 918, 919, 920, 921, 922, 923, 924, 925, 926, 927, 928, 929, 930] (by decide +kernel) (by decide +kernel)
set_option maxRecDepth 20000 in
theorem gL_law_X11_undo : GoodIn wsL_law (wsV RL 177 RX11 yX11_undo wsX11_undo) := goodIn_app (goodIn_of _ (by decide +kernel)) ggL_law_X11_undo
set_option maxRecDepth 20000 in
theorem ggL_law_X10_digest : GoodIn wsL_law wsX10_digest := goodIn_r _ [877, 878, 17, 26, 30, 879, 880, 2, 881, 882, 883, 884, 885, 60, 886, 887, 888, 889, 890, 67, 597, 341, 342, 343, 66, 69, 658, 563, 564, 52, 565, 217, 218, 891, 892, 893, 81, 894, 102, 599, 337, 338, 339, 104, 340, 895, 896, 699, 700, 701, 702, 186, 43, 187, 103, 750, 751, 752, 753, 34, 754, 755, 756, 33, 757, 758, 759, 142, 141, 143, 760, 111, 112, 113, 761, 762, 763, 764, 765, 766, 767, 85, 768, 128, 127, 192, 193, 604, 769, 770, 771, 772, 773, 774, 897, 898, 899, 900, 775, 776, 777, 778, 779, 780, 781, 782, 783, 784, 785, 786, 787, 910, 911, 912, 913, 914, 915, 916, 931, 932, 937, 938, 939, 940, 941, 942, 943, 944, 945, 960, 961, 953, 954, 955, 956, 946, 947, 948, 957, 958, 959, 962, 963, 964, 965, 966, 967, 968, 949, 950, 951, 952] (by decide +kernel) (by decide +kernel)
set_option maxRecDepth 20000 in
theorem gL_law_X10_digest : GoodIn wsL_law (wsV RL 178 RX10 yX10_digest wsX10_digest) := goodIn_app (goodIn_of _ (by decide +kernel)) ggL_law_X10_digest
set_option maxRecDepth 20000 in
theorem ggL_law_X11_digest : GoodIn wsL_law wsX11_digest := goodIn_r _ [904, 267, 905, 380, 148, 251, 272, 906, 907, 908, 5, 909, 663, 664, 665, 666, 707, 708, 709, 710, 797, 798, 799, 800, 152, 647, 648, 649, 252, 253, 254, 801, 802, 803, 804, 805, 806, 807, 808, 809, 810, 811, 917, 918, 919, 920, 921, 922, 923, 924, 925, 926, 927, 928, 929, 930] (by decide +kernel) (by decide +kernel)
set_option maxRecDepth 20000 in
theorem gL_law_X11_digest : GoodIn wsL_law (wsV RL 182 RX11 yX11_digest wsX11_digest) := goodIn_app (goodIn_of _ (by decide +kernel)) ggL_law_X11_digest
theorem dL_law_0 : decode cL_law 0 = .ok (.new 8, 3) := by decide +kernel
theorem dL_law_3 : decode cL_law 3 = .ok (.dup, 1) := by decide +kernel
theorem dL_law_4 : decode cL_law 4 = .ok (.invokespecial 78, 3) := by decide +kernel
theorem dL_law_7 : decode cL_law 7 = .ok (.astore_n 1, 1) := by decide +kernel
theorem dL_law_8 : decode cL_law 8 = .ok (.new 79, 3) := by decide +kernel
theorem dL_law_11 : decode cL_law 11 = .ok (.dup, 1) := by decide +kernel
theorem dL_law_12 : decode cL_law 12 = .ok (.invokespecial 81, 3) := by decide +kernel
theorem dL_law_15 : decode cL_law 15 = .ok (.astore_n 2, 1) := by decide +kernel
theorem dL_law_16 : decode cL_law 16 = .ok (.iconst 1, 1) := by decide +kernel
theorem dL_law_17 : decode cL_law 17 = .ok (.newarray .long, 2) := by decide +kernel
theorem dL_law_19 : decode cL_law 19 = .ok (.astore_n 3, 1) := by decide +kernel
theorem dL_law_20 : decode cL_law 20 = .ok (.iconst 1, 1) := by decide +kernel
theorem dL_law_21 : decode cL_law 21 = .ok (.newarray .double, 2) := by decide +kernel
theorem dL_law_23 : decode cL_law 23 = .ok (.astore 4, 2) := by decide +kernel
theorem dL_law_25 : decode cL_law 25 = .ok (.iconst 0, 1) := by decide +kernel
theorem dL_law_26 : decode cL_law 26 = .ok (.istore 5, 2) := by decide +kernel
theorem dL_law_28 : decode cL_law 28 = .ok (.iload 5, 2) := by decide +kernel
theorem dL_law_30 : decode cL_law 30 = .ok (.aload_n 0, 1) := by decide +kernel
theorem dL_law_31 : decode cL_law 31 = .ok (.arraylength, 1) := by decide +kernel
theorem dL_law_32 : decode cL_law 32 = .ok (.bipush 6, 2) := by decide +kernel
theorem dL_law_34 : decode cL_law 34 = .ok (.isub, 1) := by decide +kernel
theorem dL_law_35 : decode cL_law 35 = .ok (.if_icmp .gt 1518, 3) := by decide +kernel
theorem dL_law_38 : decode cL_law 38 = .ok (.aload_n 0, 1) := by decide +kernel
theorem dL_law_39 : decode cL_law 39 = .ok (.iload 5, 2) := by decide +kernel
theorem dL_law_41 : decode cL_law 41 = .ok (.iaload, 1) := by decide +kernel
theorem dL_law_42 : decode cL_law 42 = .ok (.bipush 31, 2) := by decide +kernel
theorem dL_law_44 : decode cL_law 44 = .ok (.iand, 1) := by decide +kernel
theorem dL_law_45 : decode cL_law 45 = .ok (.tableswitch 1502 0 26 #[123, 227, 331, 387, 455, 535, 603, 659, 672, 685, 698, 766, 822, 878, 934, 947, 1003, 1071, 1127, 1204, 1217, 1230, 1298, 1354, 1367, 1444, 1488], 123) := by decide +kernel
theorem dL_law_168 : decode cL_law 168 = .ok (.aload_n 1, 1) := by decide +kernel
theorem dL_law_169 : decode cL_law 169 = .ok (.aload_n 0, 1) := by decide +kernel
theorem dL_law_170 : decode cL_law 170 = .ok (.iload 5, 2) := by decide +kernel
theorem dL_law_172 : decode cL_law 172 = .ok (.iconst 1, 1) := by decide +kernel
theorem dL_law_173 : decode cL_law 173 = .ok (.iadd, 1) := by decide +kernel
theorem dL_law_174 : decode cL_law 174 = .ok (.iaload, 1) := by decide +kernel
theorem dL_law_175 : decode cL_law 175 = .ok (.aload_n 0, 1) := by decide +kernel
theorem dL_law_176 : decode cL_law 176 = .ok (.iload 5, 2) := by decide +kernel
theorem dL_law_178 : decode cL_law 178 = .ok (.iconst 2, 1) := by decide +kernel
theorem dL_law_179 : decode cL_law 179 = .ok (.iadd, 1) := by decide +kernel
theorem dL_law_180 : decode cL_law 180 = .ok (.iaload, 1) := by decide +kernel
theorem dL_law_181 : decode cL_law 181 = .ok (.aload_n 0, 1) := by decide +kernel
theorem dL_law_182 : decode cL_law 182 = .ok (.iload 5, 2) := by decide +kernel
theorem dL_law_184 : decode cL_law 184 = .ok (.iconst 3, 1) := by decide +kernel
theorem dL_law_185 : decode cL_law 185 = .ok (.iadd, 1) := by decide +kernel
theorem dL_law_186 : decode cL_law 186 = .ok (.iaload, 1) := by decide +kernel
theorem dL_law_187 : decode cL_law 187 = .ok (.aload_n 0, 1) := by decide +kernel
theorem dL_law_188 : decode cL_law 188 = .ok (.iload 5, 2) := by decide +kernel
theorem dL_law_190 : decode cL_law 190 = .ok (.iconst 4, 1) := by decide +kernel
theorem dL_law_191 : decode cL_law 191 = .ok (.iadd, 1) := by decide +kernel
theorem dL_law_192 : decode cL_law 192 = .ok (.iaload, 1) := by decide +kernel
theorem dL_law_193 : decode cL_law 193 = .ok (.aload_n 0, 1) := by decide +kernel
theorem dL_law_194 : decode cL_law 194 = .ok (.iload 5, 2) := by decide +kernel
theorem dL_law_196 : decode cL_law 196 = .ok (.iconst 5, 1) := by decide +kernel
theorem dL_law_197 : decode cL_law 197 = .ok (.iadd, 1) := by decide +kernel
theorem dL_law_198 : decode cL_law 198 = .ok (.iaload, 1) := by decide +kernel
theorem dL_law_199 : decode cL_law 199 = .ok (.aload_n 3, 1) := by decide +kernel
theorem dL_law_200 : decode cL_law 200 = .ok (.invokestatic 82, 3) := by decide +kernel
theorem dL_law_203 : decode cL_law 203 = .ok (.istore 6, 2) := by decide +kernel
theorem dL_law_205 : decode cL_law 205 = .ok (.aload_n 2, 1) := by decide +kernel
theorem dL_law_206 : decode cL_law 206 = .ok (.aload_n 0, 1) := by decide +kernel
theorem dL_law_207 : decode cL_law 207 = .ok (.iload 5, 2) := by decide +kernel
theorem dL_law_209 : decode cL_law 209 = .ok (.iconst 1, 1) := by decide +kernel
theorem dL_law_210 : decode cL_law 210 = .ok (.iadd, 1) := by decide +kernel
theorem dL_law_211 : decode cL_law 211 = .ok (.iaload, 1) := by decide +kernel
theorem dL_law_212 : decode cL_law 212 = .ok (.aload_n 0, 1) := by decide +kernel
theorem dL_law_213 : decode cL_law 213 = .ok (.iload 5, 2) := by decide +kernel
theorem dL_law_215 : decode cL_law 215 = .ok (.iconst 2, 1) := by decide +kernel
theorem dL_law_216 : decode cL_law 216 = .ok (.iadd, 1) := by decide +kernel
theorem dL_law_217 : decode cL_law 217 = .ok (.iaload, 1) := by decide +kernel
theorem dL_law_218 : decode cL_law 218 = .ok (.aload_n 0, 1) := by decide +kernel
theorem dL_law_219 : decode cL_law 219 = .ok (.iload 5, 2) := by decide +kernel
theorem dL_law_221 : decode cL_law 221 = .ok (.iconst 3, 1) := by decide +kernel
theorem dL_law_222 : decode cL_law 222 = .ok (.iadd, 1) := by decide +kernel
