set_option maxRecDepth 20000 in
theorem ggL_law_X4_init : GoodIn wsL_law wsX4_init := goodIn_r _ [9, 10, 11, 12, 13, 14, 15, 16, 17, 18, 19, 20, 21, 22, 23, 24, 25, 26, 27, 28, 29, 30, 31, 32, 33, 34, 35, 36, 37, 38, 39, 40, 41, 42, 43, 44, 45, 46, 47, 48, 49, 50, 51, 52, 53, 54, 55, 56, 911, 912, 913, 914, 891, 892, 893, 894, 895, 915, 916, 917, 918, 919, 920, 921, 922, 923, 924, 925, 926, 927, 928, 929, 930, 931, 932] (by decide +kernel) (by decide +kernel)
set_option maxRecDepth 20000 in
theorem gL_law_X4_init : GoodIn wsL_law (wsX4_init) := ggL_law_X4_init
set_option maxRecDepth 20000 in
theorem ggL_law_X5_init : GoodIn wsL_law wsX5_init := goodIn_r _ [59, 60, 11, 12, 29, 61, 62, 63, 64, 55, 65, 66, 67, 68, 896, 897, 898, 899, 900, 901, 902, 903, 904, 905, 906, 907, 908, 909, 910] (by decide +kernel) (by decide +kernel)
set_option maxRecDepth 20000 in
theorem gL_law_X5_init : GoodIn wsL_law (wsX5_init) := ggL_law_X5_init
set_option maxRecDepth 20000 in
theorem ggL_law_X4_type : GoodIn wsL_law wsX4_type := goodIn_r _ [72, 16, 73, 74, 75, 76, 15, 77, 78, 79, 80, 81, 82, 30, 891, 892, 893, 894, 895, 911, 912, 913, 914] (by decide +kernel) (by decide +kernel)
set_option maxRecDepth 20000 in
theorem gL_law_X4_type : GoodIn wsL_law (wsV RL 13 RX4 yX4_type wsX4_type) := goodIn_app (goodIn_of _ (by decide +kernel)) ggL_law_X4_type
set_option maxRecDepth 20000 in
theorem ggL_law_X5_type : GoodIn wsL_law wsX5_type := goodIn_r _ [86, 87, 88, 89, 62, 90, 91, 5, 92, 896, 897, 898, 899, 900, 901, 902, 903, 904, 905, 906, 907, 908, 909, 910] (by decide +kernel) (by decide +kernel)
set_option maxRecDepth 20000 in
theorem gL_law_X5_type : GoodIn wsL_law (wsV RL 17 RX5 yX5_type wsX5_type) := goodIn_app (goodIn_of _ (by decide +kernel)) ggL_law_X5_type
set_option maxRecDepth 20000 in
theorem ggL_law_X4_set : GoodIn wsL_law wsX4_set := goodIn_r _ [96, 16, 73, 20, 97, 98, 99, 100, 15, 101, 102, 34, 103, 104, 105, 106, 33, 107, 108, 109, 38, 39, 110, 111, 112, 113, 114, 115, 116, 117, 118, 119, 120, 121, 78, 30, 122, 123, 124, 125, 126, 127, 128, 129, 130, 131, 132, 133, 134, 135, 136, 137, 138, 139, 140, 141, 142, 143, 144, 145, 146, 147, 148, 149, 150, 151, 152, 153, 154, 155, 156, 157, 158, 159, 160, 161, 162, 163, 164, 165, 166, 167, 168, 169, 170, 171, 172, 173, 174, 175, 176, 177, 178, 179, 180, 181, 182, 183, 184, 185, 186, 187, 188, 189, 190, 191, 192, 193, 194, 195, 196, 197, 198, 199, 200, 201, 202, 203, 204, 205, 206, 207, 208, 209, 210, 211, 212, 213, 214, 215, 216, 217, 218, 219, 220, 221, 222, 223, 224, 225, 41, 226, 2, 227, 228, 229, 230, 231, 40, 232, 233, 234, 235, 42, 236, 237, 238, 19, 239, 47, 48, 240, 241, 242, 243, 244, 245, 246, 247, 248, 891, 892, 893, 894, 895, 911, 912, 913, 914, 926, 927, 928, 929, 930, 931, 932, 915, 916, 917, 918, 919, 920, 921] (by decide +kernel) (by decide +kernel)
set_option maxRecDepth 20000 in
theorem gL_law_X4_set : GoodIn wsL_law (wsV RL 18 RX4 yX4_set wsX4_set) := goodIn_app (goodIn_of _ (by decide +kernel)) ggL_law_X4_set
set_option maxRecDepth 20000 in
theorem ggL_law_X5_set : GoodIn wsL_law wsX5_set := goodIn_r _ [252, 89, 253, 61, 254, 255, 67, 256, 257, 258, 5, 259, 260, 261, 262, 263, 264, 265, 266, 267, 268, 269, 270, 271, 62, 272, 273, 274, 275, 276, 277, 278, 90, 91, 92, 279, 280, 281, 282, 283, 284, 285, 286, 287, 896, 897, 898, 899, 900, 901, 902, 903, 904, 905, 906, 907, 908, 909, 910] (by decide +kernel) (by decide +kernel)
set_option maxRecDepth 20000 in
theorem gL_law_X5_set : GoodIn wsL_law (wsV RL 22 RX5 yX5_set wsX5_set) := goodIn_app (goodIn_of _ (by decide +kernel)) ggL_law_X5_set
set_option maxRecDepth 20000 in
theorem ggL_law_X4_of : GoodIn wsL_law wsX4_of := goodIn_r _ [291, 20, 292, 293, 294, 295, 296, 297, 298, 2, 299, 300, 301, 302, 303, 304, 305, 306, 33, 307, 41, 308, 309, 310, 311, 312, 313, 314, 315, 40, 316, 317, 318, 319, 320, 321, 322, 151, 152, 153, 323, 324, 325, 891, 892, 893, 894, 895, 915, 916, 917, 918, 919, 920, 921, 926, 927, 928, 929, 930, 931, 932] (by decide +kernel) (by decide +kernel)
set_option maxRecDepth 20000 in
theorem gL_law_X4_of : GoodIn wsL_law (wsV RL 23 RX4 yX4_of wsX4_of) := goodIn_app (goodIn_of _ (by decide +kernel)) ggL_law_X4_of
set_option maxRecDepth 20000 in
theorem ggL_law_X5_of : GoodIn wsL_law wsX5_of := goodIn_r _ [329, 61, 330, 331, 332, 5, 333, 90, 91, 92, 334, 335, 336, 337, 338, 339, 340, 341, 342, 343, 344, 345, 346, 347, 348, 349, 350, 896, 897, 898, 899, 900, 901, 902, 903, 904, 905, 906, 907, 908, 909, 910] (by decide +kernel) (by decide +kernel)
set_option maxRecDepth 20000 in
theorem gL_law_X5_of : GoodIn wsL_law (wsV RL 27 RX5 yX5_of wsX5_of) := goodIn_app (goodIn_of _ (by decide +kernel)) ggL_law_X5_of
set_option maxRecDepth 20000 in
theorem ggL_law_X4_rest : GoodIn wsL_law wsX4_rest := goodIn_r _ [354, 20, 355, 356, 2, 357, 301, 302, 303, 296, 297, 298, 299, 292, 300, 358, 359, 360, 19, 361, 48, 891, 892, 893, 894, 895, 915, 916, 917, 918, 919, 920, 921, 926, 927, 928, 929, 930, 931, 932] (by decide +kernel) (by decide +kernel)
set_option maxRecDepth 20000 in
theorem gL_law_X4_rest : GoodIn wsL_law (wsV RL 28 RX4 yX4_rest wsX4_rest) := goodIn_app (goodIn_of _ (by decide +kernel)) ggL_law_X4_rest
set_option maxRecDepth 20000 in
theorem ggL_law_X5_rest : GoodIn wsL_law wsX5_rest := goodIn_r _ [365, 61, 366, 367, 5, 368, 369, 90, 91, 92, 330, 331, 332, 333, 896, 897, 898, 899, 900, 901, 902, 903, 904, 905, 906, 907, 908, 909, 910] (by decide +kernel) (by decide +kernel)
set_option maxRecDepth 20000 in
theorem gL_law_X5_rest : GoodIn wsL_law (wsV RL 31 RX5 yX5_rest wsX5_rest) := goodIn_app (goodIn_of _ (by decide +kernel)) ggL_law_X5_rest
set_option maxRecDepth 20000 in
theorem ggL_law_X4_at : GoodIn wsL_law wsX4_at := goodIn_r _ [373, 20, 355, 356, 2, 357, 301, 302, 303, 374, 375, 376, 19, 377, 47, 378, 379, 380, 381, 359, 360, 361, 48, 382, 383, 384, 385, 386, 387, 891, 892, 893, 894, 895, 915, 916, 917, 918, 919, 920, 921, 926, 927, 928, 929, 930, 931, 932] (by decide +kernel) (by decide +kernel)
set_option maxRecDepth 20000 in
theorem gL_law_X4_at : GoodIn wsL_law (wsV RL 32 RX4 yX4_at wsX4_at) := goodIn_app (goodIn_of _ (by decide +kernel)) ggL_law_X4_at
set_option maxRecDepth 20000 in
theorem ggL_law_X5_at : GoodIn wsL_law wsX5_at := goodIn_r _ [391, 366, 367, 5, 368, 369, 90, 91, 92, 392, 393, 394, 395, 396, 397, 398, 399, 66, 61, 400, 401, 402, 403, 404, 405, 406, 407, 408, 409, 410, 411, 412, 413, 414, 415, 896, 897, 898, 899, 900, 901, 902, 903, 904, 905, 906, 907, 908, 909, 910] (by decide +kernel) (by decide +kernel)
set_option maxRecDepth 20000 in
theorem gL_law_X5_at : GoodIn wsL_law (wsV RL 35 RX5 yX5_at wsX5_at) := goodIn_app (goodIn_of _ (by decide +kernel)) ggL_law_X5_at
set_option maxRecDepth 20000 in
theorem ggL_law_X4_shows : GoodIn wsL_law wsX4_shows := goodIn_r _ [419, 20, 292, 294, 296, 297, 298, 2, 299, 300, 301, 302, 303, 420, 313, 314, 33, 315, 40, 41, 316, 317, 318, 319, 320, 321, 322, 151, 152, 153, 323, 324, 325, 421, 422, 423, 424, 425, 426, 427, 428, 312, 891, 892, 893, 894, 895, 915, 916, 917, 918, 919, 920, 921, 926, 927, 928, 929, 930, 931, 932] (by decide +kernel) (by decide +kernel)
set_option maxRecDepth 20000 in
theorem gL_law_X4_shows : GoodIn wsL_law (wsV RL 36 RX4 yX4_shows wsX4_shows) := goodIn_app (goodIn_of _ (by decide +kernel)) ggL_law_X4_shows
set_option maxRecDepth 20000 in
theorem ggL_law_X5_shows : GoodIn wsL_law wsX5_shows := goodIn_r _ [432, 61, 330, 331, 332, 5, 333, 90, 91, 92, 338, 339, 340, 341, 342, 343, 344, 345, 346, 347, 348, 349, 350, 433, 434, 435, 436, 896, 897, 898, 899, 900, 901, 902, 903, 904, 905, 906, 907, 908, 909, 910] (by decide +kernel) (by decide +kernel)
set_option maxRecDepth 20000 in
theorem gL_law_X5_shows : GoodIn wsL_law (wsV RL 40 RX5 yX5_shows wsX5_shows) := goodIn_app (goodIn_of _ (by decide +kernel)) ggL_law_X5_shows
set_option maxRecDepth 20000 in
theorem ggL_law_X4_count : GoodIn wsL_law wsX4_count := goodIn_r _ [440, 20, 292, 300, 295, 441, 442, 443, 444, 445, 446, 19, 447, 448, 383, 384, 385, 47, 386, 387, 375, 376, 377, 378, 379, 380, 381, 359, 360, 361, 48, 449, 450, 451, 33, 452, 108, 40, 891, 892, 893, 894, 895, 915, 916, 917, 918, 919, 920, 921, 926, 927, 928, 929, 930, 931, 932] (by decide +kernel) (by decide +kernel)
set_option maxRecDepth 20000 in
theorem gL_law_X4_count : GoodIn wsL_law (wsV RL 41 RX4 yX4_count wsX4_count) := goodIn_app (goodIn_of _ (by decide +kernel)) ggL_law_X4_count
set_option maxRecDepth 20000 in
theorem ggL_law_X5_count : GoodIn wsL_law wsX5_count := goodIn_r _ [456, 61, 408, 409, 410, 5, 411, 412, 413, 414, 415, 457, 458, 459, 460, 461, 462, 463, 464, 404, 405, 406, 407, 392, 393, 394, 395, 396, 397, 398, 399, 66, 400, 401, 402, 403, 465, 466, 467, 468, 896, 897, 898, 899, 900, 901, 902, 903, 904, 905, 906, 907, 908, 909, 910] (by decide +kernel) (by decide +kernel)
set_option maxRecDepth 20000 in
theorem gL_law_X5_count : GoodIn wsL_law (wsV RL 44 RX5 yX5_count wsX5_count) := goodIn_app (goodIn_of _ (by decide +kernel)) ggL_law_X5_count
set_option maxRecDepth 20000 in
theorem ggL_law_X4_lay : GoodIn wsL_law wsX4_lay := goodIn_r _ [472, 20, 292, 442, 355, 356, 2, 357, 301, 302, 303, 374, 375, 376, 19, 377, 47, 378, 379, 380, 381, 359, 360, 361, 48, 473, 474, 475, 476, 50, 477, 478, 246, 247, 248, 51, 49, 240, 479, 155, 152, 156, 480, 481, 482, 483, 484, 485, 486, 487, 488, 891, 892, 893, 894, 895, 915, 916, 917, 918, 919, 920, 921, 926, 927, 928, 929, 930, 931, 932] (by decide +kernel) (by decide +kernel)
set_option maxRecDepth 20000 in
theorem gL_law_X4_lay : GoodIn wsL_law (wsV RL 45 RX4 yX4_lay wsX4_lay) := goodIn_app (goodIn_of _ (by decide +kernel)) ggL_law_X4_lay
set_option maxRecDepth 20000 in
theorem ggL_law_X5_lay : GoodIn wsL_law wsX5_lay := goodIn_r _ [492, 366, 367, 5, 368, 369, 90, 91, 92, 457, 458, 459, 460, 61, 412, 413, 414, 415, 392, 393, 394, 395, 396, 397, 398, 399, 66, 400, 401, 402, 403, 493, 494, 495, 496, 497, 498, 499, 500, 896, 897, 898, 899, 900, 901, 902, 903, 904, 905, 906, 907, 908, 909, 910] (by decide +kernel) (by decide +kernel)
set_option maxRecDepth 20000 in
theorem gL_law_X5_lay : GoodIn wsL_law (wsV RL 48 RX5 yX5_lay wsX5_lay) := goodIn_app (goodIn_of _ (by decide +kernel)) ggL_law_X5_lay
set_option maxRecDepth 20000 in
theorem ggL_law_X4_add : GoodIn wsL_law wsX4_add := goodIn_r _ [504, 20, 355, 356, 2, 357, 301, 302, 303, 473, 474, 475, 19, 476, 48, 50, 477, 478, 246, 247, 248, 51, 49, 240, 479, 155, 152, 156, 505, 506, 507, 508, 47, 378, 381, 359, 360, 361, 509, 313, 314, 33, 315, 40, 41, 316, 317, 318, 319, 320, 321, 322, 151, 153, 323, 324, 325, 485, 486, 487, 488, 374, 375, 376, 377, 379, 380, 891, 892, 893, 894, 895, 915, 916, 917, 918, 919, 920, 921, 926, 927, 928, 929, 930, 931, 932] (by decide +kernel) (by decide +kernel)
set_option maxRecDepth 20000 in
theorem gL_law_X4_add : GoodIn wsL_law (wsV RL 49 RX4 yX4_add wsX4_add) := goodIn_app (goodIn_of _ (by decide +kernel)) ggL_law_X4_add
set_option maxRecDepth 20000 in
theorem ggL_law_X5_add : GoodIn wsL_law wsX5_add := goodIn_r _ [513, 366, 367, 5, 368, 369, 90, 91, 92, 493, 494, 495, 496, 61, 514, 515, 516, 517, 338, 339, 340, 341, 342, 343, 344, 345, 346, 347, 348, 349, 350, 392, 393, 394, 395, 396, 397, 398, 399, 66, 400, 401, 402, 403, 896, 897, 898, 899, 900, 901, 902, 903, 904, 905, 906, 907, 908, 909, 910] (by decide +kernel) (by decide +kernel)
set_option maxRecDepth 20000 in
theorem gL_law_X5_add : GoodIn wsL_law (wsV RL 52 RX5 yX5_add wsX5_add) := goodIn_app (goodIn_of _ (by decide +kernel)) ggL_law_X5_add
set_option maxRecDepth 20000 in
theorem ggL_law_X4_times : GoodIn wsL_law wsX4_times := goodIn_r _ [521, 20, 355, 356, 2, 357, 301, 302, 303, 473, 474, 475, 19, 476, 48, 50, 477, 478, 246, 247, 248, 51, 49, 240, 479, 155, 152, 156, 522, 523, 524, 525, 47, 378, 381, 359, 360, 361, 526, 422, 423, 33, 424, 425, 426, 427, 428, 312, 313, 314, 315, 40, 41, 316, 317, 318, 319, 320, 321, 322, 151, 153, 323, 324, 325, 485, 486, 487, 488, 374, 375, 376, 377, 379, 380, 891, 892, 893, 894, 895, 915, 916, 917, 918, 919, 920, 921, 926, 927, 928, 929, 930, 931, 932] (by decide +kernel) (by decide +kernel)
set_option maxRecDepth 20000 in
theorem gL_law_X4_times : GoodIn wsL_law (wsV RL 53 RX4 yX4_times wsX4_times) := goodIn_app (goodIn_of _ (by decide +kernel)) ggL_law_X4_times
set_option maxRecDepth 20000 in
theorem ggL_law_X5_times : GoodIn wsL_law wsX5_times := goodIn_r _ [530, 61, 366, 367, 5, 368, 369, 90, 91, 92, 493, 494, 495, 496, 433, 434, 435, 436, 338, 339, 340, 341, 342, 343, 344, 345, 346, 347, 348, 349, 350, 392, 393, 394, 395, 396, 397, 398, 399, 66, 400, 401, 402, 403, 896, 897, 898, 899, 900, 901, 902, 903, 904, 905, 906, 907, 908, 909, 910] (by decide +kernel) (by decide +kernel)
set_option maxRecDepth 20000 in
theorem gL_law_X5_times : GoodIn wsL_law (wsV RL 56 RX5 yX5_times wsX5_times) := goodIn_app (goodIn_of _ (by decide +kernel)) ggL_law_X5_times
set_option maxRecDepth 20000 in
theorem ggL_law_X4_negate : GoodIn wsL_law wsX4_negate := goodIn_r _ [534, 20, 355, 356, 2, 357, 301, 302, 303, 473, 474, 475, 19, 476, 48, 50, 477, 478, 246, 247, 248, 51, 49, 240, 479, 155, 152, 156, 535, 536, 537, 538, 47, 378, 484, 381, 359, 360, 361, 485, 486, 487, 488, 374, 375, 376, 377, 379, 380, 891, 892, 893, 894, 895, 915, 916, 917, 918, 919, 920, 921, 926, 927, 928, 929, 930, 931, 932] (by decide +kernel) (by decide +kernel)
set_option maxRecDepth 20000 in
theorem gL_law_X4_negate : GoodIn wsL_law (wsV RL 57 RX4 yX4_negate wsX4_negate) := goodIn_app (goodIn_of _ (by decide +kernel)) ggL_law_X4_negate
set_option maxRecDepth 20000 in
theorem ggL_law_X5_negate : GoodIn wsL_law wsX5_negate := goodIn_r _ [542, 61, 366, 367, 5, 368, 369, 90, 91, 92, 493, 494, 495, 496, 392, 393, 394, 395, 396, 397, 398, 399, 66, 400, 401, 402, 403, 896, 897, 898, 899, 900, 901, 902, 903, 904, 905, 906, 907, 908, 909, 910] (by decide +kernel) (by decide +kernel)
set_option maxRecDepth 20000 in
theorem gL_law_X5_negate : GoodIn wsL_law (wsV RL 60 RX5 yX5_negate wsX5_negate) := goodIn_app (goodIn_of _ (by decide +kernel)) ggL_law_X5_negate
set_option maxRecDepth 20000 in
theorem ggL_law_X4_slip : GoodIn wsL_law wsX4_slip := goodIn_r _ [546, 20, 292, 294, 355, 356, 2, 357, 301, 302, 303, 296, 297, 298, 299, 300, 358, 359, 360, 19, 361, 48, 473, 474, 475, 476, 50, 477, 478, 246, 247, 248, 51, 49, 240, 479, 155, 152, 156, 547, 486, 487, 488, 891, 892, 893, 894, 895, 915, 916, 917, 918, 919, 920, 921, 926, 927, 928, 929, 930, 931, 932] (by decide +kernel) (by decide +kernel)
set_option maxRecDepth 20000 in
theorem gL_law_X4_slip : GoodIn wsL_law (wsV RL 61 RX4 yX4_slip wsX4_slip) := goodIn_app (goodIn_of _ (by decide +kernel)) ggL_law_X4_slip
set_option maxRecDepth 20000 in
theorem ggL_law_X5_slip : GoodIn wsL_law wsX5_slip := goodIn_r _ [551, 61, 366, 367, 5, 368, 369, 90, 91, 92, 330, 331, 332, 333, 493, 494, 495, 496, 896, 897, 898, 899, 900, 901, 902, 903, 904, 905, 906, 907, 908, 909, 910] (by decide +kernel) (by decide +kernel)
set_option maxRecDepth 20000 in
theorem gL_law_X5_slip : GoodIn wsL_law (wsV RL 65 RX5 yX5_slip wsX5_slip) := goodIn_app (goodIn_of _ (by decide +kernel)) ggL_law_X5_slip
set_option maxRecDepth 20000 in
theorem ggL_law_X4_take : GoodIn wsL_law wsX4_take := goodIn_r _ [555, 20, 355, 356, 2, 357, 301, 302, 303, 473, 474, 475, 19, 476, 48, 50, 477, 478, 246, 247, 248, 51, 49, 240, 479, 155, 152, 156, 556, 557, 558, 559, 47, 378, 381, 359, 360, 361, 485, 486, 487, 488, 374, 375, 376, 377, 379, 380, 891, 892, 893, 894, 895, 915, 916, 917, 918, 919, 920, 921, 926, 927, 928, 929, 930, 931, 932] (by decide +kernel) (by decide +kernel)
set_option maxRecDepth 20000 in
theorem gL_law_X4_take : GoodIn wsL_law (wsV RL 66 RX4 yX4_take wsX4_take) := goodIn_app (goodIn_of _ (by decide +kernel)) ggL_law_X4_take
set_option maxRecDepth 20000 in
theorem ggL_law_X5_take : GoodIn wsL_law wsX5_take := goodIn_r _ [563, 61, 366, 367, 5, 368, 369, 90, 91, 92, 493, 494, 495, 496, 392, 393, 394, 395, 396, 397, 398, 399, 66, 400, 401, 402, 403, 896, 897, 898, 899, 900, 901, 902, 903, 904, 905, 906, 907, 908, 909, 910] (by decide +kernel) (by decide +kernel)
set_option maxRecDepth 20000 in
theorem gL_law_X5_take : GoodIn wsL_law (wsV RL 69 RX5 yX5_take wsX5_take) := goodIn_app (goodIn_of _ (by decide +kernel)) ggL_law_X5_take
set_option maxRecDepth 20000 in
theorem ggL_law_X4_drift : GoodIn wsL_law wsX4_drift := goodIn_r _ [567, 20, 473, 474, 475, 19, 476, 48, 50, 477, 478, 246, 247, 248, 51, 49, 240, 479, 155, 152, 156, 568, 569, 570, 571, 572, 573, 574, 47, 378, 484, 575, 506, 507, 508, 381, 359, 360, 361, 509, 313, 314, 33, 315, 40, 41, 316, 317, 318, 319, 320, 321, 322, 151, 153, 323, 324, 325, 485, 486, 487, 488, 444, 445, 446, 447, 448, 383, 384, 385, 386, 387, 375, 376, 377, 379, 380, 891, 892, 893, 894, 895, 915, 916, 917, 918, 919, 920, 921, 926, 927, 928, 929, 930, 931, 932] (by decide +kernel) (by decide +kernel)
set_option maxRecDepth 20000 in
theorem gL_law_X4_drift : GoodIn wsL_law (wsV RL 70 RX4 yX4_drift wsX4_drift) := goodIn_app (goodIn_of _ (by decide +kernel)) ggL_law_X4_drift
set_option maxRecDepth 20000 in
theorem ggL_law_X5_drift : GoodIn wsL_law wsX5_drift := goodIn_r _ [579, 580, 90, 91, 5, 92, 581, 582, 583, 584, 61, 585, 586, 587, 493, 494, 495, 496, 514, 515, 516, 517, 338, 339, 340, 341, 342, 343, 344, 345, 346, 347, 348, 349, 350, 461, 462, 463, 464, 404, 405, 406, 407, 392, 393, 394, 395, 396, 397, 398, 399, 66, 400, 401, 402, 403, 408, 409, 410, 411, 412, 413, 414, 415, 896, 897, 898, 899, 900, 901, 902, 903, 904, 905, 906, 907, 908, 909, 910] (by decide +kernel) (by decide +kernel)
set_option maxRecDepth 20000 in
theorem gL_law_X5_drift : GoodIn wsL_law (wsV RL 73 RX5 yX5_drift wsX5_drift) := goodIn_app (goodIn_of _ (by decide +kernel)) ggL_law_X5_drift
set_option maxRecDepth 20000 in
theorem ggL_law_X4_undo : GoodIn wsL_law wsX4_undo := goodIn_r _ [591, 20, 443, 592, 593, 594, 19, 595, 240, 477, 50, 48, 478, 246, 247, 248, 51, 49, 891, 892, 893, 894, 895, 915, 916, 917, 918, 919, 920, 921] (by decide +kernel) (by decide +kernel)
set_option maxRecDepth 20000 in
theorem gL_law_X4_undo : GoodIn wsL_law (wsV RL 74 RX4 yX4_undo wsX4_undo) := goodIn_app (goodIn_of _ (by decide +kernel)) ggL_law_X4_undo
set_option maxRecDepth 20000 in
theorem ggL_law_X5_undo : GoodIn wsL_law wsX5_undo := goodIn_r _ [599, 61, 896, 897, 898, 899, 900, 901, 902, 903, 904, 905, 906, 907, 908, 909, 910] (by decide +kernel) (by decide +kernel)
set_option maxRecDepth 20000 in
theorem gL_law_X5_undo : GoodIn wsL_law (wsV RL 77 RX5 yX5_undo wsX5_undo) := goodIn_app (goodIn_of _ (by decide +kernel)) ggL_law_X5_undo
set_option maxRecDepth 20000 in
theorem ggL_law_X4_seed : GoodIn wsL_law wsX4_seed := goodIn_r _ [603, 20, 604, 891, 892, 893, 894, 895, 915, 916, 917, 918, 919, 920, 921] (by decide +kernel) (by decide +kernel)
set_option maxRecDepth 20000 in
theorem gL_law_X4_seed : GoodIn wsL_law (wsV RL 78 RX4 yX4_seed wsX4_seed) := goodIn_app (goodIn_of _ (by decide +kernel)) ggL_law_X4_seed
set_option maxRecDepth 20000 in
theorem ggL_law_X5_seed : GoodIn wsL_law wsX5_seed := goodIn_r _ [608, 61, 896, 897, 898, 899, 900, 901, 902, 903, 904, 905, 906, 907, 908, 909, 910] (by decide +kernel) (by decide +kernel)
set_option maxRecDepth 20000 in
theorem gL_law_X5_seed : GoodIn wsL_law (wsV RL 81 RX5 yX5_seed wsX5_seed) := goodIn_app (goodIn_of _ (by decide +kernel)) ggL_law_X5_seed
set_option maxRecDepth 20000 in
theorem ggL_law_X4_figure : GoodIn wsL_law wsX4_figure := goodIn_r _ [612, 20, 292, 355, 356, 2, 357, 301, 302, 303, 296, 297, 298, 299, 300, 374, 375, 376, 19, 377, 47, 378, 379, 380, 381, 359, 360, 361, 48, 613, 614, 615, 33, 616, 41, 891, 892, 893, 894, 895, 915, 916, 917, 918, 919, 920, 921, 926, 927, 928, 929, 930, 931, 932] (by decide +kernel) (by decide +kernel)
set_option maxRecDepth 20000 in
theorem gL_law_X4_figure : GoodIn wsL_law (wsV RL 82 RX4 yX4_figure wsX4_figure) := goodIn_app (goodIn_of _ (by decide +kernel)) ggL_law_X4_figure
set_option maxRecDepth 20000 in
theorem ggL_law_X5_figure : GoodIn wsL_law wsX5_figure := goodIn_r _ [620, 61, 366, 367, 5, 368, 369, 90, 91, 92, 330, 331, 332, 333, 392, 393, 394, 395, 396, 397, 398, 399, 66, 400, 401, 402, 403, 412, 413, 414, 415, 896, 897, 898, 899, 900, 901, 902, 903, 904, 905, 906, 907, 908, 909, 910] (by decide +kernel) (by decide +kernel)
set_option maxRecDepth 20000 in
theorem gL_law_X5_figure : GoodIn wsL_law (wsV RL 85 RX5 yX5_figure wsX5_figure) := goodIn_app (goodIn_of _ (by decide +kernel)) ggL_law_X5_figure
set_option maxRecDepth 20000 in
theorem ggL_law_X4_order : GoodIn wsL_law wsX4_order := goodIn_r _ [624, 20, 355, 356, 2, 357, 301, 302, 303, 374, 375, 376, 19, 377, 47, 378, 379, 380, 381, 359, 360, 361, 48, 625, 626, 627, 628, 891, 892, 893, 894, 895, 915, 916, 917, 918, 919, 920, 921, 926, 927, 928, 929, 930, 931, 932] (by decide +kernel) (by decide +kernel)
set_option maxRecDepth 20000 in
theorem gL_law_X4_order : GoodIn wsL_law (wsV RL 86 RX4 yX4_order wsX4_order) := goodIn_app (goodIn_of _ (by decide +kernel)) ggL_law_X4_order
set_option maxRecDepth 20000 in
theorem ggL_law_X5_order : GoodIn wsL_law wsX5_order := goodIn_r _ [632, 366, 367, 5, 368, 369, 90, 91, 92, 392, 393, 394, 395, 396, 397, 398, 399, 66, 61, 400, 401, 402, 403, 896, 897, 898, 899, 900, 901, 902, 903, 904, 905, 906, 907, 908, 909, 910] (by decide +kernel) (by decide +kernel)
set_option maxRecDepth 20000 in
theorem gL_law_X5_order : GoodIn wsL_law (wsV RL 89 RX5 yX5_order wsX5_order) := goodIn_app (goodIn_of _ (by decide +kernel)) ggL_law_X5_order
set_option maxRecDepth 20000 in
theorem ggL_law_X4_blame : GoodIn wsL_law wsX4_blame := goodIn_r _ [636, 20, 292, 355, 356, 2, 357, 301, 302, 303, 374, 375, 376, 19, 377, 47, 378, 379, 380, 381, 359, 360, 361, 48, 637, 638, 639, 33, 640, 38, 108, 39, 41, 891, 892, 893, 894, 895, 915, 916, 917, 918, 919, 920, 921, 926, 927, 928, 929, 930, 931, 932] (by decide +kernel) (by decide +kernel)
set_option maxRecDepth 20000 in
theorem gL_law_X4_blame : GoodIn wsL_law (wsV RL 90 RX4 yX4_blame wsX4_blame) := goodIn_app (goodIn_of _ (by decide +kernel)) ggL_law_X4_blame
set_option maxRecDepth 20000 in
theorem ggL_law_X5_blame : GoodIn wsL_law wsX5_blame := goodIn_r _ [644, 61, 66, 366, 367, 5, 368, 369, 90, 91, 92, 404, 405, 406, 407, 392, 393, 394, 395, 396, 397, 398, 399, 400, 401, 402, 403, 408, 409, 410, 411, 412, 413, 414, 415, 896, 897, 898, 899, 900, 901, 902, 903, 904, 905, 906, 907, 908, 909, 910] (by decide +kernel) (by decide +kernel)
set_option maxRecDepth 20000 in
theorem gL_law_X5_blame : GoodIn wsL_law (wsV RL 93 RX5 yX5_blame wsX5_blame) := goodIn_app (goodIn_of _ (by decide +kernel)) ggL_law_X5_blame
set_option maxRecDepth 20000 in
theorem ggL_law_X4_nearest : GoodIn wsL_law wsX4_nearest := goodIn_r _ [648, 20, 292, 300, 355, 356, 2, 357, 301, 302, 303, 374, 375, 376, 19, 377, 47, 378, 379, 380, 381, 359, 360, 361, 48, 649, 650, 651, 33, 652, 108, 38, 322, 151, 152, 153, 653, 654, 655, 656, 41, 657, 658, 659, 660, 661, 627, 662, 663, 664, 665, 666, 667, 668, 669, 670, 155, 156, 891, 892, 893, 894, 895, 915, 916, 917, 918, 919, 920, 921, 926, 927, 928, 929, 930, 931, 932] (by decide +kernel) (by decide +kernel)
set_option maxRecDepth 20000 in
theorem gL_law_X4_nearest : GoodIn wsL_law (wsV RL 94 RX4 yX4_nearest wsX4_nearest) := goodIn_app (goodIn_of _ (by decide +kernel)) ggL_law_X4_nearest
set_option maxRecDepth 20000 in
theorem ggL_law_X5_nearest : GoodIn wsL_law wsX5_nearest := goodIn_r _ [674, 675, 61, 366, 367, 5, 368, 369, 90, 91, 92, 408, 409, 410, 411, 412, 413, 414, 415, 896, 897, 898, 899, 900, 901, 902, 903, 904, 905, 906, 907, 908, 909, 910] (by decide +kernel) (by decide +kernel)
set_option maxRecDepth 20000 in
theorem gL_law_X5_nearest : GoodIn wsL_law (wsV RL 97 RX5 yX5_nearest wsX5_nearest) := goodIn_app (goodIn_of _ (by decide +kernel)) ggL_law_X5_nearest
set_option maxRecDepth 20000 in
theorem ggL_law_X4_apart : GoodIn wsL_law wsX4_apart := goodIn_r _ [679, 20, 292, 441, 680, 681, 682, 33, 683, 108, 38, 322, 151, 152, 153, 653, 654, 655, 656, 41, 657, 658, 659, 660, 661, 627, 662, 663, 664, 665, 891, 892, 893, 894, 895, 915, 916, 917, 918, 919, 920, 921, 926, 927, 928, 929, 930, 931, 932] (by decide +kernel) (by decide +kernel)
set_option maxRecDepth 20000 in
theorem gL_law_X4_apart : GoodIn wsL_law (wsV RL 98 RX4 yX4_apart wsX4_apart) := goodIn_app (goodIn_of _ (by decide +kernel)) ggL_law_X4_apart
set_option maxRecDepth 20000 in
theorem ggL_law_X5_apart : GoodIn wsL_law wsX5_apart := goodIn_r _ [687, 675, 61, 408, 409, 410, 5, 411, 412, 413, 414, 415, 896, 897, 898, 899, 900, 901, 902, 903, 904, 905, 906, 907, 908, 909, 910] (by decide +kernel) (by decide +kernel)
set_option maxRecDepth 20000 in
theorem gL_law_X5_apart : GoodIn wsL_law (wsV RL 101 RX5 yX5_apart wsX5_apart) := goodIn_app (goodIn_of _ (by decide +kernel)) ggL_law_X5_apart
set_option maxRecDepth 20000 in
theorem ggL_law_X4_sum : GoodIn wsL_law wsX4_sum := goodIn_r _ [691, 20, 292, 355, 356, 2, 357, 301, 302, 303, 296, 297, 298, 299, 300, 358, 359, 360, 19, 361, 48, 692, 426, 427, 33, 428, 312, 313, 314, 315, 40, 41, 316, 317, 318, 319, 320, 321, 322, 151, 152, 153, 323, 324, 325, 891, 892, 893, 894, 895, 915, 916, 917, 918, 919, 920, 921, 926, 927, 928, 929, 930, 931, 932] (by decide +kernel) (by decide +kernel)
set_option maxRecDepth 20000 in
theorem gL_law_X4_sum : GoodIn wsL_law (wsV RL 102 RX4 yX4_sum wsX4_sum) := goodIn_app (goodIn_of _ (by decide +kernel)) ggL_law_X4_sum
set_option maxRecDepth 20000 in
theorem ggL_law_X5_sum : GoodIn wsL_law wsX5_sum := goodIn_r _ [696, 697, 61, 366, 367, 5, 368, 369, 90, 91, 92, 330, 331, 332, 333, 338, 339, 340, 341, 342, 343, 344, 345, 346, 347, 348, 349, 350, 896, 897, 898, 899, 900, 901, 902, 903, 904, 905, 906, 907, 908, 909, 910] (by decide +kernel) (by decide +kernel)
set_option maxRecDepth 20000 in
theorem gL_law_X5_sum : GoodIn wsL_law (wsV RL 105 RX5 yX5_sum wsX5_sum) := goodIn_app (goodIn_of _ (by decide +kernel)) ggL_law_X5_sum
set_option maxRecDepth 20000 in
theorem ggL_law_X4_again : GoodIn wsL_law wsX4_again := goodIn_r _ [701, 20, 292, 300, 355, 356, 2, 357, 301, 302, 303, 358, 359, 360, 19, 361, 48, 702, 703, 704, 33, 705, 41, 312, 313, 314, 315, 40, 316, 317, 318, 319, 320, 321, 322, 151, 152, 153, 323, 324, 325, 706, 226, 227, 891, 892, 893, 894, 895, 915, 916, 917, 918, 919, 920, 921, 926, 927, 928, 929, 930, 931, 932] (by decide +kernel) (by decide +kernel)
set_option maxRecDepth 20000 in
theorem gL_law_X4_again : GoodIn wsL_law (wsV RL 106 RX4 yX4_again wsX4_again) := goodIn_app (goodIn_of _ (by decide +kernel)) ggL_law_X4_again
set_option maxRecDepth 20000 in
theorem ggL_law_X5_again : GoodIn wsL_law wsX5_again := goodIn_r _ [710, 61, 66, 366, 367, 5, 368, 369, 90, 91, 92, 396, 397, 398, 399, 338, 339, 340, 341, 342, 343, 344, 345, 346, 347, 348, 349, 350, 896, 897, 898, 899, 900, 901, 902, 903, 904, 905, 906, 907, 908, 909, 910] (by decide +kernel) (by decide +kernel)
set_option maxRecDepth 20000 in
theorem gL_law_X5_again : GoodIn wsL_law (wsV RL 109 RX5 yX5_again wsX5_again) := goodIn_app (goodIn_of _ (by decide +kernel)) ggL_law_X5_again
set_option maxRecDepth 20000 in
theorem ggL_law_X4_should : GoodIn wsL_law wsX4_should := goodIn_r _ [714, 20, 355, 356, 2, 357, 301, 302, 303, 715, 716, 717, 19, 718, 47, 378, 381, 359, 360, 361, 48, 719, 309, 310, 33, 311, 41, 312, 313, 314, 315, 40, 316, 317, 318, 319, 320, 321, 322, 151, 152, 153, 323, 324, 325, 891, 892, 893, 894, 895, 915, 916, 917, 918, 919, 920, 921, 926, 927, 928, 929, 930, 931, 932] (by decide +kernel) (by decide +kernel)
set_option maxRecDepth 20000 in
theorem gL_law_X4_should : GoodIn wsL_law (wsV RL 110 RX4 yX4_should wsX4_should) := goodIn_app (goodIn_of _ (by decide +kernel)) ggL_law_X4_should
set_option maxRecDepth 20000 in
theorem ggL_law_X5_should : GoodIn wsL_law wsX5_should := goodIn_r _ [723, 61, 366, 367, 5, 368, 369, 90, 91, 92, 338, 339, 340, 341, 342, 343, 344, 345, 346, 347, 348, 349, 350, 896, 897, 898, 899, 900, 901, 902, 903, 904, 905, 906, 907, 908, 909, 910] (by decide +kernel) (by decide +kernel)
set_option maxRecDepth 20000 in
theorem gL_law_X5_should : GoodIn wsL_law (wsV RL 113 RX5 yX5_should wsX5_should) := goodIn_app (goodIn_of _ (by decide +kernel)) ggL_law_X5_should
set_option maxRecDepth 20000 in
theorem ggL_law_X4_unseen : GoodIn wsL_law wsX4_unseen := goodIn_r _ [727, 20, 292, 300, 355, 356, 2, 357, 301, 302, 303, 374, 375, 376, 19, 377, 47, 378, 379, 380, 381, 359, 360, 361, 48, 728, 729, 730, 33, 731, 108, 38, 732, 733, 734, 735, 42, 39, 657, 658, 659, 660, 661, 627, 662, 663, 664, 665, 736, 737, 738, 706, 226, 227, 891, 892, 893, 894, 895, 915, 916, 917, 918, 919, 920, 921, 926, 927, 928, 929, 930, 931, 932] (by decide +kernel) (by decide +kernel)
set_option maxRecDepth 20000 in
theorem gL_law_X4_unseen : GoodIn wsL_law (wsV RL 114 RX4 yX4_unseen wsX4_unseen) := goodIn_app (goodIn_of _ (by decide +kernel)) ggL_law_X4_unseen
set_option maxRecDepth 20000 in
theorem ggL_law_X5_unseen : GoodIn wsL_law wsX5_unseen := goodIn_r _ [742, 743, 61, 66, 366, 367, 5, 368, 369, 90, 91, 92, 408, 409, 410, 411, 412, 413, 414, 415, 396, 397, 398, 399, 744, 745, 746, 400, 401, 402, 403, 285, 286, 287, 896, 897, 898, 899, 900, 901, 902, 903, 904, 905, 906, 907, 908, 909, 910] (by decide +kernel) (by decide +kernel)
set_option maxRecDepth 20000 in
theorem gL_law_X5_unseen : GoodIn wsL_law (wsV RL 117 RX5 yX5_unseen wsX5_unseen) := goodIn_app (goodIn_of _ (by decide +kernel)) ggL_law_X5_unseen
set_option maxRecDepth 20000 in
theorem ggL_law_X4_image : GoodIn wsL_law wsX4_image := goodIn_r _ [750, 21, 20, 751, 752, 753, 754, 19, 755, 47, 49, 240, 477, 48, 478, 246, 247, 248, 50, 51, 241, 242, 243, 33, 244, 108, 109, 38, 39, 40, 245, 41, 42, 891, 892, 893, 894, 895, 915, 916, 917, 918, 919, 920, 921, 926, 927, 928, 929, 930, 931, 932] (by decide +kernel) (by decide +kernel)
set_option maxRecDepth 20000 in
theorem gL_law_X4_image : GoodIn wsL_law (wsV RL 118 RX4 yX4_image wsX4_image) := goodIn_app (goodIn_of _ (by decide +kernel)) ggL_law_X4_image
set_option maxRecDepth 20000 in
theorem ggL_law_X5_image : GoodIn wsL_law wsX5_image := goodIn_r _ [759, 61, 760, 896, 897, 898, 899, 900, 901, 902, 903, 904, 905, 906, 907, 908, 909, 910] (by decide +kernel) (by decide +kernel)
set_option maxRecDepth 20000 in
theorem gL_law_X5_image : GoodIn wsL_law (wsV RL 121 RX5 yX5_image wsX5_image) := goodIn_app (goodIn_of _ (by decide +kernel)) ggL_law_X5_image
set_option maxRecDepth 20000 in
theorem ggL_law_X4_restore : GoodIn wsL_law wsX4_restore := goodIn_r _ [764, 751, 20, 21, 752, 753, 754, 19, 755, 47, 49, 240, 477, 48, 478, 246, 247, 248, 50, 51, 241, 242, 243, 33, 244, 108, 109, 38, 39, 40, 245, 41, 42, 891, 892, 893, 894, 895, 915, 916, 917, 918, 919, 920, 921, 926, 927, 928, 929, 930, 931, 932] (by decide +kernel) (by decide +kernel)
set_option maxRecDepth 20000 in
theorem gL_law_X4_restore : GoodIn wsL_law (wsV RL 122 RX4 yX4_restore wsX4_restore) := goodIn_app (goodIn_of _ (by decide +kernel)) ggL_law_X4_restore
set_option maxRecDepth 20000 in
theorem ggL_law_X5_restore : GoodIn wsL_law wsX5_restore := goodIn_r _ [768, 760, 61, 896, 897, 898, 899, 900, 901, 902, 903, 904, 905, 906, 907, 908, 909, 910] (by decide +kernel) (by decide +kernel)
set_option maxRecDepth 20000 in
theorem gL_law_X5_restore : GoodIn wsL_law (wsV RL 125 RX5 yX5_restore wsX5_restore) := goodIn_app (goodIn_of _ (by decide +kernel)) ggL_law_X5_restore
set_option maxRecDepth 20000 in
theorem ggL_law_X4_rubbed : GoodIn wsL_law wsX4_rubbed := goodIn_r _ [772, 20, 292, 23, 300, 773, 774, 775, 2, 776, 301, 302, 303, 777, 778, 779, 780, 781, 782, 25, 783, 784, 785, 786, 787, 788, 789, 790, 791, 792, 793, 33, 794, 108, 795, 41, 42, 39, 38, 796, 797, 798, 799, 653, 654, 655, 656, 657, 658, 659, 800, 801, 802, 803, 804, 891, 892, 893, 894, 895, 915, 916, 917, 918, 919, 920, 921, 926, 927, 928, 929, 930, 931, 932, 922, 923, 924, 925] (by decide +kernel) (by decide +kernel)
set_option maxRecDepth 20000 in
theorem gL_law_X4_rubbed : GoodIn wsL_law (wsV RL 126 RX4 yX4_rubbed wsX4_rubbed) := goodIn_app (goodIn_of _ (by decide +kernel)) ggL_law_X4_rubbed
set_option maxRecDepth 20000 in
theorem ggL_law_X5_rubbed : GoodIn wsL_law wsX5_rubbed := goodIn_r _ [808, 61, 65, 809, 366, 367, 5, 368, 369, 90, 91, 92, 810, 811, 812, 813, 814, 815, 816, 63, 64, 408, 409, 410, 411, 412, 413, 414, 415, 896, 897, 898, 899, 900, 901, 902, 903, 904, 905, 906, 907, 908, 909, 910] (by decide +kernel) (by decide +kernel)
set_option maxRecDepth 20000 in
theorem gL_law_X5_rubbed : GoodIn wsL_law (wsV RL 129 RX5 yX5_rubbed wsX5_rubbed) := goodIn_app (goodIn_of _ (by decide +kernel)) ggL_law_X5_rubbed
set_option maxRecDepth 20000 in
theorem ggL_law_X4_seen : GoodIn wsL_law wsX4_seen := goodIn_r _ [820, 23, 20, 292, 294, 773, 296, 297, 298, 2, 299, 300, 301, 302, 303, 774, 775, 776, 777, 778, 779, 780, 781, 782, 25, 783, 784, 785, 786, 787, 788, 789, 790, 821, 822, 33, 823, 824, 825, 826, 316, 317, 318, 319, 320, 321, 322, 151, 152, 153, 323, 324, 325, 891, 892, 893, 894, 895, 915, 916, 917, 918, 919, 920, 921, 926, 927, 928, 929, 930, 931, 932, 922, 923, 924, 925] (by decide +kernel) (by decide +kernel)
set_option maxRecDepth 20000 in
theorem gL_law_X4_seen : GoodIn wsL_law (wsV RL 130 RX4 yX4_seen wsX4_seen) := goodIn_app (goodIn_of _ (by decide +kernel)) ggL_law_X4_seen
set_option maxRecDepth 20000 in
theorem ggL_law_X5_seen : GoodIn wsL_law wsX5_seen := goodIn_r _ [830, 831, 61, 330, 331, 332, 5, 333, 90, 91, 92, 366, 367, 368, 369, 810, 811, 812, 813, 814, 815, 816, 63, 64, 832, 833, 834, 835, 65, 342, 343, 344, 345, 346, 347, 348, 349, 350, 896, 897, 898, 899, 900, 901, 902, 903, 904, 905, 906, 907, 908, 909, 910] (by decide +kernel) (by decide +kernel)
set_option maxRecDepth 20000 in
theorem gL_law_X5_seen : GoodIn wsL_law (wsV RL 134 RX5 yX5_seen wsX5_seen) := goodIn_app (goodIn_of _ (by decide +kernel)) ggL_law_X5_seen
set_option maxRecDepth 20000 in
theorem ggL_law_X4_film : GoodIn wsL_law wsX4_film := goodIn_r _ [839, 23, 20, 292, 300, 773, 355, 356, 2, 357, 301, 302, 303, 774, 775, 776, 777, 778, 779, 780, 781, 782, 25, 783, 784, 785, 786, 787, 788, 789, 790, 358, 359, 360, 19, 361, 48, 891, 892, 893, 894, 895, 915, 916, 917, 918, 919, 920, 921, 926, 927, 928, 929, 930, 931, 932, 922, 923, 924, 925] (by decide +kernel) (by decide +kernel)
set_option maxRecDepth 20000 in
theorem gL_law_X4_film : GoodIn wsL_law (wsV RL 135 RX4 yX4_film wsX4_film) := goodIn_app (goodIn_of _ (by decide +kernel)) ggL_law_X4_film
set_option maxRecDepth 20000 in
theorem ggL_law_X5_film : GoodIn wsL_law wsX5_film := goodIn_r _ [843, 61, 65, 366, 367, 5, 368, 369, 90, 91, 92, 810, 811, 812, 813, 814, 815, 816, 63, 64, 896, 897, 898, 899, 900, 901, 902, 903, 904, 905, 906, 907, 908, 909, 910] (by decide +kernel) (by decide +kernel)
set_option maxRecDepth 20000 in
theorem gL_law_X5_film : GoodIn wsL_law (wsV RL 138 RX5 yX5_film wsX5_film) := goodIn_app (goodIn_of _ (by decide +kernel)) ggL_law_X5_film
set_option maxRecDepth 20000 in
theorem ggL_law_X4_sheet : GoodIn wsL_law wsX4_sheet := goodIn_r _ [847, 23, 774, 775, 2, 776, 301, 302, 303, 777, 778, 779, 848, 849, 850, 25, 851, 784, 785, 790, 56, 891, 892, 893, 894, 895, 922, 923, 924, 925] (by decide +kernel) (by decide +kernel)
set_option maxRecDepth 20000 in
theorem gL_law_X4_sheet : GoodIn wsL_law (wsV RL 139 RX4 yX4_sheet wsX4_sheet) := goodIn_app (goodIn_of _ (by decide +kernel)) ggL_law_X4_sheet
set_option maxRecDepth 20000 in
theorem ggL_law_X5_sheet : GoodIn wsL_law wsX5_sheet := goodIn_r _ [855, 63, 64, 65, 366, 367, 5, 368, 369, 90, 91, 92, 810, 811, 812, 896, 897, 898, 899, 900, 901, 902, 903, 904, 905, 906, 907, 908, 909, 910] (by decide +kernel) (by decide +kernel)
set_option maxRecDepth 20000 in
theorem gL_law_X5_sheet : GoodIn wsL_law (wsV RL 142 RX5 yX5_sheet wsX5_sheet) := goodIn_app (goodIn_of _ (by decide +kernel)) ggL_law_X5_sheet
set_option maxRecDepth 20000 in
theorem ggL_law_X4_drop : GoodIn wsL_law wsX4_drop := goodIn_r _ [859, 23, 860, 861, 774, 775, 2, 776, 301, 302, 303, 891, 892, 893, 894, 895, 922, 923, 924, 925] (by decide +kernel) (by decide +kernel)
set_option maxRecDepth 20000 in
theorem gL_law_X4_drop : GoodIn wsL_law (wsV RL 143 RX4 yX4_drop wsX4_drop) := goodIn_app (goodIn_of _ (by decide +kernel)) ggL_law_X4_drop
set_option maxRecDepth 20000 in
theorem ggL_law_X5_drop : GoodIn wsL_law wsX5_drop := goodIn_r _ [865, 63, 64, 366, 367, 5, 368, 369, 90, 91, 92, 896, 897, 898, 899, 900, 901, 902, 903, 904, 905, 906, 907, 908, 909, 910] (by decide +kernel) (by decide +kernel)
set_option maxRecDepth 20000 in
theorem gL_law_X5_drop : GoodIn wsL_law (wsV RL 146 RX5 yX5_drop wsX5_drop) := goodIn_app (goodIn_of _ (by decide +kernel)) ggL_law_X5_drop
set_option maxRecDepth 20000 in
theorem ggL_law_X4_item : GoodIn wsL_law wsX4_item := goodIn_r _ [869, 23, 773, 774, 775, 2, 776, 301, 302, 303, 777, 778, 779, 780, 781, 782, 25, 783, 784, 785, 786, 787, 788, 789, 790, 870, 871, 872, 891, 892, 893, 894, 895, 922, 923, 924, 925] (by decide +kernel) (by decide +kernel)
set_option maxRecDepth 20000 in
theorem gL_law_X4_item : GoodIn wsL_law (wsV RL 149 RX4 yX4_item wsX4_item) := goodIn_app (goodIn_of _ (by decide +kernel)) ggL_law_X4_item
set_option maxRecDepth 20000 in
theorem ggL_law_X5_item : GoodIn wsL_law wsX5_item := goodIn_r _ [876, 65, 366, 367, 5, 368, 369, 90, 91, 92, 810, 811, 812, 813, 814, 815, 816, 63, 64, 877, 878, 879, 896, 897, 898, 899, 900, 901, 902, 903, 904, 905, 906, 907, 908, 909, 910] (by decide +kernel) (by decide +kernel)
set_option maxRecDepth 20000 in
theorem gL_law_X5_item : GoodIn wsL_law (wsV RL 153 RX5 yX5_item wsX5_item) := goodIn_app (goodIn_of _ (by decide +kernel)) ggL_law_X5_item
set_option maxRecDepth 20000 in
theorem ggL_law_X4_copy : GoodIn wsL_law wsX4_copy := goodIn_r _ [883, 23, 860, 884, 773, 885, 246, 247, 248, 774, 775, 2, 776, 301, 302, 303, 886, 787, 788, 25, 789, 790, 891, 892, 893, 894, 895, 922, 923, 924, 925] (by decide +kernel) (by decide +kernel)
set_option maxRecDepth 20000 in
theorem gL_law_X4_copy : GoodIn wsL_law (wsV RL 154 RX4 yX4_copy wsX4_copy) := goodIn_app (goodIn_of _ (by decide +kernel)) ggL_law_X4_copy
set_option maxRecDepth 20000 in
theorem ggL_law_X5_copy : GoodIn wsL_law wsX5_copy := goodIn_r _ [890, 63, 68, 65, 366, 367, 5, 368, 369, 90, 91, 92, 813, 814, 815, 816, 64, 896, 897, 898, 899, 900, 901, 902, 903, 904, 905, 906, 907, 908, 909, 910] (by decide +kernel) (by decide +kernel)
set_option maxRecDepth 20000 in
theorem gL_law_X5_copy : GoodIn wsL_law (wsV RL 157 RX5 yX5_copy wsX5_copy) := goodIn_app (goodIn_of _ (by decide +kernel)) ggL_law_X5_copy
