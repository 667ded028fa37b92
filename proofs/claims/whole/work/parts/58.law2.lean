set_option maxRecDepth 20000 in
theorem ggL_law_X6_init : GoodIn wsL_law wsX6_init := goodIn_r _ [10, 11, 12, 13, 14, 15, 16, 17, 18, 19, 20, 21, 22, 23, 24, 25, 26, 27, 28, 29, 30, 31, 32, 33, 34, 35, 36, 37, 38, 39, 40, 41, 42, 43, 44, 45, 46, 47, 48, 49, 50, 51, 52, 53, 54, 55, 56, 57, 58, 59, 60, 61, 62, 63, 64, 65, 66, 67, 68, 69, 70, 71, 72, 73, 74, 75, 76, 77, 78, 79, 80, 81, 82, 83, 84, 85, 86, 87, 88, 89, 90, 91, 92, 93, 94, 95, 96, 97, 98, 99, 100, 101, 102, 103, 104, 105, 106, 107, 108, 109, 110, 111, 112, 113, 114, 115, 116, 117, 118, 119, 944, 945, 946, 947, 902, 903, 904, 905, 906, 907, 908, 909, 948, 949, 950, 951, 952, 953, 954, 955, 956, 957, 958, 959, 960, 961, 962, 963, 964, 965, 966, 967, 968, 969, 970, 971, 972, 973] (by decide +kernel) (by decide +kernel)
set_option maxRecDepth 20000 in
theorem gL_law_X6_init : GoodIn wsL_law (wsX6_init) := ggL_law_X6_init
set_option maxRecDepth 20000 in
theorem ggL_law_X7_init : GoodIn wsL_law wsX7_init := goodIn_r _ [122, 123, 12, 13, 124, 36, 125, 126, 127, 128, 129, 130, 131, 132, 133, 134, 135, 136, 48, 137, 138, 139, 6, 140, 141, 910, 911, 912, 913, 914, 915, 916, 917, 918, 919, 920, 921, 922, 923, 924, 925, 926, 927, 928, 929, 930, 931, 932, 933, 934, 935, 936, 937, 938, 939, 940, 941, 942, 943] (by decide +kernel) (by decide +kernel)
set_option maxRecDepth 20000 in
theorem gL_law_X7_init : GoodIn wsL_law (wsX7_init) := ggL_law_X7_init
set_option maxRecDepth 20000 in
theorem ggL_law_L_setFaces : GoodIn wsL_law wsL_setFaces := goodIn_ca (goodIn_r _ [145, 146, 147, 148, 149, 2, 150, 151, 152, 19, 153, 17, 154, 60, 61, 16, 62, 63, 46, 64, 65, 66, 67, 68, 47, 69, 70, 49, 71, 72, 73, 74, 75, 76, 77, 78, 79, 80, 81, 902, 903, 904, 905, 906, 907, 908, 909, 968, 969, 970, 971, 972, 973, 944, 945, 946, 947] (by decide +kernel) (by decide +kernel)) (goodIn_sub (fun _ h => List.mem_append_left _ (List.mem_append_left _ (List.mem_append_right _ h))) (by decide +kernel))
set_option maxRecDepth 20000 in
theorem gL_law_L_setFaces : GoodIn wsL_law (va_wsS RL 88 yL_setFaces wsL_setFaces) := goodIn_app (goodIn_of _ (by decide +kernel)) ggL_law_L_setFaces
set_option maxRecDepth 20000 in
theorem ggL_law_X7_setFaces : GoodIn wsL_law wsX7_setFaces := goodIn_r _ [158, 159, 160, 124, 161, 162, 5, 163, 910, 911, 912, 913, 914, 915, 916, 917, 918, 919, 920, 921, 922, 923, 924, 925, 926, 927, 928, 929, 930, 931, 932, 933, 934, 935, 936, 937, 938, 939, 940, 941, 942, 943] (by decide +kernel) (by decide +kernel)
set_option maxRecDepth 20000 in
theorem gL_law_X7_setFaces : GoodIn wsL_law (wsV RL 93 RX7 yX7_setFaces wsX7_setFaces) := goodIn_app (goodIn_of _ (by decide +kernel)) ggL_law_X7_setFaces
set_option maxRecDepth 20000 in
theorem ggL_law_X7_thrown : GoodIn wsL_law wsX7_thrown := goodIn_r _ [167, 159, 910, 911, 912, 913, 914, 915, 916, 917, 918, 919, 920, 921, 922, 923, 924, 925, 926, 927, 928, 929, 930, 931, 932, 933, 934, 935, 936, 937, 938, 939, 940, 941, 942, 943] (by decide +kernel) (by decide +kernel)
set_option maxRecDepth 20000 in
theorem gL_law_X7_thrown : GoodIn wsL_law (wsV RL 94 RX7 yX7_thrown wsX7_thrown) := goodIn_app (goodIn_of _ (by decide +kernel)) ggL_law_X7_thrown
set_option maxRecDepth 20000 in
theorem ggL_law_L_addDimension : GoodIn wsL_law wsL_addDimension := goodIn_ca (goodIn_ca (goodIn_ca (goodIn_r _ [170, 171, 146, 172, 173, 174, 175, 2, 176, 151, 152, 177, 178, 19, 153, 17, 179, 180, 181, 182, 183, 184, 185, 186, 187, 188, 189, 190, 191, 192, 193, 194, 195, 196, 197, 198, 199, 200, 45, 201, 53, 54, 55, 56, 57, 202, 66, 67, 16, 68, 63, 47, 46, 64, 69, 70, 49, 71, 72, 73, 74, 75, 76, 77, 78, 79, 80, 81, 902, 903, 904, 905, 906, 907, 908, 909, 968, 969, 970, 971, 972, 973, 944, 945, 946, 947] (by decide +kernel) (by decide +kernel)) (goodIn_sub (fun _ h => List.mem_append_left _ (List.mem_append_left _ (List.mem_append_right _ h))) (by decide +kernel))) (goodIn_sub (fun _ h => List.mem_append_left _ (List.mem_append_right _ h)) (by decide +kernel))) (goodIn_sub (fun _ h => List.mem_append_right _ h) (by decide +kernel))
set_option maxRecDepth 20000 in
theorem gL_law_L_addDimension : GoodIn wsL_law (va_wsS RL 97 yL_addDimension wsL_addDimension) := goodIn_app (goodIn_of _ (by decide +kernel)) ggL_law_L_addDimension
set_option maxRecDepth 20000 in
theorem ggL_law_X7_addDimension : GoodIn wsL_law wsX7_addDimension := goodIn_r _ [206, 207, 208, 160, 159, 161, 162, 5, 163, 209, 210, 211, 212, 213, 214, 215, 124, 216, 217, 218, 219, 125, 126, 127, 128, 129, 910, 911, 912, 913, 914, 915, 916, 917, 918, 919, 920, 921, 922, 923, 924, 925, 926, 927, 928, 929, 930, 931, 932, 933, 934, 935, 936, 937, 938, 939, 940, 941, 942, 943] (by decide +kernel) (by decide +kernel)
set_option maxRecDepth 20000 in
theorem gL_law_X7_addDimension : GoodIn wsL_law (wsV RL 100 RX7 yX7_addDimension wsX7_addDimension) := goodIn_app (goodIn_of _ (by decide +kernel)) ggL_law_X7_addDimension
set_option maxRecDepth 20000 in
theorem ggL_law_L_removeDimension : GoodIn wsL_law wsL_removeDimension := goodIn_ca (goodIn_r _ [222, 171, 223, 224, 225, 2, 226, 19, 17, 153, 227, 228, 229, 230, 187, 188, 231, 232, 233, 45, 234, 58, 235, 236, 237, 238, 53, 54, 55, 56, 57, 239, 199, 200, 201, 202, 66, 67, 16, 68, 63, 47, 46, 64, 69, 70, 49, 71, 72, 73, 74, 75, 76, 77, 78, 79, 80, 81, 902, 903, 904, 905, 906, 907, 908, 909, 968, 969, 970, 971, 972, 973, 944, 945, 946, 947] (by decide +kernel) (by decide +kernel)) (goodIn_sub (fun _ h => List.mem_append_right _ h) (by decide +kernel))
set_option maxRecDepth 20000 in
theorem gL_law_L_removeDimension : GoodIn wsL_law (va_wsS RL 101 yL_removeDimension wsL_removeDimension) := goodIn_app (goodIn_of _ (by decide +kernel)) ggL_law_L_removeDimension
set_option maxRecDepth 20000 in
theorem ggL_law_X7_removeDimension : GoodIn wsL_law wsX7_removeDimension := goodIn_r _ [243, 159, 160, 125, 126, 127, 128, 129, 244, 245, 246, 5, 247, 161, 162, 163, 910, 911, 912, 913, 914, 915, 916, 917, 918, 919, 920, 921, 922, 923, 924, 925, 926, 927, 928, 929, 930, 931, 932, 933, 934, 935, 936, 937, 938, 939, 940, 941, 942, 943] (by decide +kernel) (by decide +kernel)
set_option maxRecDepth 20000 in
theorem gL_law_X7_removeDimension : GoodIn wsL_law (wsV RL 103 RX7 yX7_removeDimension wsX7_removeDimension) := goodIn_app (goodIn_of _ (by decide +kernel)) ggL_law_X7_removeDimension
set_option maxRecDepth 20000 in
theorem ggL_law_L_setDeviations : GoodIn wsL_law wsL_setDeviations := goodIn_ca (goodIn_ca (goodIn_r _ [250, 171, 146, 251, 252, 253, 2, 254, 151, 152, 19, 255, 256, 227, 228, 229, 230, 187, 188, 153, 195, 196, 197, 257, 258, 259, 45, 260, 57, 56, 902, 903, 904, 905, 906, 907, 908, 909, 968, 969, 970, 971, 972, 973] (by decide +kernel) (by decide +kernel)) (goodIn_sub (fun _ h => List.mem_append_left _ (List.mem_append_left _ (List.mem_append_right _ h))) (by decide +kernel))) (goodIn_sub (fun _ h => List.mem_append_right _ h) (by decide +kernel))
set_option maxRecDepth 20000 in
theorem gL_law_L_setDeviations : GoodIn wsL_law (va_wsS RL 104 yL_setDeviations wsL_setDeviations) := goodIn_app (goodIn_of _ (by decide +kernel)) ggL_law_L_setDeviations
set_option maxRecDepth 20000 in
theorem ggL_law_X7_setDeviations : GoodIn wsL_law wsX7_setDeviations := goodIn_r _ [264, 159, 128, 129, 244, 245, 246, 5, 247, 160, 161, 162, 163, 209, 210, 211, 265, 266, 267, 268, 910, 911, 912, 913, 914, 915, 916, 917, 918, 919, 920, 921, 922, 923, 924, 925, 926, 927, 928, 929, 930, 931, 932, 933, 934, 935, 936, 937, 938, 939, 940, 941, 942, 943] (by decide +kernel) (by decide +kernel)
set_option maxRecDepth 20000 in
theorem gL_law_X7_setDeviations : GoodIn wsL_law (wsV RL 107 RX7 yX7_setDeviations wsX7_setDeviations) := goodIn_app (goodIn_of _ (by decide +kernel)) ggL_law_X7_setDeviations
set_option maxRecDepth 20000 in
theorem ggL_law_L_general : GoodIn wsL_law wsL_general := goodIn_ca (goodIn_r _ [271, 146, 272, 273, 274, 2, 275, 151, 152, 276, 277, 278, 279, 280, 281, 282, 283, 19, 153, 255, 256, 284, 285, 286, 287, 288, 289, 73, 290, 291, 902, 903, 904, 905, 906, 907, 908, 909, 968, 969, 970, 971, 972, 973] (by decide +kernel) (by decide +kernel)) (goodIn_sub (fun _ h => List.mem_append_left _ (List.mem_append_left _ (List.mem_append_right _ h))) (by decide +kernel))
set_option maxRecDepth 20000 in
theorem gL_law_L_general : GoodIn wsL_law (va_wsS RL 108 yL_general wsL_general) := goodIn_app (goodIn_of _ (by decide +kernel)) ggL_law_L_general
set_option maxRecDepth 20000 in
theorem ggL_law_X7_general : GoodIn wsL_law wsX7_general := goodIn_r _ [295, 159, 160, 128, 129, 127, 296, 297, 5, 298, 299, 300, 301, 302, 910, 911, 912, 913, 914, 915, 916, 917, 918, 919, 920, 921, 922, 923, 924, 925, 926, 927, 928, 929, 930, 931, 932, 933, 934, 935, 936, 937, 938, 939, 940, 941, 942, 943] (by decide +kernel) (by decide +kernel)
set_option maxRecDepth 20000 in
theorem gL_law_X7_general : GoodIn wsL_law (wsV RL 111 RX7 yX7_general wsX7_general) := goodIn_app (goodIn_of _ (by decide +kernel)) ggL_law_X7_general
set_option maxRecDepth 20000 in
theorem ggL_law_L_property : GoodIn wsL_law wsL_property := goodIn_ca (goodIn_ca (goodIn_r _ [305, 171, 146, 306, 307, 308, 2, 309, 151, 152, 19, 310, 311, 284, 255, 256, 227, 228, 229, 230, 187, 188, 153, 902, 903, 904, 905, 906, 907, 908, 909, 968, 969, 970, 971, 972, 973] (by decide +kernel) (by decide +kernel)) (goodIn_sub (fun _ h => List.mem_append_left _ (List.mem_append_left _ (List.mem_append_right _ h))) (by decide +kernel))) (goodIn_sub (fun _ h => List.mem_append_right _ h) (by decide +kernel))
set_option maxRecDepth 20000 in
theorem gL_law_L_property : GoodIn wsL_law (va_wsS RL 112 yL_property wsL_property) := goodIn_app (goodIn_of _ (by decide +kernel)) ggL_law_L_property
set_option maxRecDepth 20000 in
theorem ggL_law_X7_property : GoodIn wsL_law wsX7_property := goodIn_r _ [315, 159, 244, 245, 246, 5, 247, 160, 161, 162, 163, 316, 317, 318, 319, 125, 126, 127, 128, 129, 910, 911, 912, 913, 914, 915, 916, 917, 918, 919, 920, 921, 922, 923, 924, 925, 926, 927, 928, 929, 930, 931, 932, 933, 934, 935, 936, 937, 938, 939, 940, 941, 942, 943] (by decide +kernel) (by decide +kernel)
set_option maxRecDepth 20000 in
theorem gL_law_X7_property : GoodIn wsL_law (wsV RL 115 RX7 yX7_property wsX7_property) := goodIn_app (goodIn_of _ (by decide +kernel)) ggL_law_X7_property
set_option maxRecDepth 20000 in
theorem ggL_law_X6_dimensionCount : GoodIn wsL_law wsX6_dimensionCount := goodIn_r _ [323, 19, 153, 902, 903, 904, 905, 906, 907, 908, 909, 968, 969, 970, 971, 972, 973] (by decide +kernel) (by decide +kernel)
set_option maxRecDepth 20000 in
theorem gL_law_X6_dimensionCount : GoodIn wsL_law (wsV RL 116 RX6 yX6_dimensionCount wsX6_dimensionCount) := goodIn_app (goodIn_of _ (by decide +kernel)) ggL_law_X6_dimensionCount
set_option maxRecDepth 20000 in
theorem ggL_law_X7_dimensionCount : GoodIn wsL_law wsX7_dimensionCount := goodIn_r _ [327, 159, 160, 910, 911, 912, 913, 914, 915, 916, 917, 918, 919, 920, 921, 922, 923, 924, 925, 926, 927, 928, 929, 930, 931, 932, 933, 934, 935, 936, 937, 938, 939, 940, 941, 942, 943] (by decide +kernel) (by decide +kernel)
set_option maxRecDepth 20000 in
theorem gL_law_X7_dimensionCount : GoodIn wsL_law (wsV RL 119 RX7 yX7_dimensionCount wsX7_dimensionCount) := goodIn_app (goodIn_of _ (by decide +kernel)) ggL_law_X7_dimensionCount
set_option maxRecDepth 20000 in
theorem ggL_law_L_append : GoodIn wsL_law wsL_append := goodIn_ca (goodIn_ca (goodIn_r _ [330, 146, 172, 331, 332, 333, 2, 334, 151, 152, 177, 178, 38, 37, 902, 903, 904, 905, 906, 907, 908, 909] (by decide +kernel) (by decide +kernel)) (goodIn_sub (fun _ h => List.mem_append_left _ (List.mem_append_left _ (List.mem_append_right _ h))) (by decide +kernel))) (goodIn_sub (fun _ h => List.mem_append_left _ (List.mem_append_right _ h)) (by decide +kernel))
set_option maxRecDepth 20000 in
theorem gL_law_L_append : GoodIn wsL_law (va_wsS RL 120 yL_append wsL_append) := goodIn_app (goodIn_of _ (by decide +kernel)) ggL_law_L_append
set_option maxRecDepth 20000 in
theorem ggL_law_X7_append : GoodIn wsL_law wsX7_append := goodIn_r _ [338, 339, 159, 130, 161, 162, 5, 163, 910, 911, 912, 913, 914, 915, 916, 917, 918, 919, 920, 921, 922, 923, 924, 925, 926, 927, 928, 929, 930, 931, 932, 933, 934, 935, 936, 937, 938, 939, 940, 941, 942, 943] (by decide +kernel) (by decide +kernel)
set_option maxRecDepth 20000 in
theorem gL_law_X7_append : GoodIn wsL_law (wsV RL 122 RX7 yX7_append wsX7_append) := goodIn_app (goodIn_of _ (by decide +kernel)) ggL_law_X7_append
set_option maxRecDepth 20000 in
theorem ggL_law_X6_clearInput : GoodIn wsL_law wsX6_clearInput := goodIn_r _ [343, 38, 902, 903, 904, 905, 906, 907, 908, 909] (by decide +kernel) (by decide +kernel)
set_option maxRecDepth 20000 in
theorem gL_law_X6_clearInput : GoodIn wsL_law (wsV RL 123 RX6 yX6_clearInput wsX6_clearInput) := goodIn_app (goodIn_of _ (by decide +kernel)) ggL_law_X6_clearInput
set_option maxRecDepth 20000 in
theorem ggL_law_X7_clearInput : GoodIn wsL_law wsX7_clearInput := goodIn_r _ [347, 159, 339, 910, 911, 912, 913, 914, 915, 916, 917, 918, 919, 920, 921, 922, 923, 924, 925, 926, 927, 928, 929, 930, 931, 932, 933, 934, 935, 936, 937, 938, 939, 940, 941, 942, 943] (by decide +kernel) (by decide +kernel)
set_option maxRecDepth 20000 in
theorem gL_law_X7_clearInput : GoodIn wsL_law (wsV RL 126 RX7 yX7_clearInput wsX7_clearInput) := goodIn_app (goodIn_of _ (by decide +kernel)) ggL_law_X7_clearInput
set_option maxRecDepth 20000 in
theorem ggL_law_X6_firstError : GoodIn wsL_law wsX6_firstError := goodIn_r _ [351, 35, 37, 38, 17, 189, 352, 353, 354, 34, 355, 114, 113, 356, 115, 357, 358, 359, 360, 361, 362, 363, 364, 116, 365, 199, 200, 45, 201, 53, 54, 55, 56, 57, 366, 367, 368, 369, 370, 371, 372, 373, 374, 375, 376, 377, 378, 379, 380, 381, 382, 383, 119, 117, 118, 384, 385, 386, 387, 388, 389, 390, 391, 392, 393, 394, 395, 396, 397, 398, 399, 400, 401, 402, 403, 404, 405, 406, 407, 408, 409, 410, 411, 412, 413, 414, 415, 258, 259, 260, 902, 903, 904, 905, 906, 907, 908, 909, 944, 945, 946, 947, 961, 962, 963, 964, 965, 966, 967, 968, 969, 970, 971, 972, 973] (by decide +kernel) (by decide +kernel)
set_option maxRecDepth 20000 in
theorem gL_law_X6_firstError : GoodIn wsL_law (wsV RL 127 RX6 yX6_firstError wsX6_firstError) := goodIn_app (goodIn_of _ (by decide +kernel)) ggL_law_X6_firstError
set_option maxRecDepth 20000 in
theorem ggL_law_X7_firstError : GoodIn wsL_law wsX7_firstError := goodIn_r _ [419, 159, 420, 421, 422, 5, 423, 424, 425, 339, 130, 426, 427, 428, 429, 131, 132, 212, 213, 214, 215, 124, 161, 162, 163, 430, 431, 432, 433, 133, 134, 135, 434, 435, 436, 437, 438, 439, 440, 441, 442, 443, 444, 445, 446, 447, 448, 449, 450, 451, 452, 453, 454, 455, 456, 910, 911, 912, 913, 914, 915, 916, 917, 918, 919, 920, 921, 922, 923, 924, 925, 926, 927, 928, 929, 930, 931, 932, 933, 934, 935, 936, 937, 938, 939, 940, 941, 942, 943] (by decide +kernel) (by decide +kernel)
set_option maxRecDepth 20000 in
theorem gL_law_X7_firstError : GoodIn wsL_law (wsV RL 130 RX7 yX7_firstError wsX7_firstError) := goodIn_app (goodIn_of _ (by decide +kernel)) ggL_law_X7_firstError
set_option maxRecDepth 20000 in
theorem ggL_law_L_load : GoodIn wsL_law wsL_load := goodIn_ca (goodIn_r _ [459, 172, 460, 461, 462, 2, 463, 177, 178, 35, 37, 38, 17, 189, 19, 464, 153, 352, 353, 354, 34, 355, 114, 113, 356, 115, 357, 358, 359, 360, 361, 362, 363, 364, 116, 365, 199, 200, 45, 201, 53, 54, 55, 56, 57, 366, 367, 368, 369, 370, 371, 372, 373, 374, 375, 376, 377, 378, 379, 380, 381, 382, 383, 119, 117, 118, 384, 385, 386, 387, 388, 389, 390, 391, 392, 393, 394, 395, 396, 397, 398, 399, 400, 401, 402, 403, 404, 405, 406, 407, 408, 409, 410, 411, 412, 413, 414, 415, 258, 259, 260, 465, 466, 467, 468, 469, 470, 471, 472, 58, 235, 236, 237, 238, 239, 202, 66, 67, 16, 68, 63, 47, 46, 64, 69, 70, 49, 71, 72, 73, 74, 75, 76, 77, 78, 79, 80, 81, 902, 903, 904, 905, 906, 907, 908, 909, 944, 945, 946, 947, 961, 962, 963, 964, 965, 966, 967, 968, 969, 970, 971, 972, 973] (by decide +kernel) (by decide +kernel)) (goodIn_sub (fun _ h => List.mem_append_left _ (List.mem_append_right _ h)) (by decide +kernel))
set_option maxRecDepth 20000 in
theorem gL_law_L_load : GoodIn wsL_law (va_wsS RL 131 yL_load wsL_load) := goodIn_app (goodIn_of _ (by decide +kernel)) ggL_law_L_load
set_option maxRecDepth 20000 in
theorem ggL_law_X7_load : GoodIn wsL_law wsX7_load := goodIn_r _ [476, 339, 424, 159, 160, 425, 131, 132, 133, 134, 135, 420, 421, 422, 5, 423, 130, 426, 427, 428, 429, 212, 213, 214, 215, 124, 161, 162, 163, 430, 431, 432, 433, 434, 435, 436, 437, 438, 439, 440, 441, 442, 443, 444, 445, 446, 447, 448, 449, 450, 451, 452, 453, 454, 455, 456, 216, 217, 218, 219, 125, 126, 127, 128, 129, 910, 911, 912, 913, 914, 915, 916, 917, 918, 919, 920, 921, 922, 923, 924, 925, 926, 927, 928, 929, 930, 931, 932, 933, 934, 935, 936, 937, 938, 939, 940, 941, 942, 943] (by decide +kernel) (by decide +kernel)
set_option maxRecDepth 20000 in
theorem gL_law_X7_load : GoodIn wsL_law (wsV RL 134 RX7 yX7_load wsX7_load) := goodIn_app (goodIn_of _ (by decide +kernel)) ggL_law_X7_load
set_option maxRecDepth 20000 in
theorem ggL_law_L_isDoubled : GoodIn wsL_law wsL_isDoubled := goodIn_ca (goodIn_r _ [479, 171, 480, 481, 482, 2, 483, 17, 484, 227, 228, 229, 230, 187, 188, 19, 153, 902, 903, 904, 905, 906, 907, 908, 909, 944, 945, 946, 947, 968, 969, 970, 971, 972, 973] (by decide +kernel) (by decide +kernel)) (goodIn_sub (fun _ h => List.mem_append_right _ h) (by decide +kernel))
set_option maxRecDepth 20000 in
theorem gL_law_L_isDoubled : GoodIn wsL_law (va_wsS RL 135 yL_isDoubled wsL_isDoubled) := goodIn_app (goodIn_of _ (by decide +kernel)) ggL_law_L_isDoubled
set_option maxRecDepth 20000 in
theorem ggL_law_X7_isDoubled : GoodIn wsL_law wsX7_isDoubled := goodIn_r _ [488, 159, 137, 244, 245, 246, 5, 247, 160, 161, 162, 163, 489, 490, 491, 492, 124, 136, 125, 126, 910, 911, 912, 913, 914, 915, 916, 917, 918, 919, 920, 921, 922, 923, 924, 925, 926, 927, 928, 929, 930, 931, 932, 933, 934, 935, 936, 937, 938, 939, 940, 941, 942, 943] (by decide +kernel) (by decide +kernel)
set_option maxRecDepth 20000 in
theorem gL_law_X7_isDoubled : GoodIn wsL_law (wsV RL 137 RX7 yX7_isDoubled wsX7_isDoubled) := goodIn_app (goodIn_of _ (by decide +kernel)) ggL_law_X7_isDoubled
set_option maxRecDepth 20000 in
theorem ggL_law_X6_missing : GoodIn wsL_law wsX6_missing := goodIn_r _ [496, 17, 497, 498, 499, 16, 500, 63, 47, 902, 903, 904, 905, 906, 907, 908, 909, 944, 945, 946, 947] (by decide +kernel) (by decide +kernel)
set_option maxRecDepth 20000 in
theorem gL_law_X6_missing : GoodIn wsL_law (wsV RL 138 RX6 yX6_missing wsX6_missing) := goodIn_app (goodIn_of _ (by decide +kernel)) ggL_law_X6_missing
set_option maxRecDepth 20000 in
theorem ggL_law_X7_missing : GoodIn wsL_law wsX7_missing := goodIn_r _ [504, 159, 124, 136, 489, 490, 491, 5, 492, 160, 125, 126, 137, 910, 911, 912, 913, 914, 915, 916, 917, 918, 919, 920, 921, 922, 923, 924, 925, 926, 927, 928, 929, 930, 931, 932, 933, 934, 935, 936, 937, 938, 939, 940, 941, 942, 943] (by decide +kernel) (by decide +kernel)
set_option maxRecDepth 20000 in
theorem gL_law_X7_missing : GoodIn wsL_law (wsV RL 141 RX7 yX7_missing wsX7_missing) := goodIn_app (goodIn_of _ (by decide +kernel)) ggL_law_X7_missing
set_option maxRecDepth 20000 in
theorem ggL_law_L_partOf : GoodIn wsL_law wsL_partOf := goodIn_ca (goodIn_r _ [507, 171, 508, 509, 510, 2, 511, 17, 512, 183, 184, 185, 186, 187, 188, 189, 902, 903, 904, 905, 906, 907, 908, 909, 944, 945, 946, 947] (by decide +kernel) (by decide +kernel)) (goodIn_sub (fun _ h => List.mem_append_right _ h) (by decide +kernel))
set_option maxRecDepth 20000 in
theorem gL_law_L_partOf : GoodIn wsL_law (va_wsS RL 142 yL_partOf wsL_partOf) := goodIn_app (goodIn_of _ (by decide +kernel)) ggL_law_L_partOf
set_option maxRecDepth 20000 in
theorem ggL_law_X7_partOf : GoodIn wsL_law wsX7_partOf := goodIn_r _ [516, 159, 136, 212, 213, 214, 5, 215, 124, 161, 162, 163, 489, 490, 491, 492, 160, 125, 126, 137, 910, 911, 912, 913, 914, 915, 916, 917, 918, 919, 920, 921, 922, 923, 924, 925, 926, 927, 928, 929, 930, 931, 932, 933, 934, 935, 936, 937, 938, 939, 940, 941, 942, 943] (by decide +kernel) (by decide +kernel)
set_option maxRecDepth 20000 in
theorem gL_law_X7_partOf : GoodIn wsL_law (wsV RL 144 RX7 yX7_partOf wsX7_partOf) := goodIn_app (goodIn_of _ (by decide +kernel)) ggL_law_X7_partOf
set_option maxRecDepth 20000 in
theorem ggL_law_L_chainLength : GoodIn wsL_law wsL_chainLength := goodIn_ca (goodIn_r _ [519, 171, 520, 521, 522, 2, 523, 23, 524, 179, 180, 181, 182, 183, 184, 185, 186, 187, 188, 17, 189, 525, 526, 527, 22, 528, 88, 89, 90, 91, 92, 529, 86, 530, 531, 532, 533, 94, 534, 535, 536, 537, 538, 539, 540, 541, 542, 543, 544, 545, 546, 547, 548, 549, 87, 550, 551, 552, 553, 45, 554, 55, 56, 555, 556, 557, 558, 57, 902, 903, 904, 905, 906, 907, 908, 909, 948, 949, 950, 951, 952, 953, 954, 955, 944, 945, 946, 947, 968, 969, 970, 971, 972, 973] (by decide +kernel) (by decide +kernel)) (goodIn_sub (fun _ h => List.mem_append_right _ h) (by decide +kernel))
set_option maxRecDepth 20000 in
theorem gL_law_L_chainLength : GoodIn wsL_law (va_wsS RL 145 yL_chainLength wsL_chainLength) := goodIn_app (goodIn_of _ (by decide +kernel)) ggL_law_L_chainLength
set_option maxRecDepth 20000 in
theorem ggL_law_X7_chainLength : GoodIn wsL_law wsX7_chainLength := goodIn_r _ [562, 159, 563, 564, 565, 566, 5, 567, 212, 213, 214, 215, 124, 161, 162, 163, 568, 569, 570, 571, 489, 490, 491, 492, 136, 160, 125, 126, 137, 572, 573, 574, 575, 139, 138, 910, 911, 912, 913, 914, 915, 916, 917, 918, 919, 920, 921, 922, 923, 924, 925, 926, 927, 928, 929, 930, 931, 932, 933, 934, 935, 936, 937, 938, 939, 940, 941, 942, 943] (by decide +kernel) (by decide +kernel)
set_option maxRecDepth 20000 in
theorem gL_law_X7_chainLength : GoodIn wsL_law (wsV RL 147 RX7 yX7_chainLength wsX7_chainLength) := goodIn_app (goodIn_of _ (by decide +kernel)) ggL_law_X7_chainLength
set_option maxRecDepth 20000 in
theorem ggL_law_L_chainDimension : GoodIn wsL_law wsL_chainDimension := goodIn_ca (goodIn_r _ [578, 171, 579, 580, 581, 2, 582, 187, 188, 23, 524, 583, 179, 180, 181, 182, 183, 184, 185, 186, 17, 189, 525, 526, 527, 22, 528, 88, 89, 90, 91, 92, 529, 86, 530, 531, 532, 533, 94, 534, 535, 536, 537, 538, 539, 540, 541, 542, 543, 544, 545, 546, 547, 548, 549, 87, 550, 551, 552, 553, 45, 554, 55, 56, 555, 556, 557, 558, 57, 902, 903, 904, 905, 906, 907, 908, 909, 948, 949, 950, 951, 952, 953, 954, 955, 944, 945, 946, 947, 968, 969, 970, 971, 972, 973] (by decide +kernel) (by decide +kernel)) (goodIn_sub (fun _ h => List.mem_append_right _ h) (by decide +kernel))
set_option maxRecDepth 20000 in
theorem gL_law_L_chainDimension : GoodIn wsL_law (va_wsS RL 148 yL_chainDimension wsL_chainDimension) := goodIn_app (goodIn_of _ (by decide +kernel)) ggL_law_L_chainDimension
set_option maxRecDepth 20000 in
theorem ggL_law_X7_chainDimension : GoodIn wsL_law wsX7_chainDimension := goodIn_r _ [587, 563, 159, 138, 568, 569, 570, 5, 571, 489, 490, 491, 492, 124, 136, 160, 125, 126, 137, 564, 565, 566, 567, 212, 213, 214, 215, 161, 162, 163, 572, 573, 574, 575, 139, 910, 911, 912, 913, 914, 915, 916, 917, 918, 919, 920, 921, 922, 923, 924, 925, 926, 927, 928, 929, 930, 931, 932, 933, 934, 935, 936, 937, 938, 939, 940, 941, 942, 943] (by decide +kernel) (by decide +kernel)
set_option maxRecDepth 20000 in
theorem gL_law_X7_chainDimension : GoodIn wsL_law (wsV RL 150 RX7 yX7_chainDimension wsX7_chainDimension) := goodIn_app (goodIn_of _ (by decide +kernel)) ggL_law_X7_chainDimension
set_option maxRecDepth 20000 in
theorem ggL_law_L_gap : GoodIn wsL_law wsL_gap := goodIn_ca (goodIn_ca (goodIn_ca (goodIn_r _ [590, 171, 146, 172, 591, 592, 593, 2, 594, 151, 152, 23, 595, 596, 597, 179, 180, 181, 182, 183, 184, 185, 186, 187, 188, 17, 189, 598, 599, 600, 601, 177, 178, 525, 526, 527, 22, 528, 88, 89, 90, 91, 92, 529, 86, 530, 531, 532, 533, 94, 534, 535, 536, 537, 538, 539, 540, 541, 542, 543, 544, 545, 546, 547, 548, 549, 87, 550, 551, 552, 553, 45, 554, 55, 56, 555, 556, 557, 558, 57, 902, 903, 904, 905, 906, 907, 908, 909, 948, 949, 950, 951, 952, 953, 954, 955, 944, 945, 946, 947, 968, 969, 970, 971, 972, 973] (by decide +kernel) (by decide +kernel)) (goodIn_sub (fun _ h => List.mem_append_left _ (List.mem_append_left _ (List.mem_append_right _ h))) (by decide +kernel))) (goodIn_sub (fun _ h => List.mem_append_right _ h) (by decide +kernel))) (goodIn_sub (fun _ h => List.mem_append_left _ (List.mem_append_right _ h)) (by decide +kernel))
set_option maxRecDepth 20000 in
theorem gL_law_L_gap : GoodIn wsL_law (va_wsS RL 151 yL_gap wsL_gap) := goodIn_app (goodIn_of _ (by decide +kernel)) ggL_law_L_gap
set_option maxRecDepth 20000 in
theorem ggL_law_X7_gap : GoodIn wsL_law wsX7_gap := goodIn_r _ [605, 159, 606, 607, 608, 564, 565, 566, 5, 567, 212, 213, 214, 215, 124, 161, 162, 163, 568, 569, 570, 571, 489, 490, 491, 492, 136, 160, 125, 126, 137, 572, 573, 574, 575, 563, 139, 138, 609, 610, 611, 612, 127, 128, 129, 910, 911, 912, 913, 914, 915, 916, 917, 918, 919, 920, 921, 922, 923, 924, 925, 926, 927, 928, 929, 930, 931, 932, 933, 934, 935, 936, 937, 938, 939, 940, 941, 942, 943] (by decide +kernel) (by decide +kernel)
set_option maxRecDepth 20000 in
theorem gL_law_X7_gap : GoodIn wsL_law (wsV RL 153 RX7 yX7_gap wsX7_gap) := goodIn_app (goodIn_of _ (by decide +kernel)) ggL_law_X7_gap
set_option maxRecDepth 20000 in
theorem ggL_law_L_spread : GoodIn wsL_law wsL_spread := goodIn_ca (goodIn_ca (goodIn_r _ [615, 171, 172, 616, 617, 618, 2, 619, 23, 179, 180, 181, 182, 183, 184, 185, 186, 187, 188, 17, 189, 598, 599, 600, 601, 177, 178, 525, 526, 527, 22, 528, 88, 89, 90, 91, 92, 529, 86, 530, 531, 532, 533, 94, 534, 535, 536, 537, 538, 539, 540, 541, 542, 543, 544, 545, 546, 547, 548, 549, 87, 550, 551, 552, 553, 45, 554, 55, 56, 555, 556, 557, 558, 57, 620, 621, 622, 623, 624, 258, 259, 260, 902, 903, 904, 905, 906, 907, 908, 909, 944, 945, 946, 947, 948, 949, 950, 951, 952, 953, 954, 955, 968, 969, 970, 971, 972, 973] (by decide +kernel) (by decide +kernel)) (goodIn_sub (fun _ h => List.mem_append_right _ h) (by decide +kernel))) (goodIn_sub (fun _ h => List.mem_append_left _ (List.mem_append_right _ h)) (by decide +kernel))
set_option maxRecDepth 20000 in
theorem gL_law_L_spread : GoodIn wsL_law (va_wsS RL 154 yL_spread wsL_spread) := goodIn_app (goodIn_of _ (by decide +kernel)) ggL_law_L_spread
set_option maxRecDepth 20000 in
theorem ggL_law_X7_spread : GoodIn wsL_law wsX7_spread := goodIn_r _ [628, 159, 564, 565, 566, 5, 567, 212, 213, 214, 215, 124, 161, 162, 163, 568, 569, 570, 571, 489, 490, 491, 492, 136, 160, 125, 126, 137, 572, 573, 574, 575, 563, 139, 138, 629, 630, 631, 632, 265, 266, 267, 268, 129, 128, 910, 911, 912, 913, 914, 915, 916, 917, 918, 919, 920, 921, 922, 923, 924, 925, 926, 927, 928, 929, 930, 931, 932, 933, 934, 935, 936, 937, 938, 939, 940, 941, 942, 943] (by decide +kernel) (by decide +kernel)
set_option maxRecDepth 20000 in
theorem gL_law_X7_spread : GoodIn wsL_law (wsV RL 156 RX7 yX7_spread wsX7_spread) := goodIn_app (goodIn_of _ (by decide +kernel)) ggL_law_X7_spread
set_option maxRecDepth 20000 in
theorem ggL_law_L_contributor : GoodIn wsL_law wsL_contributor := goodIn_ca (goodIn_ca (goodIn_r _ [635, 171, 172, 636, 637, 638, 2, 639, 23, 179, 180, 181, 182, 183, 184, 185, 186, 187, 188, 17, 189, 598, 599, 600, 601, 177, 178, 525, 526, 527, 22, 528, 88, 89, 90, 91, 92, 529, 86, 530, 531, 532, 533, 94, 534, 535, 536, 537, 538, 539, 540, 541, 542, 543, 544, 545, 546, 547, 548, 549, 87, 550, 551, 552, 553, 45, 554, 55, 56, 555, 556, 557, 558, 57, 640, 641, 642, 643, 644, 645, 646, 647, 624, 258, 259, 260, 902, 903, 904, 905, 906, 907, 908, 909, 944, 945, 946, 947, 948, 949, 950, 951, 952, 953, 954, 955, 968, 969, 970, 971, 972, 973] (by decide +kernel) (by decide +kernel)) (goodIn_sub (fun _ h => List.mem_append_right _ h) (by decide +kernel))) (goodIn_sub (fun _ h => List.mem_append_left _ (List.mem_append_right _ h)) (by decide +kernel))
set_option maxRecDepth 20000 in
theorem gL_law_L_contributor : GoodIn wsL_law (va_wsS RL 157 yL_contributor wsL_contributor) := goodIn_app (goodIn_of _ (by decide +kernel)) ggL_law_L_contributor
set_option maxRecDepth 20000 in
theorem ggL_law_X7_contributor : GoodIn wsL_law wsX7_contributor := goodIn_r _ [651, 159, 564, 565, 566, 5, 567, 212, 213, 214, 215, 124, 161, 162, 163, 568, 569, 570, 571, 489, 490, 491, 492, 136, 160, 125, 126, 137, 572, 573, 574, 575, 563, 139, 138, 652, 653, 654, 655, 265, 266, 267, 268, 129, 128, 910, 911, 912, 913, 914, 915, 916, 917, 918, 919, 920, 921, 922, 923, 924, 925, 926, 927, 928, 929, 930, 931, 932, 933, 934, 935, 936, 937, 938, 939, 940, 941, 942, 943] (by decide +kernel) (by decide +kernel)
set_option maxRecDepth 20000 in
theorem gL_law_X7_contributor : GoodIn wsL_law (wsV RL 159 RX7 yX7_contributor wsX7_contributor) := goodIn_app (goodIn_of _ (by decide +kernel)) ggL_law_X7_contributor
set_option maxRecDepth 20000 in
theorem ggL_law_L_part : GoodIn wsL_law wsL_part := goodIn_ca (goodIn_ca (goodIn_r _ [658, 171, 172, 659, 660, 661, 2, 662, 23, 19, 179, 180, 181, 182, 183, 184, 185, 186, 187, 188, 17, 189, 227, 228, 229, 230, 153, 598, 599, 600, 601, 177, 178, 525, 526, 527, 22, 528, 88, 89, 90, 91, 92, 529, 86, 530, 531, 532, 533, 94, 534, 535, 536, 537, 538, 539, 540, 541, 542, 543, 544, 545, 546, 547, 548, 549, 87, 550, 551, 552, 553, 45, 554, 55, 56, 555, 556, 557, 558, 57, 663, 664, 665, 666, 624, 258, 259, 260, 667, 668, 669, 670, 257, 902, 903, 904, 905, 906, 907, 908, 909, 944, 945, 946, 947, 968, 969, 970, 971, 972, 973, 948, 949, 950, 951, 952, 953, 954, 955] (by decide +kernel) (by decide +kernel)) (goodIn_sub (fun _ h => List.mem_append_right _ h) (by decide +kernel))) (goodIn_sub (fun _ h => List.mem_append_left _ (List.mem_append_right _ h)) (by decide +kernel))
set_option maxRecDepth 20000 in
theorem gL_law_L_part : GoodIn wsL_law (va_wsS RL 160 yL_part wsL_part) := goodIn_app (goodIn_of _ (by decide +kernel)) ggL_law_L_part
set_option maxRecDepth 20000 in
theorem ggL_law_X7_part : GoodIn wsL_law wsX7_part := goodIn_r _ [674, 159, 564, 565, 566, 5, 567, 212, 213, 214, 215, 124, 161, 162, 163, 244, 245, 246, 247, 160, 568, 569, 570, 571, 489, 490, 491, 492, 136, 125, 126, 137, 572, 573, 574, 575, 563, 139, 138, 675, 676, 677, 678, 679, 680, 681, 682, 265, 266, 267, 268, 129, 128, 910, 911, 912, 913, 914, 915, 916, 917, 918, 919, 920, 921, 922, 923, 924, 925, 926, 927, 928, 929, 930, 931, 932, 933, 934, 935, 936, 937, 938, 939, 940, 941, 942, 943] (by decide +kernel) (by decide +kernel)
set_option maxRecDepth 20000 in
theorem gL_law_X7_part : GoodIn wsL_law (wsV RL 163 RX7 yX7_part wsX7_part) := goodIn_app (goodIn_of _ (by decide +kernel)) ggL_law_X7_part
set_option maxRecDepth 20000 in
theorem ggL_law_L_misfit : GoodIn wsL_law wsL_misfit := goodIn_ca (goodIn_ca (goodIn_r _ [685, 171, 172, 686, 687, 688, 2, 689, 177, 178, 17, 484, 23, 19, 310, 311, 284, 595, 227, 228, 229, 230, 187, 188, 153, 525, 526, 527, 22, 528, 88, 89, 90, 91, 92, 529, 86, 530, 531, 532, 533, 94, 534, 535, 536, 537, 538, 539, 540, 541, 542, 543, 544, 545, 546, 547, 548, 549, 87, 550, 551, 552, 553, 45, 554, 55, 56, 555, 556, 557, 558, 57, 902, 903, 904, 905, 906, 907, 908, 909, 944, 945, 946, 947, 968, 969, 970, 971, 972, 973, 948, 949, 950, 951, 952, 953, 954, 955] (by decide +kernel) (by decide +kernel)) (goodIn_sub (fun _ h => List.mem_append_left _ (List.mem_append_right _ h)) (by decide +kernel))) (goodIn_sub (fun _ h => List.mem_append_right _ h) (by decide +kernel))
set_option maxRecDepth 20000 in
theorem gL_law_L_misfit : GoodIn wsL_law (va_wsS RL 164 yL_misfit wsL_misfit) := goodIn_app (goodIn_of _ (by decide +kernel)) ggL_law_L_misfit
set_option maxRecDepth 20000 in
theorem ggL_law_X7_misfit : GoodIn wsL_law wsX7_misfit := goodIn_r _ [693, 137, 159, 125, 126, 127, 606, 489, 490, 491, 5, 492, 124, 136, 160, 244, 245, 246, 247, 161, 162, 163, 572, 573, 574, 575, 563, 139, 138, 609, 610, 611, 612, 607, 608, 128, 129, 910, 911, 912, 913, 914, 915, 916, 917, 918, 919, 920, 921, 922, 923, 924, 925, 926, 927, 928, 929, 930, 931, 932, 933, 934, 935, 936, 937, 938, 939, 940, 941, 942, 943] (by decide +kernel) (by decide +kernel)
set_option maxRecDepth 20000 in
theorem gL_law_X7_misfit : GoodIn wsL_law (wsV RL 166 RX7 yX7_misfit wsX7_misfit) := goodIn_app (goodIn_of _ (by decide +kernel)) ggL_law_X7_misfit
set_option maxRecDepth 20000 in
theorem ggL_law_X6_contradictions : GoodIn wsL_law wsX6_contradictions := goodIn_r _ [697, 19, 153, 17, 484, 698, 699, 700, 2, 701, 23, 310, 311, 596, 597, 525, 526, 527, 22, 528, 88, 89, 90, 91, 92, 529, 86, 530, 531, 532, 533, 94, 534, 535, 536, 537, 538, 539, 540, 541, 542, 543, 544, 545, 546, 547, 548, 549, 87, 550, 551, 552, 553, 45, 554, 55, 56, 555, 556, 557, 558, 57, 702, 703, 902, 903, 904, 905, 906, 907, 908, 909, 968, 969, 970, 971, 972, 973, 944, 945, 946, 947, 948, 949, 950, 951, 952, 953, 954, 955] (by decide +kernel) (by decide +kernel)
set_option maxRecDepth 20000 in
theorem gL_law_X6_contradictions : GoodIn wsL_law (wsV RL 167 RX6 yX6_contradictions wsX6_contradictions) := goodIn_app (goodIn_of _ (by decide +kernel)) ggL_law_X6_contradictions
set_option maxRecDepth 20000 in
theorem ggL_law_X7_contradictions : GoodIn wsL_law wsX7_contradictions := goodIn_r _ [707, 159, 708, 709, 710, 5, 711, 160, 137, 125, 126, 127, 129, 607, 128, 608, 489, 490, 491, 492, 124, 136, 572, 573, 574, 575, 563, 139, 138, 609, 610, 611, 612, 606, 910, 911, 912, 913, 914, 915, 916, 917, 918, 919, 920, 921, 922, 923, 924, 925, 926, 927, 928, 929, 930, 931, 932, 933, 934, 935, 936, 937, 938, 939, 940, 941, 942, 943] (by decide +kernel) (by decide +kernel)
set_option maxRecDepth 20000 in
theorem gL_law_X7_contradictions : GoodIn wsL_law (wsV RL 170 RX7 yX7_contradictions wsX7_contradictions) := goodIn_app (goodIn_of _ (by decide +kernel)) ggL_law_X7_contradictions
set_option maxRecDepth 20000 in
theorem ggL_law_X6_isConsistent : GoodIn wsL_law wsX6_isConsistent := goodIn_r _ [715, 31, 716, 717, 718, 30, 719, 108, 720, 721, 722, 723, 724, 107, 725, 726, 727, 728, 729, 730, 537, 538, 539, 731, 732, 733, 734, 556, 557, 45, 558, 55, 57, 735, 736, 737, 738, 739, 76, 73, 77, 740, 552, 553, 554, 56, 741, 742, 743, 744, 745, 746, 747, 748, 902, 903, 904, 905, 906, 907, 908, 909, 959, 960, 944, 945, 946, 947, 968, 969, 970, 971, 972, 973] (by decide +kernel) (by decide +kernel)
set_option maxRecDepth 20000 in
theorem gL_law_X6_isConsistent : GoodIn wsL_law (wsV RL 171 RX6 yX6_isConsistent wsX6_isConsistent) := goodIn_app (goodIn_of _ (by decide +kernel)) ggL_law_X6_isConsistent
set_option maxRecDepth 20000 in
theorem ggL_law_X7_isConsistent : GoodIn wsL_law wsX7_isConsistent := goodIn_r _ [752, 159, 753, 754, 755, 5, 756, 140, 757, 160, 125, 126, 127, 129, 128, 124, 758, 759, 760, 761, 910, 911, 912, 913, 914, 915, 916, 917, 918, 919, 920, 921, 922, 923, 924, 925, 926, 927, 928, 929, 930, 931, 932, 933, 934, 935, 936, 937, 938, 939, 940, 941, 942, 943] (by decide +kernel) (by decide +kernel)
set_option maxRecDepth 20000 in
theorem gL_law_X7_isConsistent : GoodIn wsL_law (wsV RL 175 RX7 yX7_isConsistent wsX7_isConsistent) := goodIn_app (goodIn_of _ (by decide +kernel)) ggL_law_X7_isConsistent
set_option maxRecDepth 20000 in
theorem ggL_law_L_tight : GoodIn wsL_law wsL_tight := goodIn_ca (goodIn_ca (goodIn_r _ [764, 171, 172, 765, 766, 767, 2, 768, 177, 178, 17, 512, 31, 179, 180, 181, 182, 183, 184, 185, 186, 187, 188, 189, 716, 717, 718, 30, 719, 108, 720, 721, 722, 723, 724, 107, 725, 726, 727, 728, 729, 730, 537, 538, 539, 731, 732, 733, 734, 556, 557, 45, 558, 55, 57, 735, 736, 737, 738, 739, 76, 73, 77, 740, 552, 553, 554, 56, 741, 742, 743, 744, 745, 746, 747, 748, 769, 770, 771, 772, 773, 774, 775, 776, 902, 903, 904, 905, 906, 907, 908, 909, 944, 945, 946, 947, 959, 960, 968, 969, 970, 971, 972, 973] (by decide +kernel) (by decide +kernel)) (goodIn_sub (fun _ h => List.mem_append_left _ (List.mem_append_right _ h)) (by decide +kernel))) (goodIn_sub (fun _ h => List.mem_append_right _ h) (by decide +kernel))
set_option maxRecDepth 20000 in
theorem gL_law_L_tight : GoodIn wsL_law (va_wsS RL 176 yL_tight wsL_tight) := goodIn_app (goodIn_of _ (by decide +kernel)) ggL_law_L_tight
set_option maxRecDepth 20000 in
theorem ggL_law_X7_tight : GoodIn wsL_law wsX7_tight := goodIn_r _ [780, 159, 564, 565, 566, 5, 567, 212, 213, 214, 215, 124, 161, 162, 163, 568, 569, 570, 571, 489, 490, 491, 492, 136, 160, 125, 126, 137, 572, 573, 574, 575, 563, 139, 138, 753, 754, 755, 756, 140, 757, 127, 129, 128, 758, 759, 760, 761, 781, 782, 783, 784, 910, 911, 912, 913, 914, 915, 916, 917, 918, 919, 920, 921, 922, 923, 924, 925, 926, 927, 928, 929, 930, 931, 932, 933, 934, 935, 936, 937, 938, 939, 940, 941, 942, 943] (by decide +kernel) (by decide +kernel)
set_option maxRecDepth 20000 in
theorem gL_law_X7_tight : GoodIn wsL_law (wsV RL 179 RX7 yX7_tight wsX7_tight) := goodIn_app (goodIn_of _ (by decide +kernel)) ggL_law_X7_tight
set_option maxRecDepth 20000 in
theorem ggL_law_L_transfer : GoodIn wsL_law wsL_transfer := goodIn_ca (goodIn_ca (goodIn_ca (goodIn_r _ [787, 171, 146, 172, 788, 789, 790, 2, 791, 151, 152, 177, 178, 19, 310, 311, 17, 484, 23, 595, 284, 255, 597, 256, 596, 227, 228, 229, 230, 187, 188, 153, 183, 184, 185, 186, 189, 598, 599, 600, 601, 525, 526, 527, 22, 528, 88, 89, 90, 91, 92, 529, 86, 530, 531, 532, 533, 94, 534, 535, 536, 537, 538, 539, 540, 541, 542, 543, 544, 545, 546, 547, 548, 549, 87, 550, 551, 552, 553, 45, 554, 55, 56, 555, 556, 557, 558, 57, 667, 668, 669, 670, 190, 191, 192, 193, 194, 195, 196, 197, 198, 199, 200, 201, 53, 54, 202, 66, 67, 16, 68, 63, 47, 46, 64, 69, 70, 49, 71, 72, 73, 74, 75, 76, 77, 78, 79, 80, 81, 902, 903, 904, 905, 906, 907, 908, 909, 968, 969, 970, 971, 972, 973, 944, 945, 946, 947, 948, 949, 950, 951, 952, 953, 954, 955] (by decide +kernel) (by decide +kernel)) (goodIn_sub (fun _ h => List.mem_append_left _ (List.mem_append_left _ (List.mem_append_right _ h))) (by decide +kernel))) (goodIn_sub (fun _ h => List.mem_append_left _ (List.mem_append_right _ h)) (by decide +kernel))) (goodIn_sub (fun _ h => List.mem_append_right _ h) (by decide +kernel))
set_option maxRecDepth 20000 in
theorem gL_law_L_transfer : GoodIn wsL_law (va_wsS RL 180 yL_transfer wsL_transfer) := goodIn_app (goodIn_of _ (by decide +kernel)) ggL_law_L_transfer
set_option maxRecDepth 20000 in
theorem ggL_law_X7_transfer : GoodIn wsL_law wsX7_transfer := goodIn_r _ [795, 159, 125, 126, 127, 796, 128, 797, 129, 798, 489, 490, 491, 5, 492, 124, 136, 160, 137, 244, 245, 246, 247, 161, 162, 163, 212, 213, 214, 215, 799, 800, 801, 802, 606, 608, 607, 207, 208, 572, 573, 574, 575, 563, 139, 138, 675, 676, 677, 678, 609, 610, 611, 612, 209, 210, 211, 265, 266, 267, 268, 910, 911, 912, 913, 914, 915, 916, 917, 918, 919, 920, 921, 922, 923, 924, 925, 926, 927, 928, 929, 930, 931, 932, 933, 934, 935, 936, 937, 938, 939, 940, 941, 942, 943] (by decide +kernel) (by decide +kernel)
set_option maxRecDepth 20000 in
theorem gL_law_X7_transfer : GoodIn wsL_law (wsV RL 182 RX7 yX7_transfer wsX7_transfer) := goodIn_app (goodIn_of _ (by decide +kernel)) ggL_law_X7_transfer
set_option maxRecDepth 20000 in
theorem ggL_law_L_distribute : GoodIn wsL_law wsL_distribute := goodIn_ca (goodIn_ca (goodIn_ca (goodIn_r _ [805, 171, 146, 172, 806, 807, 808, 2, 809, 151, 152, 177, 178, 27, 179, 180, 181, 182, 183, 184, 185, 186, 187, 188, 17, 189, 598, 599, 600, 601, 23, 525, 526, 527, 22, 528, 88, 89, 90, 91, 92, 529, 86, 530, 531, 532, 533, 94, 534, 535, 536, 537, 538, 539, 540, 541, 542, 543, 544, 545, 546, 547, 548, 549, 87, 550, 551, 552, 553, 45, 554, 55, 56, 555, 556, 557, 558, 57, 810, 811, 812, 26, 813, 100, 99, 814, 815, 102, 816, 664, 665, 666, 624, 258, 259, 260, 817, 818, 819, 820, 821, 822, 823, 824, 825, 826, 827, 828, 829, 830, 831, 832, 833, 834, 835, 836, 837, 838, 839, 840, 841, 196, 197, 842, 843, 844, 845, 902, 903, 904, 905, 906, 907, 908, 909, 944, 945, 946, 947, 948, 949, 950, 951, 952, 953, 954, 955, 968, 969, 970, 971, 972, 973, 956, 957, 958] (by decide +kernel) (by decide +kernel)) (goodIn_sub (fun _ h => List.mem_append_left _ (List.mem_append_left _ (List.mem_append_right _ h))) (by decide +kernel))) (goodIn_sub (fun _ h => List.mem_append_left _ (List.mem_append_right _ h)) (by decide +kernel))) (goodIn_sub (fun _ h => List.mem_append_right _ h) (by decide +kernel))
set_option maxRecDepth 20000 in
theorem gL_law_L_distribute : GoodIn wsL_law (va_wsS RL 183 yL_distribute wsL_distribute) := goodIn_app (goodIn_of _ (by decide +kernel)) ggL_law_L_distribute
set_option maxRecDepth 20000 in
theorem ggL_law_X7_distribute : GoodIn wsL_law wsX7_distribute := goodIn_r _ [849, 159, 563, 138, 141, 128, 129, 564, 565, 566, 5, 567, 212, 213, 214, 215, 124, 161, 162, 163, 568, 569, 570, 571, 489, 490, 491, 492, 136, 160, 125, 126, 137, 572, 573, 574, 575, 139, 850, 851, 852, 853, 679, 680, 681, 682, 265, 266, 267, 268, 675, 676, 677, 678, 854, 855, 856, 209, 210, 211, 910, 911, 912, 913, 914, 915, 916, 917, 918, 919, 920, 921, 922, 923, 924, 925, 926, 927, 928, 929, 930, 931, 932, 933, 934, 935, 936, 937, 938, 939, 940, 941, 942, 943] (by decide +kernel) (by decide +kernel)
set_option maxRecDepth 20000 in
theorem gL_law_X7_distribute : GoodIn wsL_law (wsV RL 185 RX7 yX7_distribute wsX7_distribute) := goodIn_app (goodIn_of _ (by decide +kernel)) ggL_law_X7_distribute
set_option maxRecDepth 20000 in
theorem ggL_law_X6_digest : GoodIn wsL_law wsX6_digest := goodIn_r _ [860, 31, 861, 17, 189, 716, 717, 718, 30, 719, 108, 720, 721, 722, 723, 724, 107, 725, 726, 727, 728, 729, 730, 537, 538, 539, 731, 732, 733, 734, 556, 557, 45, 558, 55, 57, 735, 736, 737, 738, 739, 76, 73, 77, 740, 552, 553, 554, 56, 741, 742, 743, 744, 745, 746, 747, 748, 862, 863, 2, 864, 865, 866, 867, 868, 869, 19, 153, 310, 311, 284, 255, 256, 484, 870, 871, 872, 873, 512, 874, 695, 696, 697, 698, 699, 700, 701, 23, 596, 597, 525, 526, 527, 22, 528, 88, 89, 90, 91, 92, 529, 86, 530, 531, 532, 533, 94, 534, 535, 536, 540, 541, 542, 543, 544, 545, 546, 547, 548, 549, 87, 550, 551, 555, 702, 703, 875, 876, 877, 878, 879, 880, 881, 882, 595, 620, 621, 622, 623, 624, 258, 259, 260, 640, 641, 642, 643, 644, 645, 646, 647, 773, 774, 775, 776, 769, 770, 771, 772, 883, 884, 885, 886, 38, 37, 902, 903, 904, 905, 906, 907, 908, 909, 944, 945, 946, 947, 959, 960, 968, 969, 970, 971, 972, 973, 948, 949, 950, 951, 952, 953, 954, 955] (by decide +kernel) (by decide +kernel)
set_option maxRecDepth 20000 in
theorem gL_law_X6_digest : GoodIn wsL_law (wsV RL 186 RX6 yX6_digest wsX6_digest) := goodIn_app (goodIn_of _ (by decide +kernel)) ggL_law_X6_digest
set_option maxRecDepth 20000 in
theorem ggL_law_X7_digest : GoodIn wsL_law wsX7_digest := goodIn_r _ [890, 159, 891, 892, 124, 160, 137, 136, 339, 130, 893, 894, 895, 5, 896, 897, 489, 490, 491, 492, 125, 126, 316, 317, 318, 319, 127, 128, 129, 708, 709, 710, 711, 607, 608, 572, 573, 574, 575, 563, 139, 138, 609, 610, 611, 612, 606, 753, 754, 755, 756, 140, 757, 758, 759, 760, 761, 898, 899, 900, 901, 629, 630, 631, 632, 265, 266, 267, 268, 652, 653, 654, 655, 781, 782, 783, 784, 910, 911, 912, 913, 914, 915, 916, 917, 918, 919, 920, 921, 922, 923, 924, 925, 926, 927, 928, 929, 930, 931, 932, 933, 934, 935, 936, 937, 938, 939, 940, 941, 942, 943] (by decide +kernel) (by decide +kernel)
set_option maxRecDepth 20000 in
theorem gL_law_X7_digest : GoodIn wsL_law (wsV RL 190 RX7 yX7_digest wsX7_digest) := goodIn_app (goodIn_of _ (by decide +kernel)) ggL_law_X7_digest
