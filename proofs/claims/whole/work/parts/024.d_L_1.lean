set_option maxRecDepth 20000 in
theorem ggL_law_X9_init : GoodIn wsL_law wsX9_init := goodIn_r _ [9, 10, 11, 12, 13, 14, 15, 16, 17, 18, 19, 20, 21, 22, 23, 24, 25, 26, 27, 28, 29, 30, 31, 32, 33, 34, 35, 36, 37, 38, 39, 40, 41, 42, 43, 44, 45, 46, 47, 48, 49, 50, 51, 52, 53, 54, 55, 56, 57, 58, 59, 60, 61, 62, 63, 64, 65, 66, 67, 68, 69, 70, 71, 72, 73, 74, 75, 76, 77, 78, 79, 80, 81, 82, 83, 84, 2, 85, 86, 87, 88, 89, 90, 91, 92, 93, 94, 95, 96, 97, 98, 99, 100, 101, 102, 103, 104, 105, 106, 107, 108, 109, 110, 111, 112, 113, 114, 115, 116, 117, 118, 119, 120, 121, 122, 123, 124, 972, 973, 916, 917, 918, 919, 920, 921, 922, 923, 924, 974, 975, 976, 977, 978, 979, 980, 981, 982, 983, 984, 985, 986, 987, 988, 989, 990, 991, 992, 993, 994, 995, 996, 997, 998, 999, 1000, 1001, 1002, 1003, 1004, 1005, 1006, 1007, 1008, 1009, 1010, 1011, 1012, 1013, 1014, 1015, 1016, 1017, 1018, 1019, 1020] (by decide +kernel) (by decide +kernel)
set_option maxRecDepth 20000 in
theorem gL_law_X9_init : GoodIn wsL_law (wsX9_init) := ggL_law_X9_init
set_option maxRecDepth 20000 in
theorem ggL_law_X10_init : GoodIn wsL_law wsX10_init := goodIn_r _ [127, 128, 11, 12, 48, 129, 58, 130, 131, 132, 133, 134, 135, 136, 137, 138, 139, 140, 141, 142, 143, 144, 145, 146, 147, 148, 122, 149, 150, 151, 152, 153, 154, 155, 156, 157, 158, 159, 160, 161, 162, 925, 926, 927, 928, 929, 930, 931, 932, 933, 934, 935, 936, 937, 938, 939, 940, 941, 942, 943, 944, 945, 946, 947, 948, 949, 950, 951, 952, 953, 954, 955, 956, 957, 958, 959, 960, 961, 962, 963, 964, 965, 966, 967, 968, 969, 970, 971] (by decide +kernel) (by decide +kernel)
set_option maxRecDepth 20000 in
theorem gL_law_X10_init : GoodIn wsL_law (wsX10_init) := ggL_law_X10_init
set_option maxRecDepth 20000 in
theorem ggL_law_X9_type : GoodIn wsL_law wsX9_type := goodIn_r _ [166, 16, 167, 168, 169, 15, 170, 171, 49, 916, 917, 918, 919, 920, 921, 922, 923, 924, 972, 973] (by decide +kernel) (by decide +kernel)
set_option maxRecDepth 20000 in
theorem gL_law_X9_type : GoodIn wsL_law (wsV RL 15 RX9 yX9_type wsX9_type) := goodIn_app (goodIn_of _ (by decide +kernel)) ggL_law_X9_type
set_option maxRecDepth 20000 in
theorem ggL_law_X10_type : GoodIn wsL_law wsX10_type := goodIn_r _ [175, 176, 177, 129, 178, 179, 180, 5, 181, 925, 926, 927, 928, 929, 930, 931, 932, 933, 934, 935, 936, 937, 938, 939, 940, 941, 942, 943, 944, 945, 946, 947, 948, 949, 950, 951, 952, 953, 954, 955, 956, 957, 958, 959, 960, 961, 962, 963, 964, 965, 966, 967, 968, 969, 970, 971] (by decide +kernel) (by decide +kernel)
set_option maxRecDepth 20000 in
theorem gL_law_X10_type : GoodIn wsL_law (wsV RL 19 RX10 yX10_type wsX10_type) := goodIn_app (goodIn_of _ (by decide +kernel)) ggL_law_X10_type
set_option maxRecDepth 20000 in
theorem ggL_law_X9_clear : GoodIn wsL_law wsX9_clear := goodIn_r _ [185, 16, 916, 917, 918, 919, 920, 921, 922, 923, 924, 972, 973] (by decide +kernel) (by decide +kernel)
set_option maxRecDepth 20000 in
theorem gL_law_X9_clear : GoodIn wsL_law (wsV RL 20 RX9 yX9_clear wsX9_clear) := goodIn_app (goodIn_of _ (by decide +kernel)) ggL_law_X9_clear
set_option maxRecDepth 20000 in
theorem ggL_law_X10_clear : GoodIn wsL_law wsX10_clear := goodIn_r _ [189, 177, 925, 926, 927, 928, 929, 930, 931, 932, 933, 934, 935, 936, 937, 938, 939, 940, 941, 942, 943, 944, 945, 946, 947, 948, 949, 950, 951, 952, 953, 954, 955, 956, 957, 958, 959, 960, 961, 962, 963, 964, 965, 966, 967, 968, 969, 970, 971] (by decide +kernel) (by decide +kernel)
set_option maxRecDepth 20000 in
theorem gL_law_X10_clear : GoodIn wsL_law (wsV RL 24 RX10 yX10_clear wsX10_clear) := goodIn_app (goodIn_of _ (by decide +kernel)) ggL_law_X10_clear
set_option maxRecDepth 20000 in
theorem ggL_law_X9_program : GoodIn wsL_law wsX9_program := goodIn_r _ [193, 24, 16, 20, 194, 195, 196, 23, 197, 92, 198, 199, 200, 201, 202, 203, 56, 204, 73, 72, 74, 75, 205, 206, 207, 208, 209, 210, 211, 212, 213, 214, 215, 216, 15, 217, 171, 49, 218, 219, 220, 221, 2, 222, 223, 224, 225, 226, 227, 228, 229, 230, 231, 232, 233, 234, 235, 236, 237, 238, 239, 240, 241, 242, 243, 244, 245, 246, 247, 248, 249, 250, 251, 252, 253, 69, 70, 71, 66, 67, 76, 77, 78, 79, 80, 81, 82, 83, 84, 85, 86, 87, 254, 255, 256, 19, 257, 57, 59, 258, 259, 260, 261, 262, 263, 264, 265, 266, 267, 268, 269, 270, 271, 61, 272, 916, 917, 918, 919, 920, 921, 922, 923, 924, 980, 981, 982, 983, 984, 972, 973, 974, 975, 976, 977, 978, 979, 1015, 1016, 1017, 1018, 1019, 1020] (by decide +kernel) (by decide +kernel)
set_option maxRecDepth 20000 in
theorem gL_law_X9_program : GoodIn wsL_law (wsV RL 25 RX9 yX9_program wsX9_program) := goodIn_app (goodIn_of _ (by decide +kernel)) ggL_law_X9_program
set_option maxRecDepth 20000 in
theorem ggL_law_X10_program : GoodIn wsL_law wsX10_program := goodIn_r _ [276, 277, 278, 279, 280, 281, 130, 132, 133, 134, 131, 162, 138, 282, 177, 283, 284, 285, 5, 286, 287, 288, 289, 290, 291, 292, 293, 294, 295, 296, 297, 129, 179, 180, 181, 298, 299, 300, 301, 302, 303, 304, 305, 306, 307, 308, 309, 310, 311, 312, 313, 925, 926, 927, 928, 929, 930, 931, 932, 933, 934, 935, 936, 937, 938, 939, 940, 941, 942, 943, 944, 945, 946, 947, 948, 949, 950, 951, 952, 953, 954, 955, 956, 957, 958, 959, 960, 961, 962, 963, 964, 965, 966, 967, 968, 969, 970, 971] (by decide +kernel) (by decide +kernel)
set_option maxRecDepth 20000 in
theorem gL_law_X10_program : GoodIn wsL_law (wsV RL 28 RX10 yX10_program wsX10_program) := goodIn_app (goodIn_of _ (by decide +kernel)) ggL_law_X10_program
set_option maxRecDepth 20000 in
theorem ggL_law_X9_item : GoodIn wsL_law wsX9_item := goodIn_r _ [317, 20, 318, 319, 320, 56, 321, 72, 322, 221, 2, 222, 323, 324, 325, 326, 66, 84, 85, 916, 917, 918, 919, 920, 921, 922, 923, 924, 974, 975, 976, 977, 978, 979, 1015, 1016, 1017, 1018, 1019, 1020] (by decide +kernel) (by decide +kernel)
set_option maxRecDepth 20000 in
theorem gL_law_X9_item : GoodIn wsL_law (wsV RL 29 RX9 yX9_item wsX9_item) := goodIn_app (goodIn_of _ (by decide +kernel)) ggL_law_X9_item
set_option maxRecDepth 20000 in
theorem ggL_law_X10_item : GoodIn wsL_law wsX10_item := goodIn_r _ [330, 130, 131, 132, 133, 134, 136, 331, 332, 333, 5, 334, 162, 179, 180, 181, 335, 336, 337, 338, 135, 925, 926, 927, 928, 929, 930, 931, 932, 933, 934, 935, 936, 937, 938, 939, 940, 941, 942, 943, 944, 945, 946, 947, 948, 949, 950, 951, 952, 953, 954, 955, 956, 957, 958, 959, 960, 961, 962, 963, 964, 965, 966, 967, 968, 969, 970, 971] (by decide +kernel) (by decide +kernel)
set_option maxRecDepth 20000 in
theorem gL_law_X10_item : GoodIn wsL_law (wsV RL 33 RX10 yX10_item wsX10_item) := goodIn_app (goodIn_of _ (by decide +kernel)) ggL_law_X10_item
set_option maxRecDepth 20000 in
theorem ggL_law_X9_modulus : GoodIn wsL_law wsX9_modulus := goodIn_r _ [342, 20, 322, 221, 2, 222, 916, 917, 918, 919, 920, 921, 922, 923, 924, 974, 975, 976, 977, 978, 979] (by decide +kernel) (by decide +kernel)
set_option maxRecDepth 20000 in
theorem gL_law_X9_modulus : GoodIn wsL_law (wsV RL 34 RX9 yX9_modulus wsX9_modulus) := goodIn_app (goodIn_of _ (by decide +kernel)) ggL_law_X9_modulus
set_option maxRecDepth 20000 in
theorem ggL_law_X10_modulus : GoodIn wsL_law wsX10_modulus := goodIn_r _ [346, 347, 348, 137, 179, 180, 5, 181, 925, 926, 927, 928, 929, 930, 931, 932, 933, 934, 935, 936, 937, 938, 939, 940, 941, 942, 943, 944, 945, 946, 947, 948, 949, 950, 951, 952, 953, 954, 955, 956, 957, 958, 959, 960, 961, 962, 963, 964, 965, 966, 967, 968, 969, 970, 971] (by decide +kernel) (by decide +kernel)
set_option maxRecDepth 20000 in
theorem gL_law_X10_modulus : GoodIn wsL_law (wsV RL 38 RX10 yX10_modulus wsX10_modulus) := goodIn_app (goodIn_of _ (by decide +kernel)) ggL_law_X10_modulus
set_option maxRecDepth 20000 in
theorem ggL_law_X9_input : GoodIn wsL_law wsX9_input := goodIn_r _ [352, 20, 322, 221, 2, 222, 353, 354, 355, 356, 84, 85, 357, 86, 87, 916, 917, 918, 919, 920, 921, 922, 923, 924, 974, 975, 976, 977, 978, 979, 1015, 1016, 1017, 1018, 1019, 1020] (by decide +kernel) (by decide +kernel)
set_option maxRecDepth 20000 in
theorem gL_law_X9_input : GoodIn wsL_law (wsV RL 39 RX9 yX9_input wsX9_input) := goodIn_app (goodIn_of _ (by decide +kernel)) ggL_law_X9_input
set_option maxRecDepth 20000 in
theorem ggL_law_X10_input : GoodIn wsL_law wsX10_input := goodIn_r _ [361, 362, 138, 363, 364, 365, 5, 366, 162, 130, 179, 180, 181, 925, 926, 927, 928, 929, 930, 931, 932, 933, 934, 935, 936, 937, 938, 939, 940, 941, 942, 943, 944, 945, 946, 947, 948, 949, 950, 951, 952, 953, 954, 955, 956, 957, 958, 959, 960, 961, 962, 963, 964, 965, 966, 967, 968, 969, 970, 971] (by decide +kernel) (by decide +kernel)
set_option maxRecDepth 20000 in
theorem gL_law_X10_input : GoodIn wsL_law (wsV RL 43 RX10 yX10_input wsX10_input) := goodIn_app (goodIn_of _ (by decide +kernel)) ggL_law_X10_input
set_option maxRecDepth 20000 in
theorem ggL_law_X9_lot : GoodIn wsL_law wsX9_lot := goodIn_r _ [370, 20, 322, 221, 2, 222, 353, 354, 355, 356, 84, 85, 357, 86, 87, 916, 917, 918, 919, 920, 921, 922, 923, 924, 974, 975, 976, 977, 978, 979] (by decide +kernel) (by decide +kernel)
set_option maxRecDepth 20000 in
theorem gL_law_X9_lot : GoodIn wsL_law (wsV RL 44 RX9 yX9_lot wsX9_lot) := goodIn_app (goodIn_of _ (by decide +kernel)) ggL_law_X9_lot
set_option maxRecDepth 20000 in
theorem ggL_law_X10_lot : GoodIn wsL_law wsX10_lot := goodIn_r _ [374, 375, 362, 139, 179, 180, 5, 181, 925, 926, 927, 928, 929, 930, 931, 932, 933, 934, 935, 936, 937, 938, 939, 940, 941, 942, 943, 944, 945, 946, 947, 948, 949, 950, 951, 952, 953, 954, 955, 956, 957, 958, 959, 960, 961, 962, 963, 964, 965, 966, 967, 968, 969, 970, 971] (by decide +kernel) (by decide +kernel)
set_option maxRecDepth 20000 in
theorem gL_law_X10_lot : GoodIn wsL_law (wsV RL 47 RX10 yX10_lot wsX10_lot) := goodIn_app (goodIn_of _ (by decide +kernel)) ggL_law_X10_lot
set_option maxRecDepth 20000 in
theorem ggL_law_X9_lie : GoodIn wsL_law wsX9_lie := goodIn_r _ [379, 20, 318, 319, 320, 56, 321, 72, 380, 381, 2, 382, 322, 221, 222, 323, 324, 325, 326, 66, 84, 85, 383, 384, 385, 19, 386, 61, 272, 86, 87, 916, 917, 918, 919, 920, 921, 922, 923, 924, 974, 975, 976, 977, 978, 979, 1015, 1016, 1017, 1018, 1019, 1020] (by decide +kernel) (by decide +kernel)
set_option maxRecDepth 20000 in
theorem gL_law_X9_lie : GoodIn wsL_law (wsV RL 48 RX9 yX9_lie wsX9_lie) := goodIn_app (goodIn_of _ (by decide +kernel)) ggL_law_X9_lie
set_option maxRecDepth 20000 in
theorem ggL_law_X10_lie : GoodIn wsL_law wsX10_lie := goodIn_r _ [390, 130, 362, 282, 140, 141, 142, 331, 332, 333, 5, 334, 162, 179, 180, 181, 391, 392, 393, 347, 925, 926, 927, 928, 929, 930, 931, 932, 933, 934, 935, 936, 937, 938, 939, 940, 941, 942, 943, 944, 945, 946, 947, 948, 949, 950, 951, 952, 953, 954, 955, 956, 957, 958, 959, 960, 961, 962, 963, 964, 965, 966, 967, 968, 969, 970, 971] (by decide +kernel) (by decide +kernel)
set_option maxRecDepth 20000 in
theorem gL_law_X10_lie : GoodIn wsL_law (wsV RL 51 RX10 yX10_lie wsX10_lie) := goodIn_app (goodIn_of _ (by decide +kernel)) ggL_law_X10_lie
set_option maxRecDepth 20000 in
theorem ggL_law_X9_honest : GoodIn wsL_law wsX9_honest := goodIn_r _ [397, 20, 398, 269, 270, 19, 271, 61, 272, 262, 2, 263, 264, 265, 266, 267, 916, 917, 918, 919, 920, 921, 922, 923, 924, 974, 975, 976, 977, 978, 979] (by decide +kernel) (by decide +kernel)
set_option maxRecDepth 20000 in
theorem gL_law_X9_honest : GoodIn wsL_law (wsV RL 52 RX9 yX9_honest wsX9_honest) := goodIn_app (goodIn_of _ (by decide +kernel)) ggL_law_X9_honest
set_option maxRecDepth 20000 in
theorem ggL_law_X10_honest : GoodIn wsL_law wsX10_honest := goodIn_r _ [402, 282, 925, 926, 927, 928, 929, 930, 931, 932, 933, 934, 935, 936, 937, 938, 939, 940, 941, 942, 943, 944, 945, 946, 947, 948, 949, 950, 951, 952, 953, 954, 955, 956, 957, 958, 959, 960, 961, 962, 963, 964, 965, 966, 967, 968, 969, 970, 971] (by decide +kernel) (by decide +kernel)
set_option maxRecDepth 20000 in
theorem gL_law_X10_honest : GoodIn wsL_law (wsV RL 55 RX10 yX10_honest wsX10_honest) := goodIn_app (goodIn_of _ (by decide +kernel)) ggL_law_X10_honest
set_option maxRecDepth 20000 in
theorem ggL_law_X9_end : GoodIn wsL_law wsX9_end := goodIn_r _ [406, 28, 20, 407, 408, 409, 27, 410, 411, 412, 413, 414, 415, 416, 417, 418, 419, 420, 421, 422, 82, 423, 424, 425, 426, 19, 427, 59, 62, 84, 2, 85, 428, 429, 430, 431, 432, 433, 96, 434, 435, 436, 437, 438, 439, 440, 441, 442, 443, 444, 445, 100, 86, 87, 446, 447, 448, 449, 450, 451, 452, 453, 454, 455, 456, 457, 99, 458, 459, 460, 461, 97, 98, 462, 463, 464, 465, 466, 467, 468, 469, 470, 471, 472, 473, 916, 917, 918, 919, 920, 921, 922, 923, 924, 974, 975, 976, 977, 978, 979, 985, 986, 987, 988, 989, 990, 991, 992, 993, 994, 995, 996, 997, 1015, 1016, 1017, 1018, 1019, 1020] (by decide +kernel) (by decide +kernel)
set_option maxRecDepth 20000 in
theorem gL_law_X9_end : GoodIn wsL_law (wsV RL 56 RX9 yX9_end wsX9_end) := goodIn_app (goodIn_of _ (by decide +kernel)) ggL_law_X9_end
set_option maxRecDepth 20000 in
theorem ggL_law_X10_end : GoodIn wsL_law wsX10_end := goodIn_r _ [477, 478, 479, 480, 481, 5, 482, 145, 139, 483, 484, 485, 486, 487, 162, 131, 132, 133, 130, 143, 138, 134, 144, 488, 489, 490, 491, 137, 492, 493, 494, 495, 146, 496, 497, 498, 499, 148, 147, 500, 501, 502, 503, 282, 140, 141, 142, 925, 926, 927, 928, 929, 930, 931, 932, 933, 934, 935, 936, 937, 938, 939, 940, 941, 942, 943, 944, 945, 946, 947, 948, 949, 950, 951, 952, 953, 954, 955, 956, 957, 958, 959, 960, 961, 962, 963, 964, 965, 966, 967, 968, 969, 970, 971] (by decide +kernel) (by decide +kernel)
set_option maxRecDepth 20000 in
theorem gL_law_X10_end : GoodIn wsL_law (wsV RL 59 RX10 yX10_end wsX10_end) := goodIn_app (goodIn_of _ (by decide +kernel)) ggL_law_X10_end
set_option maxRecDepth 20000 in
theorem ggL_law_X9_share : GoodIn wsL_law wsX9_share := goodIn_r _ [507, 20, 28, 318, 319, 320, 56, 321, 72, 380, 381, 2, 382, 322, 221, 222, 407, 408, 409, 27, 410, 411, 412, 413, 414, 415, 416, 417, 418, 419, 420, 421, 422, 82, 423, 424, 425, 426, 19, 427, 59, 62, 84, 85, 428, 429, 430, 431, 432, 433, 96, 434, 435, 436, 437, 438, 439, 440, 441, 442, 443, 444, 445, 100, 86, 87, 446, 447, 448, 449, 450, 451, 452, 453, 454, 455, 456, 457, 99, 458, 459, 460, 461, 97, 98, 462, 463, 464, 465, 466, 467, 468, 469, 323, 324, 325, 326, 66, 356, 508, 509, 510, 511, 916, 917, 918, 919, 920, 921, 922, 923, 924, 974, 975, 976, 977, 978, 979, 985, 986, 987, 988, 989, 990, 991, 992, 993, 994, 995, 996, 997, 1015, 1016, 1017, 1018, 1019, 1020] (by decide +kernel) (by decide +kernel)
set_option maxRecDepth 20000 in
theorem gL_law_X9_share : GoodIn wsL_law (wsV RL 60 RX9 yX9_share wsX9_share) := goodIn_app (goodIn_of _ (by decide +kernel)) ggL_law_X9_share
set_option maxRecDepth 20000 in
theorem ggL_law_X10_share : GoodIn wsL_law wsX10_share := goodIn_r _ [515, 144, 331, 332, 333, 5, 334, 162, 179, 180, 181, 391, 392, 393, 347, 479, 480, 481, 482, 145, 139, 483, 484, 485, 486, 487, 131, 132, 133, 130, 143, 138, 134, 478, 488, 489, 490, 491, 137, 492, 493, 494, 495, 146, 496, 497, 498, 499, 148, 147, 500, 501, 502, 503, 282, 140, 141, 142, 925, 926, 927, 928, 929, 930, 931, 932, 933, 934, 935, 936, 937, 938, 939, 940, 941, 942, 943, 944, 945, 946, 947, 948, 949, 950, 951, 952, 953, 954, 955, 956, 957, 958, 959, 960, 961, 962, 963, 964, 965, 966, 967, 968, 969, 970, 971] (by decide +kernel) (by decide +kernel)
set_option maxRecDepth 20000 in
theorem gL_law_X10_share : GoodIn wsL_law (wsV RL 63 RX10 yX10_share wsX10_share) := goodIn_app (goodIn_of _ (by decide +kernel)) ggL_law_X10_share
set_option maxRecDepth 20000 in
theorem ggL_law_X9_seen : GoodIn wsL_law wsX9_seen := goodIn_r _ [519, 28, 20, 380, 381, 2, 382, 322, 221, 222, 407, 408, 409, 27, 410, 411, 412, 413, 414, 415, 416, 417, 418, 419, 420, 421, 422, 82, 423, 424, 425, 426, 19, 427, 59, 62, 84, 85, 428, 429, 430, 431, 432, 433, 96, 434, 435, 436, 437, 438, 439, 440, 441, 442, 443, 444, 445, 100, 86, 87, 446, 447, 448, 449, 450, 451, 452, 453, 454, 455, 456, 457, 99, 458, 459, 460, 461, 97, 98, 462, 463, 464, 465, 466, 467, 468, 469, 356, 916, 917, 918, 919, 920, 921, 922, 923, 924, 985, 986, 987, 988, 989, 990, 991, 992, 993, 994, 995, 996, 997, 974, 975, 976, 977, 978, 979, 1015, 1016, 1017, 1018, 1019, 1020] (by decide +kernel) (by decide +kernel)
set_option maxRecDepth 20000 in
theorem gL_law_X9_seen : GoodIn wsL_law (wsV RL 64 RX9 yX9_seen wsX9_seen) := goodIn_app (goodIn_of _ (by decide +kernel)) ggL_law_X9_seen
set_option maxRecDepth 20000 in
theorem ggL_law_X10_seen : GoodIn wsL_law wsX10_seen := goodIn_r _ [523, 487, 146, 391, 392, 5, 393, 347, 179, 180, 181, 479, 480, 481, 482, 145, 139, 483, 484, 485, 486, 162, 131, 132, 133, 130, 143, 138, 134, 478, 144, 488, 489, 490, 491, 137, 492, 493, 494, 495, 496, 497, 498, 499, 148, 147, 500, 501, 502, 503, 282, 140, 141, 142, 925, 926, 927, 928, 929, 930, 931, 932, 933, 934, 935, 936, 937, 938, 939, 940, 941, 942, 943, 944, 945, 946, 947, 948, 949, 950, 951, 952, 953, 954, 955, 956, 957, 958, 959, 960, 961, 962, 963, 964, 965, 966, 967, 968, 969, 970, 971] (by decide +kernel) (by decide +kernel)
set_option maxRecDepth 20000 in
theorem gL_law_X10_seen : GoodIn wsL_law (wsV RL 67 RX10 yX10_seen wsX10_seen) := goodIn_app (goodIn_of _ (by decide +kernel)) ggL_law_X10_seen
set_option maxRecDepth 20000 in
theorem ggL_law_X9_spy : GoodIn wsL_law wsX9_spy := goodIn_r _ [527, 20, 44, 28, 380, 381, 2, 382, 322, 221, 222, 528, 529, 530, 56, 531, 74, 75, 532, 533, 534, 535, 536, 537, 19, 538, 57, 539, 425, 426, 427, 59, 62, 84, 85, 428, 429, 540, 541, 542, 43, 543, 123, 124, 544, 545, 546, 266, 547, 262, 263, 264, 265, 267, 548, 412, 413, 27, 414, 415, 416, 417, 418, 419, 420, 421, 422, 82, 423, 424, 430, 431, 432, 433, 96, 434, 435, 436, 437, 438, 439, 440, 441, 442, 443, 444, 445, 100, 86, 87, 446, 447, 448, 449, 450, 451, 452, 453, 454, 455, 456, 457, 99, 458, 459, 460, 461, 97, 98, 462, 463, 464, 465, 466, 467, 468, 469, 549, 550, 551, 552, 553, 554, 555, 556, 557, 558, 559, 560, 561, 562, 563, 564, 565, 566, 567, 568, 569, 570, 571, 572, 573, 574, 916, 917, 918, 919, 920, 921, 922, 923, 924, 974, 975, 976, 977, 978, 979, 1012, 1013, 1014, 1015, 1016, 1017, 1018, 1019, 1020, 985, 986, 987, 988, 989, 990, 991, 992, 993, 994, 995, 996, 997] (by decide +kernel) (by decide +kernel)
set_option maxRecDepth 20000 in
theorem gL_law_X9_spy : GoodIn wsL_law (wsV RL 68 RX9 yX9_spy wsX9_spy) := goodIn_app (goodIn_of _ (by decide +kernel)) ggL_law_X9_spy
set_option maxRecDepth 20000 in
theorem ggL_law_X10_spy : GoodIn wsL_law wsX10_spy := goodIn_r _ [578, 149, 391, 392, 5, 393, 347, 179, 180, 181, 579, 580, 581, 582, 363, 364, 365, 366, 162, 130, 583, 584, 585, 586, 137, 587, 588, 589, 590, 145, 487, 146, 483, 484, 485, 486, 131, 132, 133, 143, 138, 134, 478, 144, 488, 489, 490, 491, 492, 493, 494, 495, 496, 497, 498, 499, 148, 147, 500, 501, 502, 503, 282, 140, 141, 142, 591, 592, 593, 594, 925, 926, 927, 928, 929, 930, 931, 932, 933, 934, 935, 936, 937, 938, 939, 940, 941, 942, 943, 944, 945, 946, 947, 948, 949, 950, 951, 952, 953, 954, 955, 956, 957, 958, 959, 960, 961, 962, 963, 964, 965, 966, 967, 968, 969, 970, 971] (by decide +kernel) (by decide +kernel)
set_option maxRecDepth 20000 in
theorem gL_law_X10_spy : GoodIn wsL_law (wsV RL 71 RX10 yX10_spy wsX10_spy) := goodIn_app (goodIn_of _ (by decide +kernel)) ggL_law_X10_spy
set_option maxRecDepth 20000 in
theorem ggL_law_X9_tells : GoodIn wsL_law wsX9_tells := goodIn_r _ [598, 20, 28, 380, 381, 2, 382, 322, 221, 222, 599, 600, 601, 56, 602, 72, 603, 324, 325, 326, 66, 84, 85, 532, 533, 534, 604, 605, 606, 27, 607, 416, 101, 424, 425, 426, 19, 427, 59, 62, 428, 429, 86, 87, 608, 609, 610, 611, 102, 612, 613, 614, 615, 616, 617, 618, 619, 620, 916, 917, 918, 919, 920, 921, 922, 923, 924, 974, 975, 976, 977, 978, 979, 1015, 1016, 1017, 1018, 1019, 1020, 985, 986, 987, 988, 989, 990, 991, 992, 993, 994, 995, 996, 997] (by decide +kernel) (by decide +kernel)
set_option maxRecDepth 20000 in
theorem gL_law_X9_tells : GoodIn wsL_law (wsV RL 72 RX9 yX9_tells wsX9_tells) := goodIn_app (goodIn_of _ (by decide +kernel)) ggL_law_X9_tells
set_option maxRecDepth 20000 in
theorem ggL_law_X10_tells : GoodIn wsL_law wsX10_tells := goodIn_r _ [624, 162, 130, 151, 138, 134, 137, 391, 392, 5, 393, 347, 179, 180, 181, 583, 584, 585, 586, 625, 626, 627, 628, 150, 131, 132, 133, 488, 489, 490, 491, 925, 926, 927, 928, 929, 930, 931, 932, 933, 934, 935, 936, 937, 938, 939, 940, 941, 942, 943, 944, 945, 946, 947, 948, 949, 950, 951, 952, 953, 954, 955, 956, 957, 958, 959, 960, 961, 962, 963, 964, 965, 966, 967, 968, 969, 970, 971] (by decide +kernel) (by decide +kernel)
set_option maxRecDepth 20000 in
theorem gL_law_X10_tells : GoodIn wsL_law (wsV RL 75 RX10 yX10_tells wsX10_tells) := goodIn_app (goodIn_of _ (by decide +kernel)) ggL_law_X10_tells
