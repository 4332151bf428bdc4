set_option maxRecDepth 20000 in
theorem ggL_law_X9_init : GoodIn wsL_law wsX9_init := goodIn_r _ [9, 10, 11, 12, 13, 14, 15, 16, 17, 18, 19, 20, 21, 22, 23, 24, 25, 26, 27, 28, 29, 30, 31, 32, 33, 34, 35, 36, 37, 38, 39, 40, 41, 42, 43, 44, 45, 46, 47, 48, 49, 50, 51, 52, 53, 54, 55, 56, 57, 58, 59, 60, 61, 62, 63, 64, 65, 66, 67, 68, 69, 70, 71, 72, 73, 74, 75, 76, 77, 78, 79, 80, 81, 82, 83, 84, 2, 85, 86, 87, 88, 89, 90, 91, 92, 93, 94, 95, 96, 97, 98, 99, 100, 101, 102, 103, 104, 105, 106, 107, 108, 109, 110, 111, 112, 113, 114, 115, 116, 117, 118, 119, 120, 121, 122, 123, 124, 972, 973, 916, 917, 918, 919, 920, 921, 922, 923, 924, 974, 975, 976, 977, 978, 979, 980, 981, 982, 983, 984, 985, 986, 987, 988, 989, 990, 991, 992, 993, 994, 995, 996, 997, 998, 999, 1000, 1001, 1002, 1003, 1004, 1005, 1006, 1007, 1008, 1009, 1010, 1011, 1012, 1013, 1014, 1015, 1016, 1017, 1018, 1019, 1020] rfl (by decide +kernel)
set_option maxRecDepth 20000 in
theorem gL_law_X9_init : GoodIn wsL_law (wsX9_init) := ggL_law_X9_init
set_option maxRecDepth 20000 in
theorem ggL_law_X10_init : GoodIn wsL_law wsX10_init := goodIn_r _ [127, 128, 11, 12, 48, 129, 58, 130, 131, 132, 133, 134, 135, 136, 137, 138, 139, 140, 141, 142, 143, 144, 145, 146, 147, 148, 122, 149, 150, 151, 152, 153, 154, 155, 156, 157, 158, 159, 160, 161, 162, 925, 926, 927, 928, 929, 930, 931, 932, 933, 934, 935, 936, 937, 938, 939, 940, 941, 942, 943, 944, 945, 946, 947, 948, 949, 950, 951, 952, 953, 954, 955, 956, 957, 958, 959, 960, 961, 962, 963, 964, 965, 966, 967, 968, 969, 970, 971] rfl (by decide +kernel)
set_option maxRecDepth 20000 in
theorem gL_law_X10_init : GoodIn wsL_law (wsX10_init) := ggL_law_X10_init
set_option maxRecDepth 20000 in
theorem ggL_law_X9_type : GoodIn wsL_law wsX9_type := goodIn_r _ [166, 16, 167, 168, 169, 15, 170, 171, 49, 916, 917, 918, 919, 920, 921, 922, 923, 924, 972, 973] rfl (by decide +kernel)
set_option maxRecDepth 20000 in
theorem gL_law_X9_type : GoodIn wsL_law (wsV RL 15 RX9 yX9_type wsX9_type) := goodIn_app (goodIn_of _ (by decide +kernel)) ggL_law_X9_type
set_option maxRecDepth 20000 in
theorem ggL_law_X10_type : GoodIn wsL_law wsX10_type := goodIn_r _ [175, 176, 177, 129, 178, 179, 180, 5, 181, 925, 926, 927, 928, 929, 930, 931, 932, 933, 934, 935, 936, 937, 938, 939, 940, 941, 942, 943, 944, 945, 946, 947, 948, 949, 950, 951, 952, 953, 954, 955, 956, 957, 958, 959, 960, 961, 962, 963, 964, 965, 966, 967, 968, 969, 970, 971] rfl (by decide +kernel)
set_option maxRecDepth 20000 in
theorem gL_law_X10_type : GoodIn wsL_law (wsV RL 19 RX10 yX10_type wsX10_type) := goodIn_app (goodIn_of _ (by decide +kernel)) ggL_law_X10_type
set_option maxRecDepth 20000 in
theorem ggL_law_X9_clear : GoodIn wsL_law wsX9_clear := goodIn_r _ [185, 16, 916, 917, 918, 919, 920, 921, 922, 923, 924, 972, 973] rfl (by decide +kernel)
set_option maxRecDepth 20000 in
theorem gL_law_X9_clear : GoodIn wsL_law (wsV RL 20 RX9 yX9_clear wsX9_clear) := goodIn_app (goodIn_of _ (by decide +kernel)) ggL_law_X9_clear
set_option maxRecDepth 20000 in
theorem ggL_law_X10_clear : GoodIn wsL_law wsX10_clear := goodIn_r _ [189, 177, 925, 926, 927, 928, 929, 930, 931, 932, 933, 934, 935, 936, 937, 938, 939, 940, 941, 942, 943, 944, 945, 946, 947, 948, 949, 950, 951, 952, 953, 954, 955, 956, 957, 958, 959, 960, 961, 962, 963, 964, 965, 966, 967, 968, 969, 970, 971] rfl (by decide +kernel)
set_option maxRecDepth 20000 in
theorem gL_law_X10_clear : GoodIn wsL_law (wsV RL 24 RX10 yX10_clear wsX10_clear) := goodIn_app (goodIn_of _ (by decide +kernel)) ggL_law_X10_clear
set_option maxRecDepth 20000 in
theorem ggL_law_X9_program : GoodIn wsL_law wsX9_program := goodIn_r _ [193, 24, 16, 20, 194, 195, 196, 23, 197, 92, 198, 199, 200, 201, 202, 203, 56, 204, 73, 72, 74, 75, 205, 206, 207, 208, 209, 210, 211, 212, 213, 214, 215, 216, 15, 217, 171, 49, 218, 219, 220, 221, 2, 222, 223, 224, 225, 226, 227, 228, 229, 230, 231, 232, 233, 234, 235, 236, 237, 238, 239, 240, 241, 242, 243, 244, 245, 246, 247, 248, 249, 250, 251, 252, 253, 69, 70, 71, 66, 67, 76, 77, 78, 79, 80, 81, 82, 83, 84, 85, 86, 87, 254, 255, 256, 19, 257, 57, 59, 258, 259, 260, 261, 262, 263, 264, 265, 266, 267, 268, 269, 270, 271, 61, 272, 916, 917, 918, 919, 920, 921, 922, 923, 924, 980, 981, 982, 983, 984, 972, 973, 974, 975, 976, 977, 978, 979, 1015, 1016, 1017, 1018, 1019, 1020] rfl (by decide +kernel)
set_option maxRecDepth 20000 in
theorem gL_law_X9_program : GoodIn wsL_law (wsV RL 25 RX9 yX9_program wsX9_program) := goodIn_app (goodIn_of _ (by decide +kernel)) ggL_law_X9_program
set_option maxRecDepth 20000 in
theorem ggL_law_X10_program : GoodIn wsL_law wsX10_program := goodIn_r _ [276, 277, 278, 279, 280, 281, 130, 132, 133, 134, 131, 162, 138, 282, 177, 283, 284, 285, 5, 286, 287, 288, 289, 290, 291, 292, 293, 294, 295, 296, 297, 129, 179, 180, 181, 298, 299, 300, 301, 302, 303, 304, 305, 306, 307, 308, 309, 310, 311, 312, 313, 925, 926, 927, 928, 929, 930, 931, 932, 933, 934, 935, 936, 937, 938, 939, 940, 941, 942, 943, 944, 945, 946, 947, 948, 949, 950, 951, 952, 953, 954, 955, 956, 957, 958, 959, 960, 961, 962, 963, 964, 965, 966, 967, 968, 969, 970, 971] rfl (by decide +kernel)
set_option maxRecDepth 20000 in
theorem gL_law_X10_program : GoodIn wsL_law (wsV RL 28 RX10 yX10_program wsX10_program) := goodIn_app (goodIn_of _ (by decide +kernel)) ggL_law_X10_program
set_option maxRecDepth 20000 in
theorem ggL_law_X9_item : GoodIn wsL_law wsX9_item := goodIn_r _ [317, 20, 318, 319, 320, 56, 321, 72, 322, 221, 2, 222, 323, 324, 325, 326, 66, 84, 85, 916, 917, 918, 919, 920, 921, 922, 923, 924, 974, 975, 976, 977, 978, 979, 1015, 1016, 1017, 1018, 1019, 1020] rfl (by decide +kernel)
set_option maxRecDepth 20000 in
theorem gL_law_X9_item : GoodIn wsL_law (wsV RL 29 RX9 yX9_item wsX9_item) := goodIn_app (goodIn_of _ (by decide +kernel)) ggL_law_X9_item
set_option maxRecDepth 20000 in
theorem ggL_law_X10_item : GoodIn wsL_law wsX10_item := goodIn_r _ [330, 130, 131, 132, 133, 134, 136, 331, 332, 333, 5, 334, 162, 179, 180, 181, 335, 336, 337, 338, 135, 925, 926, 927, 928, 929, 930, 931, 932, 933, 934, 935, 936, 937, 938, 939, 940, 941, 942, 943, 944, 945, 946, 947, 948, 949, 950, 951, 952, 953, 954, 955, 956, 957, 958, 959, 960, 961, 962, 963, 964, 965, 966, 967, 968, 969, 970, 971] rfl (by decide +kernel)
set_option maxRecDepth 20000 in
theorem gL_law_X10_item : GoodIn wsL_law (wsV RL 33 RX10 yX10_item wsX10_item) := goodIn_app (goodIn_of _ (by decide +kernel)) ggL_law_X10_item
set_option maxRecDepth 20000 in
theorem ggL_law_X9_modulus : GoodIn wsL_law wsX9_modulus := goodIn_r _ [342, 20, 322, 221, 2, 222, 916, 917, 918, 919, 920, 921, 922, 923, 924, 974, 975, 976, 977, 978, 979] rfl (by decide +kernel)
set_option maxRecDepth 20000 in
theorem gL_law_X9_modulus : GoodIn wsL_law (wsV RL 34 RX9 yX9_modulus wsX9_modulus) := goodIn_app (goodIn_of _ (by decide +kernel)) ggL_law_X9_modulus
set_option maxRecDepth 20000 in
theorem ggL_law_X10_modulus : GoodIn wsL_law wsX10_modulus := goodIn_r _ [346, 347, 348, 137, 179, 180, 5, 181, 925, 926, 927, 928, 929, 930, 931, 932, 933, 934, 935, 936, 937, 938, 939, 940, 941, 942, 943, 944, 945, 946, 947, 948, 949, 950, 951, 952, 953, 954, 955, 956, 957, 958, 959, 960, 961, 962, 963, 964, 965, 966, 967, 968, 969, 970, 971] rfl (by decide +kernel)
set_option maxRecDepth 20000 in
theorem gL_law_X10_modulus : GoodIn wsL_law (wsV RL 38 RX10 yX10_modulus wsX10_modulus) := goodIn_app (goodIn_of _ (by decide +kernel)) ggL_law_X10_modulus
set_option maxRecDepth 20000 in
theorem ggL_law_X9_input : GoodIn wsL_law wsX9_input := goodIn_r _ [352, 20, 322, 221, 2, 222, 353, 354, 355, 356, 84, 85, 357, 86, 87, 916, 917, 918, 919, 920, 921, 922, 923, 924, 974, 975, 976, 977, 978, 979, 1015, 1016, 1017, 1018, 1019, 1020] rfl (by decide +kernel)
set_option maxRecDepth 20000 in
theorem gL_law_X9_input : GoodIn wsL_law (wsV RL 39 RX9 yX9_input wsX9_input) := goodIn_app (goodIn_of _ (by decide +kernel)) ggL_law_X9_input
set_option maxRecDepth 20000 in
theorem ggL_law_X10_input : GoodIn wsL_law wsX10_input := goodIn_r _ [361, 362, 138, 363, 364, 365, 5, 366, 162, 130, 179, 180, 181, 925, 926, 927, 928, 929, 930, 931, 932, 933, 934, 935, 936, 937, 938, 939, 940, 941, 942, 943, 944, 945, 946, 947, 948, 949, 950, 951, 952, 953, 954, 955, 956, 957, 958, 959, 960, 961, 962, 963, 964, 965, 966, 967, 968, 969, 970, 971] rfl (by decide +kernel)
set_option maxRecDepth 20000 in
theorem gL_law_X10_input : GoodIn wsL_law (wsV RL 43 RX10 yX10_input wsX10_input) := goodIn_app (goodIn_of _ (by decide +kernel)) ggL_law_X10_input
set_option maxRecDepth 20000 in
theorem ggL_law_X9_lot : GoodIn wsL_law wsX9_lot := goodIn_r _ [370, 20, 322, 221, 2, 222, 353, 354, 355, 356, 84, 85, 357, 86, 87, 916, 917, 918, 919, 920, 921, 922, 923, 924, 974, 975, 976, 977, 978, 979] rfl (by decide +kernel)
set_option maxRecDepth 20000 in
theorem gL_law_X9_lot : GoodIn wsL_law (wsV RL 44 RX9 yX9_lot wsX9_lot) := goodIn_app (goodIn_of _ (by decide +kernel)) ggL_law_X9_lot
set_option maxRecDepth 20000 in
theorem ggL_law_X10_lot : GoodIn wsL_law wsX10_lot := goodIn_r _ [374, 375, 362, 139, 179, 180, 5, 181, 925, 926, 927, 928, 929, 930, 931, 932, 933, 934, 935, 936, 937, 938, 939, 940, 941, 942, 943, 944, 945, 946, 947, 948, 949, 950, 951, 952, 953, 954, 955, 956, 957, 958, 959, 960, 961, 962, 963, 964, 965, 966, 967, 968, 969, 970, 971] rfl (by decide +kernel)
set_option maxRecDepth 20000 in
theorem gL_law_X10_lot : GoodIn wsL_law (wsV RL 47 RX10 yX10_lot wsX10_lot) := goodIn_app (goodIn_of _ (by decide +kernel)) ggL_law_X10_lot
set_option maxRecDepth 20000 in
theorem ggL_law_X9_lie : GoodIn wsL_law wsX9_lie := goodIn_r _ [379, 20, 318, 319, 320, 56, 321, 72, 380, 381, 2, 382, 322, 221, 222, 323, 324, 325, 326, 66, 84, 85, 383, 384, 385, 19, 386, 61, 272, 86, 87, 916, 917, 918, 919, 920, 921, 922, 923, 924, 974, 975, 976, 977, 978, 979, 1015, 1016, 1017, 1018, 1019, 1020] rfl (by decide +kernel)
set_option maxRecDepth 20000 in
theorem gL_law_X9_lie : GoodIn wsL_law (wsV RL 48 RX9 yX9_lie wsX9_lie) := goodIn_app (goodIn_of _ (by decide +kernel)) ggL_law_X9_lie
set_option maxRecDepth 20000 in
theorem ggL_law_X10_lie : GoodIn wsL_law wsX10_lie := goodIn_r _ [390, 130, 362, 282, 140, 141, 142, 331, 332, 333, 5, 334, 162, 179, 180, 181, 391, 392, 393, 347, 925, 926, 927, 928, 929, 930, 931, 932, 933, 934, 935, 936, 937, 938, 939, 940, 941, 942, 943, 944, 945, 946, 947, 948, 949, 950, 951, 952, 953, 954, 955, 956, 957, 958, 959, 960, 961, 962, 963, 964, 965, 966, 967, 968, 969, 970, 971] rfl (by decide +kernel)
set_option maxRecDepth 20000 in
theorem gL_law_X10_lie : GoodIn wsL_law (wsV RL 51 RX10 yX10_lie wsX10_lie) := goodIn_app (goodIn_of _ (by decide +kernel)) ggL_law_X10_lie
set_option maxRecDepth 20000 in
theorem ggL_law_X9_honest : GoodIn wsL_law wsX9_honest := goodIn_r _ [397, 20, 398, 269, 270, 19, 271, 61, 272, 262, 2, 263, 264, 265, 266, 267, 916, 917, 918, 919, 920, 921, 922, 923, 924, 974, 975, 976, 977, 978, 979] rfl (by decide +kernel)
set_option maxRecDepth 20000 in
theorem gL_law_X9_honest : GoodIn wsL_law (wsV RL 52 RX9 yX9_honest wsX9_honest) := goodIn_app (goodIn_of _ (by decide +kernel)) ggL_law_X9_honest
set_option maxRecDepth 20000 in
theorem ggL_law_X10_honest : GoodIn wsL_law wsX10_honest := goodIn_r _ [402, 282, 925, 926, 927, 928, 929, 930, 931, 932, 933, 934, 935, 936, 937, 938, 939, 940, 941, 942, 943, 944, 945, 946, 947, 948, 949, 950, 951, 952, 953, 954, 955, 956, 957, 958, 959, 960, 961, 962, 963, 964, 965, 966, 967, 968, 969, 970, 971] rfl (by decide +kernel)
set_option maxRecDepth 20000 in
theorem gL_law_X10_honest : GoodIn wsL_law (wsV RL 55 RX10 yX10_honest wsX10_honest) := goodIn_app (goodIn_of _ (by decide +kernel)) ggL_law_X10_honest
set_option maxRecDepth 20000 in
theorem ggL_law_X9_end : GoodIn wsL_law wsX9_end := goodIn_r _ [406, 28, 20, 407, 408, 409, 27, 410, 411, 412, 413, 414, 415, 416, 417, 418, 419, 420, 421, 422, 82, 423, 424, 425, 426, 19, 427, 59, 62, 84, 2, 85, 428, 429, 430, 431, 432, 433, 96, 434, 435, 436, 437, 438, 439, 440, 441, 442, 443, 444, 445, 100, 86, 87, 446, 447, 448, 449, 450, 451, 452, 453, 454, 455, 456, 457, 99, 458, 459, 460, 461, 97, 98, 462, 463, 464, 465, 466, 467, 468, 469, 470, 471, 472, 473, 916, 917, 918, 919, 920, 921, 922, 923, 924, 974, 975, 976, 977, 978, 979, 985, 986, 987, 988, 989, 990, 991, 992, 993, 994, 995, 996, 997, 1015, 1016, 1017, 1018, 1019, 1020] rfl (by decide +kernel)
set_option maxRecDepth 20000 in
theorem gL_law_X9_end : GoodIn wsL_law (wsV RL 56 RX9 yX9_end wsX9_end) := goodIn_app (goodIn_of _ (by decide +kernel)) ggL_law_X9_end
set_option maxRecDepth 20000 in
theorem ggL_law_X10_end : GoodIn wsL_law wsX10_end := goodIn_r _ [477, 478, 479, 480, 481, 5, 482, 145, 139, 483, 484, 485, 486, 487, 162, 131, 132, 133, 130, 143, 138, 134, 144, 488, 489, 490, 491, 137, 492, 493, 494, 495, 146, 496, 497, 498, 499, 148, 147, 500, 501, 502, 503, 282, 140, 141, 142, 925, 926, 927, 928, 929, 930, 931, 932, 933, 934, 935, 936, 937, 938, 939, 940, 941, 942, 943, 944, 945, 946, 947, 948, 949, 950, 951, 952, 953, 954, 955, 956, 957, 958, 959, 960, 961, 962, 963, 964, 965, 966, 967, 968, 969, 970, 971] rfl (by decide +kernel)
set_option maxRecDepth 20000 in
theorem gL_law_X10_end : GoodIn wsL_law (wsV RL 59 RX10 yX10_end wsX10_end) := goodIn_app (goodIn_of _ (by decide +kernel)) ggL_law_X10_end
set_option maxRecDepth 20000 in
theorem ggL_law_X9_share : GoodIn wsL_law wsX9_share := goodIn_r _ [507, 20, 28, 318, 319, 320, 56, 321, 72, 380, 381, 2, 382, 322, 221, 222, 407, 408, 409, 27, 410, 411, 412, 413, 414, 415, 416, 417, 418, 419, 420, 421, 422, 82, 423, 424, 425, 426, 19, 427, 59, 62, 84, 85, 428, 429, 430, 431, 432, 433, 96, 434, 435, 436, 437, 438, 439, 440, 441, 442, 443, 444, 445, 100, 86, 87, 446, 447, 448, 449, 450, 451, 452, 453, 454, 455, 456, 457, 99, 458, 459, 460, 461, 97, 98, 462, 463, 464, 465, 466, 467, 468, 469, 323, 324, 325, 326, 66, 356, 508, 509, 510, 511, 916, 917, 918, 919, 920, 921, 922, 923, 924, 974, 975, 976, 977, 978, 979, 985, 986, 987, 988, 989, 990, 991, 992, 993, 994, 995, 996, 997, 1015, 1016, 1017, 1018, 1019, 1020] rfl (by decide +kernel)
set_option maxRecDepth 20000 in
theorem gL_law_X9_share : GoodIn wsL_law (wsV RL 60 RX9 yX9_share wsX9_share) := goodIn_app (goodIn_of _ (by decide +kernel)) ggL_law_X9_share
set_option maxRecDepth 20000 in
theorem ggL_law_X10_share : GoodIn wsL_law wsX10_share := goodIn_r _ [515, 144, 331, 332, 333, 5, 334, 162, 179, 180, 181, 391, 392, 393, 347, 479, 480, 481, 482, 145, 139, 483, 484, 485, 486, 487, 131, 132, 133, 130, 143, 138, 134, 478, 488, 489, 490, 491, 137, 492, 493, 494, 495, 146, 496, 497, 498, 499, 148, 147, 500, 501, 502, 503, 282, 140, 141, 142, 925, 926, 927, 928, 929, 930, 931, 932, 933, 934, 935, 936, 937, 938, 939, 940, 941, 942, 943, 944, 945, 946, 947, 948, 949, 950, 951, 952, 953, 954, 955, 956, 957, 958, 959, 960, 961, 962, 963, 964, 965, 966, 967, 968, 969, 970, 971] rfl (by decide +kernel)
set_option maxRecDepth 20000 in
theorem gL_law_X10_share : GoodIn wsL_law (wsV RL 63 RX10 yX10_share wsX10_share) := goodIn_app (goodIn_of _ (by decide +kernel)) ggL_law_X10_share
set_option maxRecDepth 20000 in
theorem ggL_law_X9_seen : GoodIn wsL_law wsX9_seen := goodIn_r _ [519, 28, 20, 380, 381, 2, 382, 322, 221, 222, 407, 408, 409, 27, 410, 411, 412, 413, 414, 415, 416, 417, 418, 419, 420, 421, 422, 82, 423, 424, 425, 426, 19, 427, 59, 62, 84, 85, 428, 429, 430, 431, 432, 433, 96, 434, 435, 436, 437, 438, 439, 440, 441, 442, 443, 444, 445, 100, 86, 87, 446, 447, 448, 449, 450, 451, 452, 453, 454, 455, 456, 457, 99, 458, 459, 460, 461, 97, 98, 462, 463, 464, 465, 466, 467, 468, 469, 356, 916, 917, 918, 919, 920, 921, 922, 923, 924, 985, 986, 987, 988, 989, 990, 991, 992, 993, 994, 995, 996, 997, 974, 975, 976, 977, 978, 979, 1015, 1016, 1017, 1018, 1019, 1020] rfl (by decide +kernel)
set_option maxRecDepth 20000 in
theorem gL_law_X9_seen : GoodIn wsL_law (wsV RL 64 RX9 yX9_seen wsX9_seen) := goodIn_app (goodIn_of _ (by decide +kernel)) ggL_law_X9_seen
set_option maxRecDepth 20000 in
theorem ggL_law_X10_seen : GoodIn wsL_law wsX10_seen := goodIn_r _ [523, 487, 146, 391, 392, 5, 393, 347, 179, 180, 181, 479, 480, 481, 482, 145, 139, 483, 484, 485, 486, 162, 131, 132, 133, 130, 143, 138, 134, 478, 144, 488, 489, 490, 491, 137, 492, 493, 494, 495, 496, 497, 498, 499, 148, 147, 500, 501, 502, 503, 282, 140, 141, 142, 925, 926, 927, 928, 929, 930, 931, 932, 933, 934, 935, 936, 937, 938, 939, 940, 941, 942, 943, 944, 945, 946, 947, 948, 949, 950, 951, 952, 953, 954, 955, 956, 957, 958, 959, 960, 961, 962, 963, 964, 965, 966, 967, 968, 969, 970, 971] rfl (by decide +kernel)
set_option maxRecDepth 20000 in
theorem gL_law_X10_seen : GoodIn wsL_law (wsV RL 67 RX10 yX10_seen wsX10_seen) := goodIn_app (goodIn_of _ (by decide +kernel)) ggL_law_X10_seen
set_option maxRecDepth 20000 in
theorem ggL_law_X9_spy : GoodIn wsL_law wsX9_spy := goodIn_r _ [527, 20, 44, 28, 380, 381, 2, 382, 322, 221, 222, 528, 529, 530, 56, 531, 74, 75, 532, 533, 534, 535, 536, 537, 19, 538, 57, 539, 425, 426, 427, 59, 62, 84, 85, 428, 429, 540, 541, 542, 43, 543, 123, 124, 544, 545, 546, 266, 547, 262, 263, 264, 265, 267, 548, 412, 413, 27, 414, 415, 416, 417, 418, 419, 420, 421, 422, 82, 423, 424, 430, 431, 432, 433, 96, 434, 435, 436, 437, 438, 439, 440, 441, 442, 443, 444, 445, 100, 86, 87, 446, 447, 448, 449, 450, 451, 452, 453, 454, 455, 456, 457, 99, 458, 459, 460, 461, 97, 98, 462, 463, 464, 465, 466, 467, 468, 469, 549, 550, 551, 552, 553, 554, 555, 556, 557, 558, 559, 560, 561, 562, 563, 564, 565, 566, 567, 568, 569, 570, 571, 572, 573, 574, 916, 917, 918, 919, 920, 921, 922, 923, 924, 974, 975, 976, 977, 978, 979, 1012, 1013, 1014, 1015, 1016, 1017, 1018, 1019, 1020, 985, 986, 987, 988, 989, 990, 991, 992, 993, 994, 995, 996, 997] rfl (by decide +kernel)
set_option maxRecDepth 20000 in
theorem gL_law_X9_spy : GoodIn wsL_law (wsV RL 68 RX9 yX9_spy wsX9_spy) := goodIn_app (goodIn_of _ (by decide +kernel)) ggL_law_X9_spy
set_option maxRecDepth 20000 in
theorem ggL_law_X10_spy : GoodIn wsL_law wsX10_spy := goodIn_r _ [578, 149, 391, 392, 5, 393, 347, 179, 180, 181, 579, 580, 581, 582, 363, 364, 365, 366, 162, 130, 583, 584, 585, 586, 137, 587, 588, 589, 590, 145, 487, 146, 483, 484, 485, 486, 131, 132, 133, 143, 138, 134, 478, 144, 488, 489, 490, 491, 492, 493, 494, 495, 496, 497, 498, 499, 148, 147, 500, 501, 502, 503, 282, 140, 141, 142, 591, 592, 593, 594, 925, 926, 927, 928, 929, 930, 931, 932, 933, 934, 935, 936, 937, 938, 939, 940, 941, 942, 943, 944, 945, 946, 947, 948, 949, 950, 951, 952, 953, 954, 955, 956, 957, 958, 959, 960, 961, 962, 963, 964, 965, 966, 967, 968, 969, 970, 971] rfl (by decide +kernel)
set_option maxRecDepth 20000 in
theorem gL_law_X10_spy : GoodIn wsL_law (wsV RL 71 RX10 yX10_spy wsX10_spy) := goodIn_app (goodIn_of _ (by decide +kernel)) ggL_law_X10_spy
set_option maxRecDepth 20000 in
theorem ggL_law_X9_tells : GoodIn wsL_law wsX9_tells := goodIn_r _ [598, 20, 28, 380, 381, 2, 382, 322, 221, 222, 599, 600, 601, 56, 602, 72, 603, 324, 325, 326, 66, 84, 85, 532, 533, 534, 604, 605, 606, 27, 607, 416, 101, 424, 425, 426, 19, 427, 59, 62, 428, 429, 86, 87, 608, 609, 610, 611, 102, 612, 613, 614, 615, 616, 617, 618, 619, 620, 916, 917, 918, 919, 920, 921, 922, 923, 924, 974, 975, 976, 977, 978, 979, 1015, 1016, 1017, 1018, 1019, 1020, 985, 986, 987, 988, 989, 990, 991, 992, 993, 994, 995, 996, 997] rfl (by decide +kernel)
set_option maxRecDepth 20000 in
theorem gL_law_X9_tells : GoodIn wsL_law (wsV RL 72 RX9 yX9_tells wsX9_tells) := goodIn_app (goodIn_of _ (by decide +kernel)) ggL_law_X9_tells
set_option maxRecDepth 20000 in
theorem ggL_law_X10_tells : GoodIn wsL_law wsX10_tells := goodIn_r _ [624, 162, 130, 151, 138, 134, 137, 391, 392, 5, 393, 347, 179, 180, 181, 583, 584, 585, 586, 625, 626, 627, 628, 150, 131, 132, 133, 488, 489, 490, 491, 925, 926, 927, 928, 929, 930, 931, 932, 933, 934, 935, 936, 937, 938, 939, 940, 941, 942, 943, 944, 945, 946, 947, 948, 949, 950, 951, 952, 953, 954, 955, 956, 957, 958, 959, 960, 961, 962, 963, 964, 965, 966, 967, 968, 969, 970, 971] rfl (by decide +kernel)
set_option maxRecDepth 20000 in
theorem gL_law_X10_tells : GoodIn wsL_law (wsV RL 75 RX10 yX10_tells wsX10_tells) := goodIn_app (goodIn_of _ (by decide +kernel)) ggL_law_X10_tells
set_option maxRecDepth 20000 in
theorem ggL_law_X9_trade : GoodIn wsL_law wsX9_trade := goodIn_r _ [632, 32, 322, 221, 2, 222, 353, 354, 355, 356, 84, 85, 357, 86, 87, 916, 917, 918, 919, 920, 921, 922, 923, 924, 998, 999] rfl (by decide +kernel)
set_option maxRecDepth 20000 in
theorem gL_law_X9_trade : GoodIn wsL_law (wsV RL 76 RX9 yX9_trade wsX9_trade) := goodIn_app (goodIn_of _ (by decide +kernel)) ggL_law_X9_trade
set_option maxRecDepth 20000 in
theorem ggL_law_X10_trade : GoodIn wsL_law wsX10_trade := goodIn_r _ [636, 347, 637, 152, 179, 180, 5, 181, 925, 926, 927, 928, 929, 930, 931, 932, 933, 934, 935, 936, 937, 938, 939, 940, 941, 942, 943, 944, 945, 946, 947, 948, 949, 950, 951, 952, 953, 954, 955, 956, 957, 958, 959, 960, 961, 962, 963, 964, 965, 966, 967, 968, 969, 970, 971] rfl (by decide +kernel)
set_option maxRecDepth 20000 in
theorem gL_law_X10_trade : GoodIn wsL_law (wsV RL 79 RX10 yX10_trade wsX10_trade) := goodIn_app (goodIn_of _ (by decide +kernel)) ggL_law_X10_trade
set_option maxRecDepth 20000 in
theorem ggL_law_X9_least : GoodIn wsL_law wsX9_least := goodIn_r _ [641, 32, 20, 322, 221, 2, 222, 642, 643, 644, 31, 645, 646, 647, 648, 649, 107, 650, 81, 82, 83, 651, 324, 325, 56, 326, 66, 84, 85, 86, 87, 652, 653, 654, 655, 106, 656, 657, 658, 659, 660, 661, 662, 663, 916, 917, 918, 919, 920, 921, 922, 923, 924, 974, 975, 976, 977, 978, 979, 1015, 1016, 1017, 1018, 1019, 1020, 998, 999] rfl (by decide +kernel)
set_option maxRecDepth 20000 in
theorem gL_law_X9_least : GoodIn wsL_law (wsV RL 80 RX9 yX9_least wsX9_least) := goodIn_app (goodIn_of _ (by decide +kernel)) ggL_law_X9_least
set_option maxRecDepth 20000 in
theorem ggL_law_X10_least : GoodIn wsL_law wsX10_least := goodIn_r _ [667, 668, 152, 136, 162, 179, 180, 5, 181, 363, 364, 365, 366, 130, 335, 336, 337, 338, 135, 131, 132, 133, 669, 670, 671, 925, 926, 927, 928, 929, 930, 931, 932, 933, 934, 935, 936, 937, 938, 939, 940, 941, 942, 943, 944, 945, 946, 947, 948, 949, 950, 951, 952, 953, 954, 955, 956, 957, 958, 959, 960, 961, 962, 963, 964, 965, 966, 967, 968, 969, 970, 971] rfl (by decide +kernel)
set_option maxRecDepth 20000 in
theorem gL_law_X10_least : GoodIn wsL_law (wsV RL 83 RX10 yX10_least wsX10_least) := goodIn_app (goodIn_of _ (by decide +kernel)) ggL_law_X10_least
set_option maxRecDepth 20000 in
theorem ggL_law_X9_field : GoodIn wsL_law wsX9_field := goodIn_r _ [675, 36, 40, 322, 221, 2, 222, 676, 677, 678, 35, 679, 113, 115, 680, 681, 682, 39, 683, 684, 685, 686, 687, 688, 689, 690, 691, 114, 692, 693, 694, 695, 696, 697, 698, 111, 262, 263, 264, 265, 266, 267, 916, 917, 918, 919, 920, 921, 922, 923, 924, 1000, 1001, 1002, 1003, 1004, 1005, 1006, 1007, 1008, 1009, 1010, 1011] rfl (by decide +kernel)
set_option maxRecDepth 20000 in
theorem gL_law_X9_field : GoodIn wsL_law (wsV RL 84 RX9 yX9_field wsX9_field) := goodIn_app (goodIn_of _ (by decide +kernel)) ggL_law_X9_field
set_option maxRecDepth 20000 in
theorem ggL_law_X10_field : GoodIn wsL_law wsX10_field := goodIn_r _ [702, 155, 347, 703, 704, 153, 154, 156, 157, 705, 706, 707, 708, 5, 709, 179, 180, 181, 925, 926, 927, 928, 929, 930, 931, 932, 933, 934, 935, 936, 937, 938, 939, 940, 941, 942, 943, 944, 945, 946, 947, 948, 949, 950, 951, 952, 953, 954, 955, 956, 957, 958, 959, 960, 961, 962, 963, 964, 965, 966, 967, 968, 969, 970, 971] rfl (by decide +kernel)
set_option maxRecDepth 20000 in
theorem gL_law_X10_field : GoodIn wsL_law (wsV RL 87 RX10 yX10_field wsX10_field) := goodIn_app (goodIn_of _ (by decide +kernel)) ggL_law_X10_field
set_option maxRecDepth 20000 in
theorem ggL_law_X9_curve : GoodIn wsL_law wsX9_curve := goodIn_r _ [713, 36, 714, 715, 716, 35, 717, 113, 221, 2, 222, 718, 693, 694, 695, 696, 697, 698, 111, 262, 263, 264, 265, 266, 267, 916, 917, 918, 919, 920, 921, 922, 923, 924, 1000, 1001, 1002, 1003, 1004, 1005, 1006, 1007] rfl (by decide +kernel)
set_option maxRecDepth 20000 in
theorem gL_law_X9_curve : GoodIn wsL_law (wsV RL 88 RX9 yX9_curve wsX9_curve) := goodIn_app (goodIn_of _ (by decide +kernel)) ggL_law_X9_curve
set_option maxRecDepth 20000 in
theorem ggL_law_X10_curve : GoodIn wsL_law wsX10_curve := goodIn_r _ [722, 153, 154, 156, 157, 155, 179, 180, 5, 181, 925, 926, 927, 928, 929, 930, 931, 932, 933, 934, 935, 936, 937, 938, 939, 940, 941, 942, 943, 944, 945, 946, 947, 948, 949, 950, 951, 952, 953, 954, 955, 956, 957, 958, 959, 960, 961, 962, 963, 964, 965, 966, 967, 968, 969, 970, 971] rfl (by decide +kernel)
set_option maxRecDepth 20000 in
theorem gL_law_X10_curve : GoodIn wsL_law (wsV RL 91 RX10 yX10_curve wsX10_curve) := goodIn_app (goodIn_of _ (by decide +kernel)) ggL_law_X10_curve
set_option maxRecDepth 20000 in
theorem ggL_law_X9_point : GoodIn wsL_law wsX9_point := goodIn_r _ [726, 36, 727, 728, 729, 35, 730, 115, 221, 2, 222, 731, 732, 733, 734, 696, 697, 698, 111, 113, 84, 85, 428, 429, 916, 917, 918, 919, 920, 921, 922, 923, 924, 1000, 1001, 1002, 1003, 1004, 1005, 1006, 1007] rfl (by decide +kernel)
set_option maxRecDepth 20000 in
theorem gL_law_X9_point : GoodIn wsL_law (wsV RL 92 RX9 yX9_point wsX9_point) := goodIn_app (goodIn_of _ (by decide +kernel)) ggL_law_X9_point
set_option maxRecDepth 20000 in
theorem ggL_law_X10_point : GoodIn wsL_law wsX10_point := goodIn_r _ [738, 739, 740, 741, 5, 742, 155, 179, 180, 181, 743, 744, 745, 746, 156, 157, 153, 925, 926, 927, 928, 929, 930, 931, 932, 933, 934, 935, 936, 937, 938, 939, 940, 941, 942, 943, 944, 945, 946, 947, 948, 949, 950, 951, 952, 953, 954, 955, 956, 957, 958, 959, 960, 961, 962, 963, 964, 965, 966, 967, 968, 969, 970, 971] rfl (by decide +kernel)
set_option maxRecDepth 20000 in
theorem gL_law_X10_point : GoodIn wsL_law (wsV RL 95 RX10 yX10_point wsX10_point) := goodIn_app (goodIn_of _ (by decide +kernel)) ggL_law_X10_point
set_option maxRecDepth 20000 in
theorem ggL_law_X9_bend : GoodIn wsL_law wsX9_bend := goodIn_r _ [750, 36, 727, 728, 729, 35, 730, 115, 221, 2, 222, 714, 715, 716, 717, 113, 353, 354, 355, 356, 84, 85, 357, 86, 87, 916, 917, 918, 919, 920, 921, 922, 923, 924, 1000, 1001, 1002, 1003, 1004, 1005, 1006, 1007] rfl (by decide +kernel)
set_option maxRecDepth 20000 in
theorem gL_law_X9_bend : GoodIn wsL_law (wsV RL 96 RX9 yX9_bend wsX9_bend) := goodIn_app (goodIn_of _ (by decide +kernel)) ggL_law_X9_bend
set_option maxRecDepth 20000 in
theorem ggL_law_X10_bend : GoodIn wsL_law wsX10_bend := goodIn_r _ [754, 153, 157, 739, 740, 741, 5, 742, 155, 179, 180, 181, 925, 926, 927, 928, 929, 930, 931, 932, 933, 934, 935, 936, 937, 938, 939, 940, 941, 942, 943, 944, 945, 946, 947, 948, 949, 950, 951, 952, 953, 954, 955, 956, 957, 958, 959, 960, 961, 962, 963, 964, 965, 966, 967, 968, 969, 970, 971] rfl (by decide +kernel)
set_option maxRecDepth 20000 in
theorem gL_law_X10_bend : GoodIn wsL_law (wsV RL 99 RX10 yX10_bend wsX10_bend) := goodIn_app (goodIn_of _ (by decide +kernel)) ggL_law_X10_bend
set_option maxRecDepth 20000 in
theorem ggL_law_X9_open : GoodIn wsL_law wsX9_open := goodIn_r _ [758, 36, 759, 760, 761, 35, 762, 115, 221, 2, 222, 322, 763, 764, 765, 766, 112, 767, 732, 733, 734, 696, 697, 698, 111, 113, 84, 85, 428, 429, 86, 87, 768, 769, 770, 771, 772, 657, 658, 659, 660, 661, 662, 773, 774, 775, 776, 777, 778, 779, 780, 781, 782, 783, 784, 916, 917, 918, 919, 920, 921, 922, 923, 924, 1000, 1001, 1002, 1003, 1004, 1005, 1006, 1007] rfl (by decide +kernel)
set_option maxRecDepth 20000 in
theorem gL_law_X9_open : GoodIn wsL_law (wsV RL 100 RX9 yX9_open wsX9_open) := goodIn_app (goodIn_of _ (by decide +kernel)) ggL_law_X9_open
set_option maxRecDepth 20000 in
theorem ggL_law_X10_open : GoodIn wsL_law wsX10_open := goodIn_r _ [788, 155, 161, 154, 789, 790, 791, 5, 792, 179, 180, 181, 743, 744, 745, 746, 156, 157, 153, 793, 794, 795, 796, 669, 670, 671, 925, 926, 927, 928, 929, 930, 931, 932, 933, 934, 935, 936, 937, 938, 939, 940, 941, 942, 943, 944, 945, 946, 947, 948, 949, 950, 951, 952, 953, 954, 955, 956, 957, 958, 959, 960, 961, 962, 963, 964, 965, 966, 967, 968, 969, 970, 971] rfl (by decide +kernel)
set_option maxRecDepth 20000 in
theorem gL_law_X10_open : GoodIn wsL_law (wsV RL 103 RX10 yX10_open wsX10_open) := goodIn_app (goodIn_of _ (by decide +kernel)) ggL_law_X10_open
set_option maxRecDepth 20000 in
theorem ggL_law_X9_product : GoodIn wsL_law wsX9_product := goodIn_r _ [800, 36, 759, 760, 761, 35, 762, 115, 221, 2, 222, 322, 801, 657, 658, 659, 660, 661, 662, 802, 803, 804, 805, 112, 113, 767, 732, 733, 734, 696, 697, 698, 111, 84, 85, 428, 429, 86, 87, 768, 769, 770, 771, 772, 773, 774, 775, 776, 777, 778, 779, 780, 781, 782, 783, 784, 916, 917, 918, 919, 920, 921, 922, 923, 924, 1000, 1001, 1002, 1003, 1004, 1005, 1006, 1007] rfl (by decide +kernel)
set_option maxRecDepth 20000 in
theorem gL_law_X9_product : GoodIn wsL_law (wsV RL 104 RX9 yX9_product wsX9_product) := goodIn_app (goodIn_of _ (by decide +kernel)) ggL_law_X9_product
set_option maxRecDepth 20000 in
theorem ggL_law_X10_product : GoodIn wsL_law wsX10_product := goodIn_r _ [809, 154, 155, 161, 153, 789, 790, 791, 5, 792, 179, 180, 181, 669, 670, 671, 743, 744, 745, 746, 156, 157, 793, 794, 795, 796, 925, 926, 927, 928, 929, 930, 931, 932, 933, 934, 935, 936, 937, 938, 939, 940, 941, 942, 943, 944, 945, 946, 947, 948, 949, 950, 951, 952, 953, 954, 955, 956, 957, 958, 959, 960, 961, 962, 963, 964, 965, 966, 967, 968, 969, 970, 971] rfl (by decide +kernel)
set_option maxRecDepth 20000 in
theorem gL_law_X10_product : GoodIn wsL_law (wsV RL 107 RX10 yX10_product wsX10_product) := goodIn_app (goodIn_of _ (by decide +kernel)) ggL_law_X10_product
set_option maxRecDepth 20000 in
theorem ggL_law_X9_month : GoodIn wsL_law wsX9_month := goodIn_r _ [813, 40, 322, 221, 2, 222, 814, 815, 816, 39, 817, 684, 686, 916, 917, 918, 919, 920, 921, 922, 923, 924, 1008, 1009, 1010, 1011] rfl (by decide +kernel)
set_option maxRecDepth 20000 in
theorem gL_law_X9_month : GoodIn wsL_law (wsV RL 108 RX9 yX9_month wsX9_month) := goodIn_app (goodIn_of _ (by decide +kernel)) ggL_law_X9_month
set_option maxRecDepth 20000 in
theorem ggL_law_X10_month : GoodIn wsL_law wsX10_month := goodIn_r _ [821, 705, 158, 179, 180, 5, 181, 925, 926, 927, 928, 929, 930, 931, 932, 933, 934, 935, 936, 937, 938, 939, 940, 941, 942, 943, 944, 945, 946, 947, 948, 949, 950, 951, 952, 953, 954, 955, 956, 957, 958, 959, 960, 961, 962, 963, 964, 965, 966, 967, 968, 969, 970, 971] rfl (by decide +kernel)
set_option maxRecDepth 20000 in
theorem gL_law_X10_month : GoodIn wsL_law (wsV RL 111 RX10 yX10_month wsX10_month) := goodIn_app (goodIn_of _ (by decide +kernel)) ggL_law_X10_month
set_option maxRecDepth 20000 in
theorem ggL_law_X9_steal : GoodIn wsL_law wsX9_steal := goodIn_r _ [825, 36, 40, 727, 728, 729, 35, 730, 115, 221, 2, 222, 826, 827, 828, 39, 829, 685, 686, 687, 830, 657, 658, 659, 660, 661, 662, 916, 917, 918, 919, 920, 921, 922, 923, 924, 1008, 1009, 1010, 1011, 1000, 1001, 1002, 1003, 1004, 1005, 1006, 1007] rfl (by decide +kernel)
set_option maxRecDepth 20000 in
theorem gL_law_X9_steal : GoodIn wsL_law (wsV RL 112 RX9 yX9_steal wsX9_steal) := goodIn_app (goodIn_of _ (by decide +kernel)) ggL_law_X9_steal
set_option maxRecDepth 20000 in
theorem ggL_law_X10_steal : GoodIn wsL_law wsX10_steal := goodIn_r _ [834, 706, 159, 160, 705, 739, 740, 741, 5, 742, 155, 179, 180, 181, 925, 926, 927, 928, 929, 930, 931, 932, 933, 934, 935, 936, 937, 938, 939, 940, 941, 942, 943, 944, 945, 946, 947, 948, 949, 950, 951, 952, 953, 954, 955, 956, 957, 958, 959, 960, 961, 962, 963, 964, 965, 966, 967, 968, 969, 970, 971] rfl (by decide +kernel)
set_option maxRecDepth 20000 in
theorem gL_law_X10_steal : GoodIn wsL_law (wsV RL 115 RX10 yX10_steal wsX10_steal) := goodIn_app (goodIn_of _ (by decide +kernel)) ggL_law_X10_steal
set_option maxRecDepth 20000 in
theorem ggL_law_X9_known : GoodIn wsL_law wsX9_known := goodIn_r _ [838, 40, 36, 322, 221, 2, 222, 839, 840, 841, 39, 842, 687, 686, 830, 657, 658, 659, 660, 661, 662, 916, 917, 918, 919, 920, 921, 922, 923, 924, 1008, 1009, 1010, 1011, 1000, 1001, 1002, 1003, 1004, 1005, 1006, 1007] rfl (by decide +kernel)
set_option maxRecDepth 20000 in
theorem gL_law_X9_known : GoodIn wsL_law (wsV RL 116 RX9 yX9_known wsX9_known) := goodIn_app (goodIn_of _ (by decide +kernel)) ggL_law_X9_known
set_option maxRecDepth 20000 in
theorem ggL_law_X10_known : GoodIn wsL_law wsX10_known := goodIn_r _ [846, 705, 158, 706, 160, 159, 154, 179, 180, 5, 181, 669, 670, 671, 925, 926, 927, 928, 929, 930, 931, 932, 933, 934, 935, 936, 937, 938, 939, 940, 941, 942, 943, 944, 945, 946, 947, 948, 949, 950, 951, 952, 953, 954, 955, 956, 957, 958, 959, 960, 961, 962, 963, 964, 965, 966, 967, 968, 969, 970, 971] rfl (by decide +kernel)
set_option maxRecDepth 20000 in
theorem gL_law_X10_known : GoodIn wsL_law (wsV RL 119 RX10 yX10_known wsX10_known) := goodIn_app (goodIn_of _ (by decide +kernel)) ggL_law_X10_known
set_option maxRecDepth 20000 in
theorem ggL_law_X9_weight : GoodIn wsL_law wsX9_weight := goodIn_r _ [850, 20, 322, 221, 2, 222, 318, 319, 320, 56, 321, 72, 851, 852, 853, 854, 855, 856, 857, 858, 859, 860, 861, 862, 863, 864, 603, 324, 325, 326, 66, 84, 85, 865, 866, 867, 868, 869, 36, 870, 871, 872, 873, 874, 875, 876, 877, 878, 879, 880, 881, 882, 883, 884, 885, 886, 887, 888, 916, 917, 918, 919, 920, 921, 922, 923, 924, 974, 975, 976, 977, 978, 979, 1015, 1016, 1017, 1018, 1019, 1020, 1000, 1001, 1002, 1003, 1004, 1005, 1006, 1007] rfl (by decide +kernel)
set_option maxRecDepth 20000 in
theorem gL_law_X9_weight : GoodIn wsL_law (wsV RL 120 RX9 yX9_weight wsX9_weight) := goodIn_app (goodIn_of _ (by decide +kernel)) ggL_law_X9_weight
set_option maxRecDepth 20000 in
theorem ggL_law_X10_weight : GoodIn wsL_law wsX10_weight := goodIn_r _ [892, 893, 130, 154, 134, 894, 895, 896, 897, 898, 899, 137, 179, 180, 5, 181, 331, 332, 333, 334, 162, 925, 926, 927, 928, 929, 930, 931, 932, 933, 934, 935, 936, 937, 938, 939, 940, 941, 942, 943, 944, 945, 946, 947, 948, 949, 950, 951, 952, 953, 954, 955, 956, 957, 958, 959, 960, 961, 962, 963, 964, 965, 966, 967, 968, 969, 970, 971] rfl (by decide +kernel)
set_option maxRecDepth 20000 in
theorem gL_law_X10_weight : GoodIn wsL_law (wsV RL 123 RX10 yX10_weight wsX10_weight) := goodIn_app (goodIn_of _ (by decide +kernel)) ggL_law_X10_weight
set_option maxRecDepth 20000 in
theorem ggL_law_X9_count : GoodIn wsL_law wsX9_count := goodIn_r _ [903, 20, 40, 16, 528, 529, 530, 56, 531, 74, 75, 916, 917, 918, 919, 920, 921, 922, 923, 924, 974, 975, 976, 977, 978, 979, 1015, 1016, 1017, 1018, 1019, 1020, 1008, 1009, 1010, 1011, 972, 973] rfl (by decide +kernel)
set_option maxRecDepth 20000 in
theorem gL_law_X9_count : GoodIn wsL_law (wsV RL 124 RX9 yX9_count wsX9_count) := goodIn_app (goodIn_of _ (by decide +kernel)) ggL_law_X9_count
set_option maxRecDepth 20000 in
theorem ggL_law_X10_count : GoodIn wsL_law wsX10_count := goodIn_r _ [907, 162, 282, 705, 177, 706, 363, 364, 365, 5, 366, 130, 579, 580, 581, 582, 925, 926, 927, 928, 929, 930, 931, 932, 933, 934, 935, 936, 937, 938, 939, 940, 941, 942, 943, 944, 945, 946, 947, 948, 949, 950, 951, 952, 953, 954, 955, 956, 957, 958, 959, 960, 961, 962, 963, 964, 965, 966, 967, 968, 969, 970, 971] rfl (by decide +kernel)
set_option maxRecDepth 20000 in
theorem gL_law_X10_count : GoodIn wsL_law (wsV RL 127 RX10 yX10_count wsX10_count) := goodIn_app (goodIn_of _ (by decide +kernel)) ggL_law_X10_count
set_option maxRecDepth 20000 in
theorem ggL_law_X9_trace : GoodIn wsL_law wsX9_trace := goodIn_r _ [911, 855, 916, 917, 918, 919, 920, 921, 922, 923, 924] rfl (by decide +kernel)
set_option maxRecDepth 20000 in
theorem gL_law_X9_trace : GoodIn wsL_law (wsV RL 128 RX9 yX9_trace wsX9_trace) := goodIn_app (goodIn_of _ (by decide +kernel)) ggL_law_X9_trace
set_option maxRecDepth 20000 in
theorem ggL_law_X10_trace : GoodIn wsL_law wsX10_trace := goodIn_r _ [915, 894, 925, 926, 927, 928, 929, 930, 931, 932, 933, 934, 935, 936, 937, 938, 939, 940, 941, 942, 943, 944, 945, 946, 947, 948, 949, 950, 951, 952, 953, 954, 955, 956, 957, 958, 959, 960, 961, 962, 963, 964, 965, 966, 967, 968, 969, 970, 971] rfl (by decide +kernel)
set_option maxRecDepth 20000 in
theorem gL_law_X10_trace : GoodIn wsL_law (wsV RL 132 RX10 yX10_trace wsX10_trace) := goodIn_app (goodIn_of _ (by decide +kernel)) ggL_law_X10_trace
theorem dL_law_0 : decode cL_law 0 = .ok (.new 7, 3) := by decide +kernel
theorem dL_law_3 : decode cL_law 3 = .ok (.dup, 1) := by decide +kernel
theorem dL_law_4 : decode cL_law 4 = .ok (.invokespecial 9, 3) := by decide +kernel
theorem dL_law_7 : decode cL_law 7 = .ok (.astore_n 1, 1) := by decide +kernel
theorem dL_law_8 : decode cL_law 8 = .ok (.new 10, 3) := by decide +kernel
theorem dL_law_11 : decode cL_law 11 = .ok (.dup, 1) := by decide +kernel
theorem dL_law_12 : decode cL_law 12 = .ok (.invokespecial 12, 3) := by decide +kernel
theorem dL_law_15 : decode cL_law 15 = .ok (.astore_n 2, 1) := by decide +kernel
theorem dL_law_16 : decode cL_law 16 = .ok (.iconst 0, 1) := by decide +kernel
theorem dL_law_17 : decode cL_law 17 = .ok (.istore_n 3, 1) := by decide +kernel
theorem dL_law_18 : decode cL_law 18 = .ok (.iload_n 3, 1) := by decide +kernel
theorem dL_law_19 : decode cL_law 19 = .ok (.aload_n 0, 1) := by decide +kernel
theorem dL_law_20 : decode cL_law 20 = .ok (.arraylength, 1) := by decide +kernel
theorem dL_law_21 : decode cL_law 21 = .ok (.iconst 4, 1) := by decide +kernel
theorem dL_law_22 : decode cL_law 22 = .ok (.isub, 1) := by decide +kernel
theorem dL_law_23 : decode cL_law 23 = .ok (.if_icmp .gt 968, 3) := by decide +kernel
theorem dL_law_26 : decode cL_law 26 = .ok (.aload_n 0, 1) := by decide +kernel
theorem dL_law_27 : decode cL_law 27 = .ok (.iload_n 3, 1) := by decide +kernel
theorem dL_law_28 : decode cL_law 28 = .ok (.iaload, 1) := by decide +kernel
theorem dL_law_29 : decode cL_law 29 = .ok (.bipush 31, 2) := by decide +kernel
theorem dL_law_31 : decode cL_law 31 = .ok (.iand, 1) := by decide +kernel
theorem dL_law_32 : decode cL_law 32 = .ok (.tableswitch 953 0 27 #[128, 191, 204, 217, 250, 273, 316, 349, 392, 405, 418, 451, 484, 517, 550, 583, 616, 649, 692, 715, 748, 781, 814, 837, 860, 883, 916, 939], 128) := by decide +kernel
theorem dL_law_160 : decode cL_law 160 = .ok (.aload_n 1, 1) := by decide +kernel
theorem dL_law_161 : decode cL_law 161 = .ok (.aload_n 0, 1) := by decide +kernel
theorem dL_law_162 : decode cL_law 162 = .ok (.iload_n 3, 1) := by decide +kernel
theorem dL_law_163 : decode cL_law 163 = .ok (.iconst 1, 1) := by decide +kernel
theorem dL_law_164 : decode cL_law 164 = .ok (.iadd, 1) := by decide +kernel
theorem dL_law_165 : decode cL_law 165 = .ok (.iaload, 1) := by decide +kernel
theorem dL_law_166 : decode cL_law 166 = .ok (.i2l, 1) := by decide +kernel
theorem dL_law_167 : decode cL_law 167 = .ok (.bipush 32, 2) := by decide +kernel
theorem dL_law_169 : decode cL_law 169 = .ok (.lshl, 1) := by decide +kernel
theorem dL_law_170 : decode cL_law 170 = .ok (.aload_n 0, 1) := by decide +kernel
theorem dL_law_171 : decode cL_law 171 = .ok (.iload_n 3, 1) := by decide +kernel
theorem dL_law_172 : decode cL_law 172 = .ok (.iconst 2, 1) := by decide +kernel
theorem dL_law_173 : decode cL_law 173 = .ok (.iadd, 1) := by decide +kernel
theorem dL_law_174 : decode cL_law 174 = .ok (.iaload, 1) := by decide +kernel
theorem dL_law_175 : decode cL_law 175 = .ok (.i2l, 1) := by decide +kernel
theorem dL_law_176 : decode cL_law 176 = .ok (.ldc2_w 13, 3) := by decide +kernel
theorem dL_law_179 : decode cL_law 179 = .ok (.land, 1) := by decide +kernel
theorem dL_law_180 : decode cL_law 180 = .ok (.lor, 1) := by decide +kernel
theorem dL_law_181 : decode cL_law 181 = .ok (.aload_n 0, 1) := by decide +kernel
theorem dL_law_182 : decode cL_law 182 = .ok (.iload_n 3, 1) := by decide +kernel
theorem dL_law_183 : decode cL_law 183 = .ok (.iconst 3, 1) := by decide +kernel
theorem dL_law_184 : decode cL_law 184 = .ok (.iadd, 1) := by decide +kernel
theorem dL_law_185 : decode cL_law 185 = .ok (.iaload, 1) := by decide +kernel
theorem dL_law_186 : decode cL_law 186 = .ok (.invokevirtual 15, 3) := by decide +kernel
theorem dL_law_189 : decode cL_law 189 = .ok (.aload_n 2, 1) := by decide +kernel
theorem dL_law_190 : decode cL_law 190 = .ok (.aload_n 0, 1) := by decide +kernel
theorem dL_law_191 : decode cL_law 191 = .ok (.iload_n 3, 1) := by decide +kernel
theorem dL_law_192 : decode cL_law 192 = .ok (.iconst 1, 1) := by decide +kernel
theorem dL_law_193 : decode cL_law 193 = .ok (.iadd, 1) := by decide +kernel
theorem dL_law_194 : decode cL_law 194 = .ok (.iaload, 1) := by decide +kernel
theorem dL_law_195 : decode cL_law 195 = .ok (.i2l, 1) := by decide +kernel
theorem dL_law_196 : decode cL_law 196 = .ok (.bipush 32, 2) := by decide +kernel
theorem dL_law_198 : decode cL_law 198 = .ok (.lshl, 1) := by decide +kernel
theorem dL_law_199 : decode cL_law 199 = .ok (.aload_n 0, 1) := by decide +kernel
theorem dL_law_200 : decode cL_law 200 = .ok (.iload_n 3, 1) := by decide +kernel
theorem dL_law_201 : decode cL_law 201 = .ok (.iconst 2, 1) := by decide +kernel
theorem dL_law_202 : decode cL_law 202 = .ok (.iadd, 1) := by decide +kernel
theorem dL_law_203 : decode cL_law 203 = .ok (.iaload, 1) := by decide +kernel
theorem dL_law_204 : decode cL_law 204 = .ok (.i2l, 1) := by decide +kernel
theorem dL_law_205 : decode cL_law 205 = .ok (.ldc2_w 13, 3) := by decide +kernel
theorem dL_law_208 : decode cL_law 208 = .ok (.land, 1) := by decide +kernel
theorem dL_law_209 : decode cL_law 209 = .ok (.lor, 1) := by decide +kernel
theorem dL_law_210 : decode cL_law 210 = .ok (.aload_n 0, 1) := by decide +kernel
theorem dL_law_211 : decode cL_law 211 = .ok (.iload_n 3, 1) := by decide +kernel
theorem dL_law_212 : decode cL_law 212 = .ok (.iconst 3, 1) := by decide +kernel
theorem dL_law_213 : decode cL_law 213 = .ok (.iadd, 1) := by decide +kernel
theorem dL_law_214 : decode cL_law 214 = .ok (.iaload, 1) := by decide +kernel
theorem dL_law_215 : decode cL_law 215 = .ok (.invokevirtual 19, 3) := by decide +kernel
theorem dL_law_218 : decode cL_law 218 = .ok (.if_icmp .eq 767, 3) := by decide +kernel
