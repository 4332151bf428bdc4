set_option maxRecDepth 20000 in
theorem ggL_law_X9_trade : GoodIn wsL_law wsX9_trade := goodIn_r _ [632, 32, 322, 221, 2, 222, 353, 354, 355, 356, 84, 85, 357, 86, 87, 916, 917, 918, 919, 920, 921, 922, 923, 924, 998, 999] (by decide +kernel) (by decide +kernel)
set_option maxRecDepth 20000 in
theorem gL_law_X9_trade : GoodIn wsL_law (wsV RL 76 RX9 yX9_trade wsX9_trade) := goodIn_app (goodIn_of _ (by decide +kernel)) ggL_law_X9_trade
set_option maxRecDepth 20000 in
theorem ggL_law_X10_trade : GoodIn wsL_law wsX10_trade := goodIn_r _ [636, 347, 637, 152, 179, 180, 5, 181, 925, 926, 927, 928, 929, 930, 931, 932, 933, 934, 935, 936, 937, 938, 939, 940, 941, 942, 943, 944, 945, 946, 947, 948, 949, 950, 951, 952, 953, 954, 955, 956, 957, 958, 959, 960, 961, 962, 963, 964, 965, 966, 967, 968, 969, 970, 971] (by decide +kernel) (by decide +kernel)
set_option maxRecDepth 20000 in
theorem gL_law_X10_trade : GoodIn wsL_law (wsV RL 79 RX10 yX10_trade wsX10_trade) := goodIn_app (goodIn_of _ (by decide +kernel)) ggL_law_X10_trade
set_option maxRecDepth 20000 in
theorem ggL_law_X9_least : GoodIn wsL_law wsX9_least := goodIn_r _ [641, 32, 20, 322, 221, 2, 222, 642, 643, 644, 31, 645, 646, 647, 648, 649, 107, 650, 81, 82, 83, 651, 324, 325, 56, 326, 66, 84, 85, 86, 87, 652, 653, 654, 655, 106, 656, 657, 658, 659, 660, 661, 662, 663, 916, 917, 918, 919, 920, 921, 922, 923, 924, 974, 975, 976, 977, 978, 979, 1015, 1016, 1017, 1018, 1019, 1020, 998, 999] (by decide +kernel) (by decide +kernel)
set_option maxRecDepth 20000 in
theorem gL_law_X9_least : GoodIn wsL_law (wsV RL 80 RX9 yX9_least wsX9_least) := goodIn_app (goodIn_of _ (by decide +kernel)) ggL_law_X9_least
set_option maxRecDepth 20000 in
theorem ggL_law_X10_least : GoodIn wsL_law wsX10_least := goodIn_r _ [667, 668, 152, 136, 162, 179, 180, 5, 181, 363, 364, 365, 366, 130, 335, 336, 337, 338, 135, 131, 132, 133, 669, 670, 671, 925, 926, 927, 928, 929, 930, 931, 932, 933, 934, 935, 936, 937, 938, 939, 940, 941, 942, 943, 944, 945, 946, 947, 948, 949, 950, 951, 952, 953, 954, 955, 956, 957, 958, 959, 960, 961, 962, 963, 964, 965, 966, 967, 968, 969, 970, 971] (by decide +kernel) (by decide +kernel)
set_option maxRecDepth 20000 in
theorem gL_law_X10_least : GoodIn wsL_law (wsV RL 83 RX10 yX10_least wsX10_least) := goodIn_app (goodIn_of _ (by decide +kernel)) ggL_law_X10_least
set_option maxRecDepth 20000 in
theorem ggL_law_X9_field : GoodIn wsL_law wsX9_field := goodIn_r _ [675, 36, 40, 322, 221, 2, 222, 676, 677, 678, 35, 679, 113, 115, 680, 681, 682, 39, 683, 684, 685, 686, 687, 688, 689, 690, 691, 114, 692, 693, 694, 695, 696, 697, 698, 111, 262, 263, 264, 265, 266, 267, 916, 917, 918, 919, 920, 921, 922, 923, 924, 1000, 1001, 1002, 1003, 1004, 1005, 1006, 1007, 1008, 1009, 1010, 1011] (by decide +kernel) (by decide +kernel)
set_option maxRecDepth 20000 in
theorem gL_law_X9_field : GoodIn wsL_law (wsV RL 84 RX9 yX9_field wsX9_field) := goodIn_app (goodIn_of _ (by decide +kernel)) ggL_law_X9_field
set_option maxRecDepth 20000 in
theorem ggL_law_X10_field : GoodIn wsL_law wsX10_field := goodIn_r _ [702, 155, 347, 703, 704, 153, 154, 156, 157, 705, 706, 707, 708, 5, 709, 179, 180, 181, 925, 926, 927, 928, 929, 930, 931, 932, 933, 934, 935, 936, 937, 938, 939, 940, 941, 942, 943, 944, 945, 946, 947, 948, 949, 950, 951, 952, 953, 954, 955, 956, 957, 958, 959, 960, 961, 962, 963, 964, 965, 966, 967, 968, 969, 970, 971] (by decide +kernel) (by decide +kernel)
set_option maxRecDepth 20000 in
theorem gL_law_X10_field : GoodIn wsL_law (wsV RL 87 RX10 yX10_field wsX10_field) := goodIn_app (goodIn_of _ (by decide +kernel)) ggL_law_X10_field
set_option maxRecDepth 20000 in
theorem ggL_law_X9_curve : GoodIn wsL_law wsX9_curve := goodIn_r _ [713, 36, 714, 715, 716, 35, 717, 113, 221, 2, 222, 718, 693, 694, 695, 696, 697, 698, 111, 262, 263, 264, 265, 266, 267, 916, 917, 918, 919, 920, 921, 922, 923, 924, 1000, 1001, 1002, 1003, 1004, 1005, 1006, 1007] (by decide +kernel) (by decide +kernel)
set_option maxRecDepth 20000 in
theorem gL_law_X9_curve : GoodIn wsL_law (wsV RL 88 RX9 yX9_curve wsX9_curve) := goodIn_app (goodIn_of _ (by decide +kernel)) ggL_law_X9_curve
set_option maxRecDepth 20000 in
theorem ggL_law_X10_curve : GoodIn wsL_law wsX10_curve := goodIn_r _ [722, 153, 154, 156, 157, 155, 179, 180, 5, 181, 925, 926, 927, 928, 929, 930, 931, 932, 933, 934, 935, 936, 937, 938, 939, 940, 941, 942, 943, 944, 945, 946, 947, 948, 949, 950, 951, 952, 953, 954, 955, 956, 957, 958, 959, 960, 961, 962, 963, 964, 965, 966, 967, 968, 969, 970, 971] (by decide +kernel) (by decide +kernel)
set_option maxRecDepth 20000 in
theorem gL_law_X10_curve : GoodIn wsL_law (wsV RL 91 RX10 yX10_curve wsX10_curve) := goodIn_app (goodIn_of _ (by decide +kernel)) ggL_law_X10_curve
set_option maxRecDepth 20000 in
theorem ggL_law_X9_point : GoodIn wsL_law wsX9_point := goodIn_r _ [726, 36, 727, 728, 729, 35, 730, 115, 221, 2, 222, 731, 732, 733, 734, 696, 697, 698, 111, 113, 84, 85, 428, 429, 916, 917, 918, 919, 920, 921, 922, 923, 924, 1000, 1001, 1002, 1003, 1004, 1005, 1006, 1007] (by decide +kernel) (by decide +kernel)
set_option maxRecDepth 20000 in
theorem gL_law_X9_point : GoodIn wsL_law (wsV RL 92 RX9 yX9_point wsX9_point) := goodIn_app (goodIn_of _ (by decide +kernel)) ggL_law_X9_point
set_option maxRecDepth 20000 in
theorem ggL_law_X10_point : GoodIn wsL_law wsX10_point := goodIn_r _ [738, 739, 740, 741, 5, 742, 155, 179, 180, 181, 743, 744, 745, 746, 156, 157, 153, 925, 926, 927, 928, 929, 930, 931, 932, 933, 934, 935, 936, 937, 938, 939, 940, 941, 942, 943, 944, 945, 946, 947, 948, 949, 950, 951, 952, 953, 954, 955, 956, 957, 958, 959, 960, 961, 962, 963, 964, 965, 966, 967, 968, 969, 970, 971] (by decide +kernel) (by decide +kernel)
set_option maxRecDepth 20000 in
theorem gL_law_X10_point : GoodIn wsL_law (wsV RL 95 RX10 yX10_point wsX10_point) := goodIn_app (goodIn_of _ (by decide +kernel)) ggL_law_X10_point
set_option maxRecDepth 20000 in
theorem ggL_law_X9_bend : GoodIn wsL_law wsX9_bend := goodIn_r _ [750, 36, 727, 728, 729, 35, 730, 115, 221, 2, 222, 714, 715, 716, 717, 113, 353, 354, 355, 356, 84, 85, 357, 86, 87, 916, 917, 918, 919, 920, 921, 922, 923, 924, 1000, 1001, 1002, 1003, 1004, 1005, 1006, 1007] (by decide +kernel) (by decide +kernel)
set_option maxRecDepth 20000 in
theorem gL_law_X9_bend : GoodIn wsL_law (wsV RL 96 RX9 yX9_bend wsX9_bend) := goodIn_app (goodIn_of _ (by decide +kernel)) ggL_law_X9_bend
set_option maxRecDepth 20000 in
theorem ggL_law_X10_bend : GoodIn wsL_law wsX10_bend := goodIn_r _ [754, 153, 157, 739, 740, 741, 5, 742, 155, 179, 180, 181, 925, 926, 927, 928, 929, 930, 931, 932, 933, 934, 935, 936, 937, 938, 939, 940, 941, 942, 943, 944, 945, 946, 947, 948, 949, 950, 951, 952, 953, 954, 955, 956, 957, 958, 959, 960, 961, 962, 963, 964, 965, 966, 967, 968, 969, 970, 971] (by decide +kernel) (by decide +kernel)
set_option maxRecDepth 20000 in
theorem gL_law_X10_bend : GoodIn wsL_law (wsV RL 99 RX10 yX10_bend wsX10_bend) := goodIn_app (goodIn_of _ (by decide +kernel)) ggL_law_X10_bend
set_option maxRecDepth 20000 in
theorem ggL_law_X9_open : GoodIn wsL_law wsX9_open := goodIn_r _ [758, 36, 759, 760, 761, 35, 762, 115, 221, 2, 222, 322, 763, 764, 765, 766, 112, 767, 732, 733, 734, 696, 697, 698, 111, 113, 84, 85, 428, 429, 86, 87, 768, 769, 770, 771, 772, 657, 658, 659, 660, 661, 662, 773, 774, 775, 776, 777, 778, 779, 780, 781, 782, 783, 784, 916, 917, 918, 919, 920, 921, 922, 923, 924, 1000, 1001, 1002, 1003, 1004, 1005, 1006, 1007] (by decide +kernel) (by decide +kernel)
set_option maxRecDepth 20000 in
theorem gL_law_X9_open : GoodIn wsL_law (wsV RL 100 RX9 yX9_open wsX9_open) := goodIn_app (goodIn_of _ (by decide +kernel)) ggL_law_X9_open
set_option maxRecDepth 20000 in
theorem ggL_law_X10_open : GoodIn wsL_law wsX10_open := goodIn_r _ [788, 155, 161, 154, 789, 790, 791, 5, 792, 179, 180, 181, 743, 744, 745, 746, 156, 157, 153, 793, 794, 795, 796, 669, 670, 671, 925, 926, 927, 928, 929, 930, 931, 932, 933, 934, 935, 936, 937, 938, 939, 940, 941, 942, 943, 944, 945, 946, 947, 948, 949, 950, 951, 952, 953, 954, 955, 956, 957, 958, 959, 960, 961, 962, 963, 964, 965, 966, 967, 968, 969, 970, 971] (by decide +kernel) (by decide +kernel)
set_option maxRecDepth 20000 in
theorem gL_law_X10_open : GoodIn wsL_law (wsV RL 103 RX10 yX10_open wsX10_open) := goodIn_app (goodIn_of _ (by decide +kernel)) ggL_law_X10_open
set_option maxRecDepth 20000 in
theorem ggL_law_X9_product : GoodIn wsL_law wsX9_product := goodIn_r _ [800, 36, 759, 760, 761, 35, 762, 115, 221, 2, 222, 322, 801, 657, 658, 659, 660, 661, 662, 802, 803, 804, 805, 112, 113, 767, 732, 733, 734, 696, 697, 698, 111, 84, 85, 428, 429, 86, 87, 768, 769, 770, 771, 772, 773, 774, 775, 776, 777, 778, 779, 780, 781, 782, 783, 784, 916, 917, 918, 919, 920, 921, 922, 923, 924, 1000, 1001, 1002, 1003, 1004, 1005, 1006, 1007] (by decide +kernel) (by decide +kernel)
set_option maxRecDepth 20000 in
theorem gL_law_X9_product : GoodIn wsL_law (wsV RL 104 RX9 yX9_product wsX9_product) := goodIn_app (goodIn_of _ (by decide +kernel)) ggL_law_X9_product
set_option maxRecDepth 20000 in
theorem ggL_law_X10_product : GoodIn wsL_law wsX10_product := goodIn_r _ [809, 154, 155, 161, 153, 789, 790, 791, 5, 792, 179, 180, 181, 669, 670, 671, 743, 744, 745, 746, 156, 157, 793, 794, 795, 796, 925, 926, 927, 928, 929, 930, 931, 932, 933, 934, 935, 936, 937, 938, 939, 940, 941, 942, 943, 944, 945, 946, 947, 948, 949, 950, 951, 952, 953, 954, 955, 956, 957, 958, 959, 960, 961, 962, 963, 964, 965, 966, 967, 968, 969, 970, 971] (by decide +kernel) (by decide +kernel)
set_option maxRecDepth 20000 in
theorem gL_law_X10_product : GoodIn wsL_law (wsV RL 107 RX10 yX10_product wsX10_product) := goodIn_app (goodIn_of _ (by decide +kernel)) ggL_law_X10_product
set_option maxRecDepth 20000 in
theorem ggL_law_X9_month : GoodIn wsL_law wsX9_month := goodIn_r _ [813, 40, 322, 221, 2, 222, 814, 815, 816, 39, 817, 684, 686, 916, 917, 918, 919, 920, 921, 922, 923, 924, 1008, 1009, 1010, 1011] (by decide +kernel) (by decide +kernel)
set_option maxRecDepth 20000 in
theorem gL_law_X9_month : GoodIn wsL_law (wsV RL 108 RX9 yX9_month wsX9_month) := goodIn_app (goodIn_of _ (by decide +kernel)) ggL_law_X9_month
set_option maxRecDepth 20000 in
theorem ggL_law_X10_month : GoodIn wsL_law wsX10_month := goodIn_r _ [821, 705, 158, 179, 180, 5, 181, 925, 926, 927, 928, 929, 930, 931, 932, 933, 934, 935, 936, 937, 938, 939, 940, 941, 942, 943, 944, 945, 946, 947, 948, 949, 950, 951, 952, 953, 954, 955, 956, 957, 958, 959, 960, 961, 962, 963, 964, 965, 966, 967, 968, 969, 970, 971] (by decide +kernel) (by decide +kernel)
set_option maxRecDepth 20000 in
theorem gL_law_X10_month : GoodIn wsL_law (wsV RL 111 RX10 yX10_month wsX10_month) := goodIn_app (goodIn_of _ (by decide +kernel)) ggL_law_X10_month
set_option maxRecDepth 20000 in
theorem ggL_law_X9_steal : GoodIn wsL_law wsX9_steal := goodIn_r _ [825, 36, 40, 727, 728, 729, 35, 730, 115, 221, 2, 222, 826, 827, 828, 39, 829, 685, 686, 687, 830, 657, 658, 659, 660, 661, 662, 916, 917, 918, 919, 920, 921, 922, 923, 924, 1008, 1009, 1010, 1011, 1000, 1001, 1002, 1003, 1004, 1005, 1006, 1007] (by decide +kernel) (by decide +kernel)
set_option maxRecDepth 20000 in
theorem gL_law_X9_steal : GoodIn wsL_law (wsV RL 112 RX9 yX9_steal wsX9_steal) := goodIn_app (goodIn_of _ (by decide +kernel)) ggL_law_X9_steal
set_option maxRecDepth 20000 in
theorem ggL_law_X10_steal : GoodIn wsL_law wsX10_steal := goodIn_r _ [834, 706, 159, 160, 705, 739, 740, 741, 5, 742, 155, 179, 180, 181, 925, 926, 927, 928, 929, 930, 931, 932, 933, 934, 935, 936, 937, 938, 939, 940, 941, 942, 943, 944, 945, 946, 947, 948, 949, 950, 951, 952, 953, 954, 955, 956, 957, 958, 959, 960, 961, 962, 963, 964, 965, 966, 967, 968, 969, 970, 971] (by decide +kernel) (by decide +kernel)
set_option maxRecDepth 20000 in
theorem gL_law_X10_steal : GoodIn wsL_law (wsV RL 115 RX10 yX10_steal wsX10_steal) := goodIn_app (goodIn_of _ (by decide +kernel)) ggL_law_X10_steal
set_option maxRecDepth 20000 in
theorem ggL_law_X9_known : GoodIn wsL_law wsX9_known := goodIn_r _ [838, 40, 36, 322, 221, 2, 222, 839, 840, 841, 39, 842, 687, 686, 830, 657, 658, 659, 660, 661, 662, 916, 917, 918, 919, 920, 921, 922, 923, 924, 1008, 1009, 1010, 1011, 1000, 1001, 1002, 1003, 1004, 1005, 1006, 1007] (by decide +kernel) (by decide +kernel)
set_option maxRecDepth 20000 in
theorem gL_law_X9_known : GoodIn wsL_law (wsV RL 116 RX9 yX9_known wsX9_known) := goodIn_app (goodIn_of _ (by decide +kernel)) ggL_law_X9_known
set_option maxRecDepth 20000 in
theorem ggL_law_X10_known : GoodIn wsL_law wsX10_known := goodIn_r _ [846, 705, 158, 706, 160, 159, 154, 179, 180, 5, 181, 669, 670, 671, 925, 926, 927, 928, 929, 930, 931, 932, 933, 934, 935, 936, 937, 938, 939, 940, 941, 942, 943, 944, 945, 946, 947, 948, 949, 950, 951, 952, 953, 954, 955, 956, 957, 958, 959, 960, 961, 962, 963, 964, 965, 966, 967, 968, 969, 970, 971] (by decide +kernel) (by decide +kernel)
set_option maxRecDepth 20000 in
theorem gL_law_X10_known : GoodIn wsL_law (wsV RL 119 RX10 yX10_known wsX10_known) := goodIn_app (goodIn_of _ (by decide +kernel)) ggL_law_X10_known
set_option maxRecDepth 20000 in
theorem ggL_law_X9_weight : GoodIn wsL_law wsX9_weight := goodIn_r _ [850, 20, 322, 221, 2, 222, 318, 319, 320, 56, 321, 72, 851, 852, 853, 854, 855, 856, 857, 858, 859, 860, 861, 862, 863, 864, 603, 324, 325, 326, 66, 84, 85, 865, 866, 867, 868, 869, 36, 870, 871, 872, 873, 874, 875, 876, 877, 878, 879, 880, 881, 882, 883, 884, 885, 886, 887, 888, 916, 917, 918, 919, 920, 921, 922, 923, 924, 974, 975, 976, 977, 978, 979, 1015, 1016, 1017, 1018, 1019, 1020, 1000, 1001, 1002, 1003, 1004, 1005, 1006, 1007] (by decide +kernel) (by decide +kernel)
set_option maxRecDepth 20000 in
theorem gL_law_X9_weight : GoodIn wsL_law (wsV RL 120 RX9 yX9_weight wsX9_weight) := goodIn_app (goodIn_of _ (by decide +kernel)) ggL_law_X9_weight
set_option maxRecDepth 20000 in
theorem ggL_law_X10_weight : GoodIn wsL_law wsX10_weight := goodIn_r _ [892, 893, 130, 154, 134, 894, 895, 896, 897, 898, 899, 137, 179, 180, 5, 181, 331, 332, 333, 334, 162, 925, 926, 927, 928, 929, 930, 931, 932, 933, 934, 935, 936, 937, 938, 939, 940, 941, 942, 943, 944, 945, 946, 947, 948, 949, 950, 951, 952, 953, 954, 955, 956, 957, 958, 959, 960, 961, 962, 963, 964, 965, 966, 967, 968, 969, 970, 971] (by decide +kernel) (by decide +kernel)
set_option maxRecDepth 20000 in
theorem gL_law_X10_weight : GoodIn wsL_law (wsV RL 123 RX10 yX10_weight wsX10_weight) := goodIn_app (goodIn_of _ (by decide +kernel)) ggL_law_X10_weight
set_option maxRecDepth 20000 in
theorem ggL_law_X9_count : GoodIn wsL_law wsX9_count := goodIn_r _ [903, 20, 40, 16, 528, 529, 530, 56, 531, 74, 75, 916, 917, 918, 919, 920, 921, 922, 923, 924, 974, 975, 976, 977, 978, 979, 1015, 1016, 1017, 1018, 1019, 1020, 1008, 1009, 1010, 1011, 972, 973] (by decide +kernel) (by decide +kernel)
set_option maxRecDepth 20000 in
theorem gL_law_X9_count : GoodIn wsL_law (wsV RL 124 RX9 yX9_count wsX9_count) := goodIn_app (goodIn_of _ (by decide +kernel)) ggL_law_X9_count
set_option maxRecDepth 20000 in
theorem ggL_law_X10_count : GoodIn wsL_law wsX10_count := goodIn_r _ [907, 162, 282, 705, 177, 706, 363, 364, 365, 5, 366, 130, 579, 580, 581, 582, 925, 926, 927, 928, 929, 930, 931, 932, 933, 934, 935, 936, 937, 938, 939, 940, 941, 942, 943, 944, 945, 946, 947, 948, 949, 950, 951, 952, 953, 954, 955, 956, 957, 958, 959, 960, 961, 962, 963, 964, 965, 966, 967, 968, 969, 970, 971] (by decide +kernel) (by decide +kernel)
set_option maxRecDepth 20000 in
theorem gL_law_X10_count : GoodIn wsL_law (wsV RL 127 RX10 yX10_count wsX10_count) := goodIn_app (goodIn_of _ (by decide +kernel)) ggL_law_X10_count
set_option maxRecDepth 20000 in
theorem ggL_law_X9_trace : GoodIn wsL_law wsX9_trace := goodIn_r _ [911, 855, 916, 917, 918, 919, 920, 921, 922, 923, 924] (by decide +kernel) (by decide +kernel)
set_option maxRecDepth 20000 in
theorem gL_law_X9_trace : GoodIn wsL_law (wsV RL 128 RX9 yX9_trace wsX9_trace) := goodIn_app (goodIn_of _ (by decide +kernel)) ggL_law_X9_trace
set_option maxRecDepth 20000 in
theorem ggL_law_X10_trace : GoodIn wsL_law wsX10_trace := goodIn_r _ [915, 894, 925, 926, 927, 928, 929, 930, 931, 932, 933, 934, 935, 936, 937, 938, 939, 940, 941, 942, 943, 944, 945, 946, 947, 948, 949, 950, 951, 952, 953, 954, 955, 956, 957, 958, 959, 960, 961, 962, 963, 964, 965, 966, 967, 968, 969, 970, 971] (by decide +kernel) (by decide +kernel)
set_option maxRecDepth 20000 in
theorem gL_law_X10_trace : GoodIn wsL_law (wsV RL 132 RX10 yX10_trace wsX10_trace) := goodIn_app (goodIn_of _ (by decide +kernel)) ggL_law_X10_trace
theorem dL_law_0 : decode cL_law 0 = .ok (.new 7, 3) := by decide +kernel
theorem dL_law_3 : decode cL_law 3 = .ok (.dup, 1) := by decide +kernel
theorem dL_law_4 : decode cL_law 4 = .ok (.invokespecial 9, 3) := by decide +kernel
theorem dL_law_7 : decode cL_law 7 = .ok (.astore_n 1, 1) := by decide +kernel
theorem dL_law_8 : decode cL_law 8 = .ok (.new 10, 3) := by decide +kernel
theorem dL_law_11 : decode cL_law 11 = .ok (.dup, 1) := by decide +kernel
theorem dL_law_12 : decode cL_law 12 = .ok (.invokespecial 12, 3) := by decide +kernel
theorem dL_law_15 : decode cL_law 15 = .ok (.astore_n 2, 1) := by decide +kernel
