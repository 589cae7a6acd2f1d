set_option maxRecDepth 100000 in
theorem ggL_law_X6_init : GoodIn wsL_law wsX6_init := goodIn_r _ [8, 9, 10, 11, 12, 13, 14, 15, 16, 17, 18, 19, 20, 21, 22, 23, 24, 25, 26, 27, 28, 29, 30, 31, 32, 33, 34, 35, 36, 37, 38, 39, 40, 41, 42, 43, 44, 45, 46, 47, 48, 49, 50, 51, 52, 53, 54, 55, 56, 57, 58, 59, 60, 61, 62, 63, 64, 65, 66, 67, 68, 69, 70, 71, 72, 73, 74, 75, 76, 77, 78, 79, 80, 81, 82, 83, 84, 85, 86, 87, 88, 89, 90, 91, 92, 93, 94, 95, 96, 97, 98, 99, 100, 101, 102, 103, 104, 105, 106, 107, 108, 109, 110, 111, 112, 113, 114, 115, 116, 117, 118, 119, 120, 121, 122, 123, 124, 125, 126, 127, 128, 129, 130, 131, 132, 133, 134, 872, 873, 874, 875, 876, 877, 878, 879, 880, 881, 882, 883, 884, 885, 886, 887, 888, 889, 969, 970, 971, 972, 973, 974, 975, 976, 977, 978, 979, 980, 981, 982, 983, 984, 985, 986, 987, 988, 989, 990, 991, 992, 993, 994, 995, 996, 997, 998, 999, 1000, 1001, 1002, 1003, 1004, 1005, 1006, 1007, 1008, 1009, 1010, 1011, 1012, 1013, 1014, 1015, 1016] rfl (by decide +kernel)
set_option maxRecDepth 100000 in
theorem gL_law_X6_init : GoodIn wsL_law (wsX6_init) := ggL_law_X6_init
set_option maxRecDepth 100000 in
theorem ggL_law_X7_init : GoodIn wsL_law wsX7_init := goodIn_r _ [137, 138, 10, 11, 24, 139, 140, 141, 142, 143, 144, 145, 146, 147, 148, 149, 150, 151, 152, 153, 154, 155, 156, 157, 158, 159, 160, 161, 162, 163, 164, 165, 88, 166, 167, 168, 169, 170, 171, 172, 173, 174, 175, 176, 177, 178, 179, 180, 181, 182, 183, 184, 185, 186, 187, 188, 189, 190, 191, 192, 193, 194, 195, 196, 197, 198, 199, 200, 201, 890, 891, 892, 893, 894, 895, 896, 897, 898, 899, 900, 901, 902, 903, 904, 905, 906, 907, 908, 909, 910, 911, 912, 913, 914, 915, 916, 917, 918, 919, 920, 921, 922, 923, 924, 925, 926, 927, 928, 929, 930, 931, 932, 933, 934, 935, 936, 937, 938, 939, 940, 941, 942, 943, 944, 945, 946, 947, 948, 949, 950, 951, 952, 953, 954, 955, 956, 957, 958, 959, 960, 961, 962, 963, 964, 965, 966, 967, 968] rfl (by decide +kernel)
set_option maxRecDepth 100000 in
theorem gL_law_X7_init : GoodIn wsL_law (wsX7_init) := ggL_law_X7_init
set_option maxRecDepth 100000 in
theorem ggL_law_X6_problem : GoodIn wsL_law wsX6_problem := goodIn_r _ [205, 20, 14, 872, 873, 874, 875, 876, 877, 878, 879, 880, 881, 882, 883, 884, 885, 886, 887, 888, 889] rfl (by decide +kernel)
set_option maxRecDepth 100000 in
theorem gL_law_X6_problem : GoodIn wsL_law (wsV RL 13 RX6 yX6_problem wsX6_problem) := goodIn_app (goodIn_of _ (by decide +kernel)) ggL_law_X6_problem
set_option maxRecDepth 100000 in
theorem ggL_law_X7_problem : GoodIn wsL_law wsX7_problem := goodIn_r _ [209, 210, 156, 211, 890, 891, 892, 893, 894, 895, 896, 897, 898, 899, 900, 901, 902, 903, 904, 905, 906, 907, 908, 909, 910, 911, 912, 913, 914, 915, 916, 917, 918, 919, 920, 921, 922, 923, 924, 925, 926, 927, 928, 929, 930, 931, 932, 933, 934, 935, 936, 937, 938, 939, 940, 941, 942, 943, 944, 945, 946, 947, 948, 949, 950, 951, 952, 953, 954, 955, 956, 957, 958, 959, 960, 961, 962, 963, 964, 965, 966, 967, 968] rfl (by decide +kernel)
set_option maxRecDepth 100000 in
theorem gL_law_X7_problem : GoodIn wsL_law (wsV RL 17 RX7 yX7_problem wsX7_problem) := goodIn_app (goodIn_of _ (by decide +kernel)) ggL_law_X7_problem
set_option maxRecDepth 100000 in
theorem ggL_law_X6_variable : GoodIn wsL_law wsX6_variable := goodIn_r _ [215, 20, 13, 216, 217, 218, 219, 2, 220, 14, 221, 222, 223, 224, 225, 226, 36, 227, 71, 67, 72, 228, 229, 230, 231, 69, 70, 872, 873, 874, 875, 876, 877, 878, 879, 880, 881, 882, 883, 884, 885, 886, 887, 888, 889, 979, 980, 981, 982, 983, 984, 985, 986, 987] rfl (by decide +kernel)
set_option maxRecDepth 100000 in
theorem gL_law_X6_variable : GoodIn wsL_law (wsV RL 18 RX6 yX6_variable wsX6_variable) := goodIn_app (goodIn_of _ (by decide +kernel)) ggL_law_X6_variable
set_option maxRecDepth 100000 in
theorem ggL_law_X7_variable : GoodIn wsL_law wsX7_variable := goodIn_r _ [235, 210, 156, 139, 141, 142, 236, 237, 238, 5, 239, 211, 240, 241, 242, 243, 244, 245, 246, 247, 149, 173, 174, 890, 891, 892, 893, 894, 895, 896, 897, 898, 899, 900, 901, 902, 903, 904, 905, 906, 907, 908, 909, 910, 911, 912, 913, 914, 915, 916, 917, 918, 919, 920, 921, 922, 923, 924, 925, 926, 927, 928, 929, 930, 931, 932, 933, 934, 935, 936, 937, 938, 939, 940, 941, 942, 943, 944, 945, 946, 947, 948, 949, 950, 951, 952, 953, 954, 955, 956, 957, 958, 959, 960, 961, 962, 963, 964, 965, 966, 967, 968] rfl (by decide +kernel)
set_option maxRecDepth 100000 in
theorem gL_law_X7_variable : GoodIn wsL_law (wsV RL 22 RX7 yX7_variable wsX7_variable) := goodIn_app (goodIn_of _ (by decide +kernel)) ggL_law_X7_variable
set_option maxRecDepth 100000 in
theorem ggL_law_X6_cost : GoodIn wsL_law wsX6_cost := goodIn_r _ [251, 13, 252, 253, 20, 217, 218, 219, 2, 220, 14, 221, 222, 223, 254, 255, 256, 36, 257, 71, 258, 259, 260, 261, 67, 262, 263, 264, 265, 34, 266, 267, 268, 269, 270, 72, 74, 228, 229, 230, 231, 69, 70, 271, 272, 273, 274, 872, 873, 874, 875, 876, 877, 878, 879, 880, 881, 882, 883, 884, 885, 886, 887, 888, 889, 979, 980, 981, 982, 983, 984, 985, 986, 987] rfl (by decide +kernel)
set_option maxRecDepth 100000 in
theorem gL_law_X6_cost : GoodIn wsL_law (wsV RL 23 RX6 yX6_cost wsX6_cost) := goodIn_app (goodIn_of _ (by decide +kernel)) ggL_law_X6_cost
set_option maxRecDepth 100000 in
theorem ggL_law_X7_cost : GoodIn wsL_law wsX7_cost := goodIn_r _ [278, 210, 279, 280, 281, 156, 142, 282, 143, 283, 284, 285, 5, 286, 139, 141, 236, 237, 238, 239, 211, 240, 241, 242, 287, 288, 289, 290, 291, 243, 244, 245, 246, 247, 149, 173, 174, 890, 891, 892, 893, 894, 895, 896, 897, 898, 899, 900, 901, 902, 903, 904, 905, 906, 907, 908, 909, 910, 911, 912, 913, 914, 915, 916, 917, 918, 919, 920, 921, 922, 923, 924, 925, 926, 927, 928, 929, 930, 931, 932, 933, 934, 935, 936, 937, 938, 939, 940, 941, 942, 943, 944, 945, 946, 947, 948, 949, 950, 951, 952, 953, 954, 955, 956, 957, 958, 959, 960, 961, 962, 963, 964, 965, 966, 967, 968] rfl (by decide +kernel)
set_option maxRecDepth 100000 in
theorem gL_law_X7_cost : GoodIn wsL_law (wsV RL 27 RX7 yX7_cost wsX7_cost) := goodIn_app (goodIn_of _ (by decide +kernel)) ggL_law_X7_cost
set_option maxRecDepth 100000 in
theorem ggL_law_X6_rule : GoodIn wsL_law wsX6_rule := goodIn_r _ [295, 20, 13, 296, 217, 218, 219, 2, 220, 14, 221, 222, 223, 297, 298, 299, 300, 301, 302, 36, 303, 76, 68, 304, 305, 228, 229, 230, 231, 69, 70, 872, 873, 874, 875, 876, 877, 878, 879, 880, 881, 882, 883, 884, 885, 886, 887, 888, 889, 979, 980, 981, 982, 983, 984, 985, 986, 987, 1010, 1011, 1012, 1013, 1014, 1015, 1016] rfl (by decide +kernel)
set_option maxRecDepth 100000 in
theorem gL_law_X6_rule : GoodIn wsL_law (wsV RL 28 RX6 yX6_rule wsX6_rule) := goodIn_app (goodIn_of _ (by decide +kernel)) ggL_law_X6_rule
set_option maxRecDepth 100000 in
theorem ggL_law_X7_rule : GoodIn wsL_law wsX7_rule := goodIn_r _ [309, 210, 156, 140, 144, 145, 236, 237, 238, 5, 239, 211, 240, 241, 242, 243, 244, 245, 246, 247, 149, 173, 174, 890, 891, 892, 893, 894, 895, 896, 897, 898, 899, 900, 901, 902, 903, 904, 905, 906, 907, 908, 909, 910, 911, 912, 913, 914, 915, 916, 917, 918, 919, 920, 921, 922, 923, 924, 925, 926, 927, 928, 929, 930, 931, 932, 933, 934, 935, 936, 937, 938, 939, 940, 941, 942, 943, 944, 945, 946, 947, 948, 949, 950, 951, 952, 953, 954, 955, 956, 957, 958, 959, 960, 961, 962, 963, 964, 965, 966, 967, 968] rfl (by decide +kernel)
set_option maxRecDepth 100000 in
theorem gL_law_X7_rule : GoodIn wsL_law (wsV RL 31 RX7 yX7_rule wsX7_rule) := goodIn_app (goodIn_of _ (by decide +kernel)) ggL_law_X7_rule
set_option maxRecDepth 100000 in
theorem ggL_law_X6_part : GoodIn wsL_law wsX6_part := goodIn_r _ [313, 13, 20, 314, 315, 217, 218, 219, 2, 220, 14, 221, 222, 223, 316, 317, 318, 36, 319, 68, 320, 259, 260, 261, 67, 321, 322, 323, 324, 76, 325, 228, 229, 230, 231, 69, 70, 326, 327, 328, 79, 329, 86, 85, 87, 89, 90, 872, 873, 874, 875, 876, 877, 878, 879, 880, 881, 882, 883, 884, 885, 886, 887, 888, 889, 979, 980, 981, 982, 983, 984, 985, 986, 987, 1010, 1011, 1012, 1013, 1014, 1015, 1016] rfl (by decide +kernel)
set_option maxRecDepth 100000 in
theorem gL_law_X6_part : GoodIn wsL_law (wsV RL 32 RX6 yX6_part wsX6_part) := goodIn_app (goodIn_of _ (by decide +kernel)) ggL_law_X6_part
set_option maxRecDepth 100000 in
theorem ggL_law_X7_part : GoodIn wsL_law wsX7_part := goodIn_r _ [333, 210, 139, 156, 147, 146, 148, 334, 335, 336, 5, 337, 140, 236, 237, 238, 239, 211, 240, 241, 242, 338, 339, 340, 341, 243, 244, 245, 246, 247, 149, 173, 174, 890, 891, 892, 893, 894, 895, 896, 897, 898, 899, 900, 901, 902, 903, 904, 905, 906, 907, 908, 909, 910, 911, 912, 913, 914, 915, 916, 917, 918, 919, 920, 921, 922, 923, 924, 925, 926, 927, 928, 929, 930, 931, 932, 933, 934, 935, 936, 937, 938, 939, 940, 941, 942, 943, 944, 945, 946, 947, 948, 949, 950, 951, 952, 953, 954, 955, 956, 957, 958, 959, 960, 961, 962, 963, 964, 965, 966, 967, 968] rfl (by decide +kernel)
set_option maxRecDepth 100000 in
theorem gL_law_X7_part : GoodIn wsL_law (wsV RL 35 RX7 yX7_part wsX7_part) := goodIn_app (goodIn_of _ (by decide +kernel)) ggL_law_X7_part
set_option maxRecDepth 100000 in
theorem ggL_law_X6_number : GoodIn wsL_law wsX6_number := goodIn_r _ [345, 13, 20, 217, 218, 219, 2, 220, 14, 221, 222, 223, 316, 317, 318, 36, 319, 68, 297, 298, 299, 262, 263, 264, 265, 34, 266, 346, 347, 348, 349, 76, 305, 228, 229, 230, 231, 69, 70, 271, 272, 273, 274, 872, 873, 874, 875, 876, 877, 878, 879, 880, 881, 882, 883, 884, 885, 886, 887, 888, 889, 979, 980, 981, 982, 983, 984, 985, 986, 987, 1010, 1011, 1012, 1013, 1014, 1015, 1016] rfl (by decide +kernel)
set_option maxRecDepth 100000 in
theorem gL_law_X6_number : GoodIn wsL_law (wsV RL 36 RX6 yX6_number wsX6_number) := goodIn_app (goodIn_of _ (by decide +kernel)) ggL_law_X6_number
set_option maxRecDepth 100000 in
theorem ggL_law_X7_number : GoodIn wsL_law wsX7_number := goodIn_r _ [353, 210, 279, 156, 145, 334, 335, 336, 5, 337, 140, 236, 237, 238, 239, 211, 240, 241, 242, 287, 288, 289, 290, 291, 243, 244, 245, 246, 247, 149, 173, 174, 890, 891, 892, 893, 894, 895, 896, 897, 898, 899, 900, 901, 902, 903, 904, 905, 906, 907, 908, 909, 910, 911, 912, 913, 914, 915, 916, 917, 918, 919, 920, 921, 922, 923, 924, 925, 926, 927, 928, 929, 930, 931, 932, 933, 934, 935, 936, 937, 938, 939, 940, 941, 942, 943, 944, 945, 946, 947, 948, 949, 950, 951, 952, 953, 954, 955, 956, 957, 958, 959, 960, 961, 962, 963, 964, 965, 966, 967, 968] rfl (by decide +kernel)
set_option maxRecDepth 100000 in
theorem gL_law_X7_number : GoodIn wsL_law (wsV RL 39 RX7 yX7_number wsX7_number) := goodIn_app (goodIn_of _ (by decide +kernel)) ggL_law_X7_number
set_option maxRecDepth 100000 in
theorem ggL_law_X6_helpers : GoodIn wsL_law wsX6_helpers := goodIn_r _ [357, 20, 18, 358, 221, 222, 2, 223, 359, 360, 361, 17, 362, 49, 51, 363, 132, 133, 134, 872, 873, 874, 875, 876, 877, 878, 879, 880, 881, 882, 883, 884, 885, 886, 887, 888, 889, 969, 970, 971, 972, 973, 974, 975] rfl (by decide +kernel)
set_option maxRecDepth 100000 in
theorem gL_law_X6_helpers : GoodIn wsL_law (wsV RL 40 RX6 yX6_helpers wsX6_helpers) := goodIn_app (goodIn_of _ (by decide +kernel)) ggL_law_X6_helpers
set_option maxRecDepth 100000 in
theorem ggL_law_X7_helpers : GoodIn wsL_law wsX7_helpers := goodIn_r _ [367, 210, 156, 150, 151, 240, 241, 5, 242, 890, 891, 892, 893, 894, 895, 896, 897, 898, 899, 900, 901, 902, 903, 904, 905, 906, 907, 908, 909, 910, 911, 912, 913, 914, 915, 916, 917, 918, 919, 920, 921, 922, 923, 924, 925, 926, 927, 928, 929, 930, 931, 932, 933, 934, 935, 936, 937, 938, 939, 940, 941, 942, 943, 944, 945, 946, 947, 948, 949, 950, 951, 952, 953, 954, 955, 956, 957, 958, 959, 960, 961, 962, 963, 964, 965, 966, 967, 968] rfl (by decide +kernel)
set_option maxRecDepth 100000 in
theorem gL_law_X7_helpers : GoodIn wsL_law (wsV RL 44 RX7 yX7_helpers wsX7_helpers) := goodIn_app (goodIn_of _ (by decide +kernel)) ggL_law_X7_helpers
set_option maxRecDepth 100000 in
theorem ggL_law_X6_fail : GoodIn wsL_law wsX6_fail := goodIn_r _ [371, 18, 358, 20, 372, 221, 222, 2, 223, 872, 873, 874, 875, 876, 877, 878, 879, 880, 881, 882, 883, 884, 885, 886, 887, 888, 889, 969, 970, 971, 972, 973, 974, 975] rfl (by decide +kernel)
set_option maxRecDepth 100000 in
theorem gL_law_X6_fail : GoodIn wsL_law (wsV RL 45 RX6 yX6_fail wsX6_fail) := goodIn_app (goodIn_of _ (by decide +kernel)) ggL_law_X6_fail
set_option maxRecDepth 100000 in
theorem ggL_law_X7_fail : GoodIn wsL_law wsX7_fail := goodIn_r _ [376, 210, 150, 156, 151, 240, 241, 5, 242, 890, 891, 892, 893, 894, 895, 896, 897, 898, 899, 900, 901, 902, 903, 904, 905, 906, 907, 908, 909, 910, 911, 912, 913, 914, 915, 916, 917, 918, 919, 920, 921, 922, 923, 924, 925, 926, 927, 928, 929, 930, 931, 932, 933, 934, 935, 936, 937, 938, 939, 940, 941, 942, 943, 944, 945, 946, 947, 948, 949, 950, 951, 952, 953, 954, 955, 956, 957, 958, 959, 960, 961, 962, 963, 964, 965, 966, 967, 968] rfl (by decide +kernel)
set_option maxRecDepth 100000 in
theorem gL_law_X7_fail : GoodIn wsL_law (wsV RL 49 RX7 yX7_fail wsX7_fail) := goodIn_app (goodIn_of _ (by decide +kernel)) ggL_law_X7_fail
set_option maxRecDepth 100000 in
theorem ggL_law_X6_turn : GoodIn wsL_law wsX6_turn := goodIn_r _ [380, 20, 18, 381, 382, 221, 222, 2, 223, 872, 873, 874, 875, 876, 877, 878, 879, 880, 881, 882, 883, 884, 885, 886, 887, 888, 889, 969, 970, 971, 972, 973, 974, 975] rfl (by decide +kernel)
set_option maxRecDepth 100000 in
theorem gL_law_X6_turn : GoodIn wsL_law (wsV RL 50 RX6 yX6_turn wsX6_turn) := goodIn_app (goodIn_of _ (by decide +kernel)) ggL_law_X6_turn
set_option maxRecDepth 100000 in
theorem ggL_law_X7_turn : GoodIn wsL_law wsX7_turn := goodIn_r _ [386, 210, 156, 387, 152, 240, 241, 5, 242, 890, 891, 892, 893, 894, 895, 896, 897, 898, 899, 900, 901, 902, 903, 904, 905, 906, 907, 908, 909, 910, 911, 912, 913, 914, 915, 916, 917, 918, 919, 920, 921, 922, 923, 924, 925, 926, 927, 928, 929, 930, 931, 932, 933, 934, 935, 936, 937, 938, 939, 940, 941, 942, 943, 944, 945, 946, 947, 948, 949, 950, 951, 952, 953, 954, 955, 956, 957, 958, 959, 960, 961, 962, 963, 964, 965, 966, 967, 968] rfl (by decide +kernel)
set_option maxRecDepth 100000 in
theorem gL_law_X7_turn : GoodIn wsL_law (wsV RL 53 RX7 yX7_turn wsX7_turn) := goodIn_app (goodIn_of _ (by decide +kernel)) ggL_law_X7_turn
set_option maxRecDepth 100000 in
theorem ggL_law_X6_plain : GoodIn wsL_law wsX6_plain := goodIn_r _ [391, 20, 18, 381, 872, 873, 874, 875, 876, 877, 878, 879, 880, 881, 882, 883, 884, 885, 886, 887, 888, 889, 969, 970, 971, 972, 973, 974, 975] rfl (by decide +kernel)
set_option maxRecDepth 100000 in
theorem gL_law_X6_plain : GoodIn wsL_law (wsV RL 54 RX6 yX6_plain wsX6_plain) := goodIn_app (goodIn_of _ (by decide +kernel)) ggL_law_X6_plain
set_option maxRecDepth 100000 in
theorem ggL_law_X7_plain : GoodIn wsL_law wsX7_plain := goodIn_r _ [395, 210, 156, 387, 890, 891, 892, 893, 894, 895, 896, 897, 898, 899, 900, 901, 902, 903, 904, 905, 906, 907, 908, 909, 910, 911, 912, 913, 914, 915, 916, 917, 918, 919, 920, 921, 922, 923, 924, 925, 926, 927, 928, 929, 930, 931, 932, 933, 934, 935, 936, 937, 938, 939, 940, 941, 942, 943, 944, 945, 946, 947, 948, 949, 950, 951, 952, 953, 954, 955, 956, 957, 958, 959, 960, 961, 962, 963, 964, 965, 966, 967, 968] rfl (by decide +kernel)
set_option maxRecDepth 100000 in
theorem gL_law_X7_plain : GoodIn wsL_law (wsV RL 57 RX7 yX7_plain wsX7_plain) := goodIn_app (goodIn_of _ (by decide +kernel)) ggL_law_X7_plain
set_option maxRecDepth 100000 in
theorem ggL_law_X6_limit : GoodIn wsL_law wsX6_limit := goodIn_r _ [399, 20, 19, 221, 222, 2, 223, 872, 873, 874, 875, 876, 877, 878, 879, 880, 881, 882, 883, 884, 885, 886, 887, 888, 889] rfl (by decide +kernel)
set_option maxRecDepth 100000 in
theorem gL_law_X6_limit : GoodIn wsL_law (wsV RL 58 RX6 yX6_limit wsX6_limit) := goodIn_app (goodIn_of _ (by decide +kernel)) ggL_law_X6_limit
set_option maxRecDepth 100000 in
theorem ggL_law_X7_limit : GoodIn wsL_law wsX7_limit := goodIn_r _ [403, 210, 156, 404, 240, 241, 5, 242, 890, 891, 892, 893, 894, 895, 896, 897, 898, 899, 900, 901, 902, 903, 904, 905, 906, 907, 908, 909, 910, 911, 912, 913, 914, 915, 916, 917, 918, 919, 920, 921, 922, 923, 924, 925, 926, 927, 928, 929, 930, 931, 932, 933, 934, 935, 936, 937, 938, 939, 940, 941, 942, 943, 944, 945, 946, 947, 948, 949, 950, 951, 952, 953, 954, 955, 956, 957, 958, 959, 960, 961, 962, 963, 964, 965, 966, 967, 968] rfl (by decide +kernel)
set_option maxRecDepth 100000 in
theorem gL_law_X7_limit : GoodIn wsL_law (wsV RL 61 RX7 yX7_limit wsX7_limit) := goodIn_app (goodIn_of _ (by decide +kernel)) ggL_law_X7_limit
set_option maxRecDepth 100000 in
theorem ggL_law_X6_solve : GoodIn wsL_law wsX6_solve := goodIn_r _ [408, 20, 40, 13, 18, 19, 217, 218, 219, 2, 220, 14, 221, 222, 223, 409, 410, 411, 39, 412, 101, 95, 96, 413, 97, 98, 100, 414, 415, 132, 133, 134, 416, 417, 418, 43, 419, 118, 113, 107, 108, 109, 110, 112, 129, 420, 421, 422, 423, 28, 424, 425, 426, 61, 59, 60, 62, 427, 428, 429, 36, 430, 68, 76, 71, 431, 432, 433, 79, 434, 83, 84, 435, 115, 116, 117, 436, 437, 438, 439, 85, 86, 87, 440, 441, 442, 443, 444, 445, 446, 447, 448, 449, 450, 451, 452, 453, 454, 455, 456, 457, 458, 459, 460, 461, 462, 463, 464, 465, 466, 467, 468, 469, 470, 471, 472, 473, 474, 475, 476, 477, 74, 478, 479, 480, 481, 89, 90, 482, 483, 484, 485, 486, 487, 488, 489, 490, 491, 120, 492, 122, 123, 493, 124, 494, 125, 126, 128, 495, 496, 497, 498, 499, 500, 501, 502, 17, 503, 50, 52, 49, 504, 505, 506, 507, 508, 509, 510, 511, 512, 513, 514, 515, 516, 517, 518, 519, 520, 521, 522, 523, 524, 525, 526, 527, 528, 529, 530, 531, 532, 533, 534, 535, 536, 537, 538, 539, 540, 541, 542, 543, 544, 545, 546, 547, 548, 549, 550, 551, 552, 553, 554, 555, 556, 557, 558, 559, 106, 560, 561, 562, 563, 564, 565, 566, 567, 568, 569, 570, 44, 571, 572, 573, 574, 575, 576, 577, 578, 579, 580, 581, 582, 872, 873, 874, 875, 876, 877, 878, 879, 880, 881, 882, 883, 884, 885, 886, 887, 888, 889, 988, 989, 990, 991, 992, 993, 969, 970, 971, 972, 973, 974, 975, 994, 995, 996, 997, 998, 999, 1000, 1001, 1002, 1003, 1004, 1005, 1006, 1007, 1008, 1009, 979, 980, 981, 982, 983, 984, 985, 986, 987, 976, 977, 978, 1010, 1011, 1012, 1013, 1014, 1015, 1016] rfl (by decide +kernel)
set_option maxRecDepth 100000 in
theorem gL_law_X6_solve : GoodIn wsL_law (wsV RL 62 RX6 yX6_solve wsX6_solve) := goodIn_app (goodIn_of _ (by decide +kernel)) ggL_law_X6_solve
set_option maxRecDepth 100000 in
theorem ggL_law_X7_solve : GoodIn wsL_law wsX7_solve := goodIn_r _ [586, 210, 156, 404, 587, 588, 157, 151, 158, 155, 159, 589, 387, 152, 150, 236, 237, 238, 5, 239, 211, 240, 241, 242, 590, 591, 592, 593, 594, 595, 188, 596, 597, 598, 599, 600, 601, 139, 141, 602, 603, 604, 605, 140, 606, 607, 608, 609, 145, 144, 146, 147, 148, 610, 611, 612, 613, 614, 615, 616, 617, 618, 619, 620, 621, 622, 623, 624, 625, 626, 627, 628, 629, 630, 631, 632, 633, 143, 338, 339, 340, 341, 634, 635, 636, 637, 638, 639, 640, 641, 160, 164, 163, 165, 166, 167, 171, 161, 162, 642, 643, 644, 645, 168, 172, 291, 173, 174, 175, 646, 176, 178, 179, 180, 181, 177, 182, 169, 183, 170, 647, 648, 649, 650, 651, 652, 653, 654, 655, 656, 657, 658, 153, 154, 659, 660, 661, 662, 663, 664, 665, 666, 667, 668, 669, 670, 671, 672, 673, 674, 890, 891, 892, 893, 894, 895, 896, 897, 898, 899, 900, 901, 902, 903, 904, 905, 906, 907, 908, 909, 910, 911, 912, 913, 914, 915, 916, 917, 918, 919, 920, 921, 922, 923, 924, 925, 926, 927, 928, 929, 930, 931, 932, 933, 934, 935, 936, 937, 938, 939, 940, 941, 942, 943, 944, 945, 946, 947, 948, 949, 950, 951, 952, 953, 954, 955, 956, 957, 958, 959, 960, 961, 962, 963, 964, 965, 966, 967, 968] rfl (by decide +kernel)
set_option maxRecDepth 100000 in
theorem gL_law_X7_solve : GoodIn wsL_law (wsV RL 65 RX7 yX7_solve wsX7_solve) := goodIn_app (goodIn_of _ (by decide +kernel)) ggL_law_X7_solve
set_option maxRecDepth 100000 in
theorem ggL_law_X6_giveUp : GoodIn wsL_law wsX6_giveUp := goodIn_r _ [678, 20, 872, 873, 874, 875, 876, 877, 878, 879, 880, 881, 882, 883, 884, 885, 886, 887, 888, 889] rfl (by decide +kernel)
set_option maxRecDepth 100000 in
theorem gL_law_X6_giveUp : GoodIn wsL_law (wsV RL 66 RX6 yX6_giveUp wsX6_giveUp) := goodIn_app (goodIn_of _ (by decide +kernel)) ggL_law_X6_giveUp
set_option maxRecDepth 100000 in
theorem ggL_law_X7_giveUp : GoodIn wsL_law wsX7_giveUp := goodIn_r _ [682, 210, 156, 890, 891, 892, 893, 894, 895, 896, 897, 898, 899, 900, 901, 902, 903, 904, 905, 906, 907, 908, 909, 910, 911, 912, 913, 914, 915, 916, 917, 918, 919, 920, 921, 922, 923, 924, 925, 926, 927, 928, 929, 930, 931, 932, 933, 934, 935, 936, 937, 938, 939, 940, 941, 942, 943, 944, 945, 946, 947, 948, 949, 950, 951, 952, 953, 954, 955, 956, 957, 958, 959, 960, 961, 962, 963, 964, 965, 966, 967, 968] rfl (by decide +kernel)
set_option maxRecDepth 100000 in
theorem gL_law_X7_giveUp : GoodIn wsL_law (wsV RL 69 RX7 yX7_giveUp wsX7_giveUp) := goodIn_app (goodIn_of _ (by decide +kernel)) ggL_law_X7_giveUp
set_option maxRecDepth 100000 in
theorem ggL_law_X6_told : GoodIn wsL_law wsX6_told := goodIn_r _ [686, 13, 570, 569, 217, 218, 219, 2, 220, 14, 221, 222, 223, 872, 873, 874, 875, 876, 877, 878, 879, 880, 881, 882, 883, 884, 885, 886, 887, 888, 889, 979, 980, 981, 982, 983, 984, 985, 986, 987] rfl (by decide +kernel)
set_option maxRecDepth 100000 in
theorem gL_law_X6_told : GoodIn wsL_law (wsV RL 70 RX6 yX6_told wsX6_told) := goodIn_app (goodIn_of _ (by decide +kernel)) ggL_law_X6_told
set_option maxRecDepth 100000 in
theorem ggL_law_X7_told : GoodIn wsL_law wsX7_told := goodIn_r _ [690, 210, 173, 172, 236, 237, 238, 5, 239, 211, 240, 241, 242, 890, 891, 892, 893, 894, 895, 896, 897, 898, 899, 900, 901, 902, 903, 904, 905, 906, 907, 908, 909, 910, 911, 912, 913, 914, 915, 916, 917, 918, 919, 920, 921, 922, 923, 924, 925, 926, 927, 928, 929, 930, 931, 932, 933, 934, 935, 936, 937, 938, 939, 940, 941, 942, 943, 944, 945, 946, 947, 948, 949, 950, 951, 952, 953, 954, 955, 956, 957, 958, 959, 960, 961, 962, 963, 964, 965, 966, 967, 968] rfl (by decide +kernel)
set_option maxRecDepth 100000 in
theorem gL_law_X7_told : GoodIn wsL_law (wsV RL 73 RX7 yX7_told wsX7_told) := goodIn_app (goodIn_of _ (by decide +kernel)) ggL_law_X7_told
set_option maxRecDepth 100000 in
theorem ggL_law_X6_answer : GoodIn wsL_law wsX6_answer := goodIn_r _ [694, 13, 570, 569, 217, 218, 219, 2, 220, 14, 221, 222, 223, 320, 259, 260, 36, 261, 67, 872, 873, 874, 875, 876, 877, 878, 879, 880, 881, 882, 883, 884, 885, 886, 887, 888, 889, 979, 980, 981, 982, 983, 984, 985, 986, 987] rfl (by decide +kernel)
set_option maxRecDepth 100000 in
theorem gL_law_X6_answer : GoodIn wsL_law (wsV RL 74 RX6 yX6_answer wsX6_answer) := goodIn_app (goodIn_of _ (by decide +kernel)) ggL_law_X6_answer
set_option maxRecDepth 100000 in
theorem ggL_law_X7_answer : GoodIn wsL_law wsX7_answer := goodIn_r _ [698, 210, 139, 174, 175, 236, 237, 238, 5, 239, 211, 240, 241, 242, 890, 891, 892, 893, 894, 895, 896, 897, 898, 899, 900, 901, 902, 903, 904, 905, 906, 907, 908, 909, 910, 911, 912, 913, 914, 915, 916, 917, 918, 919, 920, 921, 922, 923, 924, 925, 926, 927, 928, 929, 930, 931, 932, 933, 934, 935, 936, 937, 938, 939, 940, 941, 942, 943, 944, 945, 946, 947, 948, 949, 950, 951, 952, 953, 954, 955, 956, 957, 958, 959, 960, 961, 962, 963, 964, 965, 966, 967, 968] rfl (by decide +kernel)
set_option maxRecDepth 100000 in
theorem gL_law_X7_answer : GoodIn wsL_law (wsV RL 77 RX7 yX7_answer wsX7_answer) := goodIn_app (goodIn_of _ (by decide +kernel)) ggL_law_X7_answer
set_option maxRecDepth 100000 in
theorem ggL_law_X6_walked : GoodIn wsL_law wsX6_walked := goodIn_r _ [702, 44, 703, 704, 705, 706, 221, 222, 2, 223, 707, 579, 580, 43, 581, 120, 708, 709, 710, 711, 123, 128, 560, 561, 562, 563, 118, 530, 122, 712, 541, 542, 543, 544, 545, 546, 547, 872, 873, 874, 875, 876, 877, 878, 879, 880, 881, 882, 883, 884, 885, 886, 887, 888, 889, 994, 995, 996, 997, 998, 999, 1000, 1001, 1002, 1003, 1004, 1005, 1006, 1007, 1008, 1009, 979, 980, 981, 982, 983, 984, 985, 986, 987] rfl (by decide +kernel)
set_option maxRecDepth 100000 in
theorem gL_law_X6_walked : GoodIn wsL_law (wsV RL 78 RX6 yX6_walked wsX6_walked) := goodIn_app (goodIn_of _ (by decide +kernel)) ggL_law_X6_walked
set_option maxRecDepth 100000 in
theorem ggL_law_X7_walked : GoodIn wsL_law wsX7_walked := goodIn_r _ [716, 210, 646, 176, 177, 178, 179, 180, 240, 241, 5, 242, 890, 891, 892, 893, 894, 895, 896, 897, 898, 899, 900, 901, 902, 903, 904, 905, 906, 907, 908, 909, 910, 911, 912, 913, 914, 915, 916, 917, 918, 919, 920, 921, 922, 923, 924, 925, 926, 927, 928, 929, 930, 931, 932, 933, 934, 935, 936, 937, 938, 939, 940, 941, 942, 943, 944, 945, 946, 947, 948, 949, 950, 951, 952, 953, 954, 955, 956, 957, 958, 959, 960, 961, 962, 963, 964, 965, 966, 967, 968] rfl (by decide +kernel)
set_option maxRecDepth 100000 in
theorem gL_law_X7_walked : GoodIn wsL_law (wsV RL 81 RX7 yX7_walked wsX7_walked) := goodIn_app (goodIn_of _ (by decide +kernel)) ggL_law_X7_walked
set_option maxRecDepth 100000 in
theorem ggL_law_X6_closed : GoodIn wsL_law wsX6_closed := goodIn_r _ [720, 44, 703, 704, 721, 722, 221, 222, 2, 223, 723, 724, 725, 43, 726, 128, 560, 561, 562, 563, 118, 530, 122, 872, 873, 874, 875, 876, 877, 878, 879, 880, 881, 882, 883, 884, 885, 886, 887, 888, 889, 994, 995, 996, 997, 998, 999, 1000, 1001, 1002, 1003, 1004, 1005, 1006, 1007, 1008, 1009, 979, 980, 981, 982, 983, 984, 985, 986, 987] rfl (by decide +kernel)
set_option maxRecDepth 100000 in
theorem gL_law_X6_closed : GoodIn wsL_law (wsV RL 82 RX6 yX6_closed wsX6_closed) := goodIn_app (goodIn_of _ (by decide +kernel)) ggL_law_X6_closed
set_option maxRecDepth 100000 in
theorem ggL_law_X7_closed : GoodIn wsL_law wsX7_closed := goodIn_r _ [730, 210, 646, 181, 182, 183, 240, 241, 5, 242, 890, 891, 892, 893, 894, 895, 896, 897, 898, 899, 900, 901, 902, 903, 904, 905, 906, 907, 908, 909, 910, 911, 912, 913, 914, 915, 916, 917, 918, 919, 920, 921, 922, 923, 924, 925, 926, 927, 928, 929, 930, 931, 932, 933, 934, 935, 936, 937, 938, 939, 940, 941, 942, 943, 944, 945, 946, 947, 948, 949, 950, 951, 952, 953, 954, 955, 956, 957, 958, 959, 960, 961, 962, 963, 964, 965, 966, 967, 968] rfl (by decide +kernel)
set_option maxRecDepth 100000 in
theorem gL_law_X7_closed : GoodIn wsL_law (wsV RL 85 RX7 yX7_closed wsX7_closed) := goodIn_app (goodIn_of _ (by decide +kernel)) ggL_law_X7_closed
set_option maxRecDepth 100000 in
theorem ggL_law_X6_helper : GoodIn wsL_law wsX6_helper := goodIn_r _ [734, 18, 735, 736, 737, 221, 222, 2, 223, 872, 873, 874, 875, 876, 877, 878, 879, 880, 881, 882, 883, 884, 885, 886, 887, 888, 889, 969, 970, 971, 972, 973, 974, 975] rfl (by decide +kernel)
set_option maxRecDepth 100000 in
theorem gL_law_X6_helper : GoodIn wsL_law (wsV RL 86 RX6 yX6_helper wsX6_helper) := goodIn_app (goodIn_of _ (by decide +kernel)) ggL_law_X6_helper
set_option maxRecDepth 100000 in
theorem ggL_law_X7_helper : GoodIn wsL_law wsX7_helper := goodIn_r _ [741, 210, 155, 153, 154, 240, 241, 5, 242, 890, 891, 892, 893, 894, 895, 896, 897, 898, 899, 900, 901, 902, 903, 904, 905, 906, 907, 908, 909, 910, 911, 912, 913, 914, 915, 916, 917, 918, 919, 920, 921, 922, 923, 924, 925, 926, 927, 928, 929, 930, 931, 932, 933, 934, 935, 936, 937, 938, 939, 940, 941, 942, 943, 944, 945, 946, 947, 948, 949, 950, 951, 952, 953, 954, 955, 956, 957, 958, 959, 960, 961, 962, 963, 964, 965, 966, 967, 968] rfl (by decide +kernel)
set_option maxRecDepth 100000 in
theorem gL_law_X7_helper : GoodIn wsL_law (wsV RL 89 RX7 yX7_helper wsX7_helper) := goodIn_app (goodIn_of _ (by decide +kernel)) ggL_law_X7_helper
set_option maxRecDepth 100000 in
theorem ggL_law_X6_ask : GoodIn wsL_law wsX6_ask := goodIn_r _ [745, 21, 13, 746, 22, 23, 25, 216, 217, 218, 219, 2, 220, 14, 221, 222, 223, 131, 132, 133, 134, 872, 873, 874, 875, 876, 877, 878, 879, 880, 881, 882, 883, 884, 885, 886, 887, 888, 889, 979, 980, 981, 982, 983, 984, 985, 986, 987] rfl (by decide +kernel)
set_option maxRecDepth 100000 in
theorem gL_law_X6_ask : GoodIn wsL_law (wsV RL 90 RX6 yX6_ask wsX6_ask) := goodIn_app (goodIn_of _ (by decide +kernel)) ggL_law_X6_ask
set_option maxRecDepth 100000 in
theorem ggL_law_X7_ask : GoodIn wsL_law wsX7_ask := goodIn_r _ [750, 210, 184, 149, 751, 752, 139, 236, 237, 238, 5, 239, 211, 240, 241, 242, 890, 891, 892, 893, 894, 895, 896, 897, 898, 899, 900, 901, 902, 903, 904, 905, 906, 907, 908, 909, 910, 911, 912, 913, 914, 915, 916, 917, 918, 919, 920, 921, 922, 923, 924, 925, 926, 927, 928, 929, 930, 931, 932, 933, 934, 935, 936, 937, 938, 939, 940, 941, 942, 943, 944, 945, 946, 947, 948, 949, 950, 951, 952, 953, 954, 955, 956, 957, 958, 959, 960, 961, 962, 963, 964, 965, 966, 967, 968] rfl (by decide +kernel)
set_option maxRecDepth 100000 in
theorem gL_law_X7_ask : GoodIn wsL_law (wsV RL 93 RX7 yX7_ask wsX7_ask) := goodIn_app (goodIn_of _ (by decide +kernel)) ggL_law_X7_ask
set_option maxRecDepth 100000 in
theorem ggL_law_X6_with : GoodIn wsL_law wsX6_with := goodIn_r _ [756, 21, 13, 23, 25, 254, 255, 256, 36, 257, 71, 258, 259, 260, 261, 67, 872, 873, 874, 875, 876, 877, 878, 879, 880, 881, 882, 883, 884, 885, 886, 887, 888, 889, 979, 980, 981, 982, 983, 984, 985, 986, 987] rfl (by decide +kernel)
set_option maxRecDepth 100000 in
theorem gL_law_X6_with : GoodIn wsL_law (wsV RL 94 RX6 yX6_with wsX6_with) := goodIn_app (goodIn_of _ (by decide +kernel)) ggL_law_X6_with
set_option maxRecDepth 100000 in
theorem ggL_law_X7_with : GoodIn wsL_law wsX7_with := goodIn_r _ [760, 210, 184, 752, 139, 141, 185, 240, 241, 5, 242, 890, 891, 892, 893, 894, 895, 896, 897, 898, 899, 900, 901, 902, 903, 904, 905, 906, 907, 908, 909, 910, 911, 912, 913, 914, 915, 916, 917, 918, 919, 920, 921, 922, 923, 924, 925, 926, 927, 928, 929, 930, 931, 932, 933, 934, 935, 936, 937, 938, 939, 940, 941, 942, 943, 944, 945, 946, 947, 948, 949, 950, 951, 952, 953, 954, 955, 956, 957, 958, 959, 960, 961, 962, 963, 964, 965, 966, 967, 968] rfl (by decide +kernel)
set_option maxRecDepth 100000 in
theorem gL_law_X7_with : GoodIn wsL_law (wsV RL 97 RX7 yX7_with wsX7_with) := goodIn_app (goodIn_of _ (by decide +kernel)) ggL_law_X7_with
set_option maxRecDepth 100000 in
theorem ggL_law_X6_node : GoodIn wsL_law wsX6_node := goodIn_r _ [764, 21, 13, 746, 22, 314, 25, 765, 29, 23, 766, 767, 768, 221, 222, 2, 223, 316, 317, 318, 36, 319, 68, 769, 432, 433, 79, 434, 83, 84, 435, 115, 116, 117, 436, 437, 438, 439, 85, 86, 87, 440, 441, 442, 443, 444, 445, 446, 447, 448, 449, 450, 451, 452, 453, 454, 455, 456, 457, 458, 459, 460, 461, 462, 463, 464, 465, 770, 771, 772, 254, 255, 256, 257, 71, 258, 259, 260, 261, 67, 773, 774, 775, 776, 777, 428, 429, 430, 76, 431, 778, 422, 423, 28, 424, 425, 426, 61, 59, 60, 62, 427, 466, 467, 468, 469, 470, 471, 472, 473, 474, 475, 476, 477, 74, 478, 479, 480, 481, 89, 90, 482, 483, 484, 485, 486, 487, 872, 873, 874, 875, 876, 877, 878, 879, 880, 881, 882, 883, 884, 885, 886, 887, 888, 889, 979, 980, 981, 982, 983, 984, 985, 986, 987, 976, 977, 978, 1010, 1011, 1012, 1013, 1014, 1015, 1016] rfl (by decide +kernel)
set_option maxRecDepth 100000 in
theorem gL_law_X6_node : GoodIn wsL_law (wsV RL 98 RX6 yX6_node wsX6_node) := goodIn_app (goodIn_of _ (by decide +kernel)) ggL_law_X6_node
set_option maxRecDepth 100000 in
theorem ggL_law_X7_node : GoodIn wsL_law wsX7_node := goodIn_r _ [782, 210, 184, 149, 751, 188, 752, 185, 601, 291, 600, 240, 241, 5, 242, 334, 335, 336, 337, 140, 236, 237, 238, 239, 211, 606, 607, 608, 609, 145, 144, 146, 147, 148, 610, 611, 612, 613, 614, 615, 616, 617, 141, 618, 619, 620, 621, 622, 623, 624, 625, 283, 284, 285, 286, 139, 634, 635, 636, 637, 602, 603, 604, 605, 596, 597, 598, 599, 626, 627, 628, 629, 630, 631, 632, 633, 143, 338, 339, 340, 341, 890, 891, 892, 893, 894, 895, 896, 897, 898, 899, 900, 901, 902, 903, 904, 905, 906, 907, 908, 909, 910, 911, 912, 913, 914, 915, 916, 917, 918, 919, 920, 921, 922, 923, 924, 925, 926, 927, 928, 929, 930, 931, 932, 933, 934, 935, 936, 937, 938, 939, 940, 941, 942, 943, 944, 945, 946, 947, 948, 949, 950, 951, 952, 953, 954, 955, 956, 957, 958, 959, 960, 961, 962, 963, 964, 965, 966, 967, 968] rfl (by decide +kernel)
set_option maxRecDepth 100000 in
theorem gL_law_X7_node : GoodIn wsL_law (wsV RL 101 RX7 yX7_node wsX7_node) := goodIn_app (goodIn_of _ (by decide +kernel)) ggL_law_X7_node
set_option maxRecDepth 100000 in
theorem ggL_law_X6_second : GoodIn wsL_law wsX6_second := goodIn_r _ [786, 787, 30, 45, 13, 266, 788, 217, 218, 219, 2, 220, 14, 221, 222, 223, 131, 132, 133, 134, 789, 417, 418, 43, 419, 118, 113, 107, 108, 109, 110, 112, 129, 420, 421, 422, 423, 28, 424, 425, 426, 61, 59, 60, 62, 427, 428, 429, 36, 430, 68, 76, 71, 431, 432, 433, 79, 434, 83, 84, 435, 115, 116, 117, 436, 437, 438, 439, 85, 86, 87, 440, 441, 442, 443, 444, 445, 446, 447, 448, 449, 450, 451, 452, 453, 454, 455, 456, 457, 458, 459, 460, 461, 462, 463, 464, 465, 466, 467, 468, 469, 470, 471, 472, 473, 474, 475, 476, 477, 74, 478, 479, 480, 481, 89, 90, 482, 483, 484, 485, 486, 487, 488, 489, 490, 491, 120, 492, 122, 123, 493, 124, 494, 125, 126, 128, 790, 553, 554, 555, 791, 526, 527, 528, 529, 530, 531, 532, 533, 534, 535, 536, 537, 538, 539, 540, 541, 542, 543, 544, 545, 546, 547, 792, 557, 558, 559, 106, 560, 561, 562, 563, 793, 794, 707, 579, 580, 581, 872, 873, 874, 875, 876, 877, 878, 879, 880, 881, 882, 883, 884, 885, 886, 887, 888, 889, 994, 995, 996, 997, 998, 999, 1000, 1001, 1002, 1003, 1004, 1005, 1006, 1007, 1008, 1009, 979, 980, 981, 982, 983, 984, 985, 986, 987, 976, 977, 978, 1010, 1011, 1012, 1013, 1014, 1015, 1016] rfl (by decide +kernel)
set_option maxRecDepth 100000 in
theorem gL_law_X6_second : GoodIn wsL_law (wsV RL 102 RX6 yX6_second wsX6_second) := goodIn_app (goodIn_of _ (by decide +kernel)) ggL_law_X6_second
set_option maxRecDepth 100000 in
theorem ggL_law_X7_second : GoodIn wsL_law wsX7_second := goodIn_r _ [798, 210, 799, 595, 160, 139, 186, 163, 291, 800, 187, 161, 236, 237, 238, 5, 239, 211, 240, 241, 242, 801, 802, 803, 804, 589, 594, 189, 190, 191, 162, 192, 193, 164, 194, 165, 195, 166, 196, 167, 197, 168, 198, 169, 199, 170, 200, 171, 201, 805, 806, 807, 808, 809, 810, 590, 591, 592, 593, 188, 596, 597, 598, 599, 600, 601, 141, 602, 603, 604, 605, 140, 606, 607, 608, 609, 145, 144, 146, 147, 148, 610, 611, 612, 613, 614, 615, 616, 617, 618, 619, 620, 621, 622, 623, 624, 625, 626, 627, 628, 629, 630, 631, 632, 633, 143, 338, 339, 340, 341, 634, 635, 636, 637, 638, 639, 640, 641, 647, 648, 649, 650, 651, 652, 653, 654, 671, 672, 673, 674, 659, 660, 661, 662, 663, 664, 665, 666, 890, 891, 892, 893, 894, 895, 896, 897, 898, 899, 900, 901, 902, 903, 904, 905, 906, 907, 908, 909, 910, 911, 912, 913, 914, 915, 916, 917, 918, 919, 920, 921, 922, 923, 924, 925, 926, 927, 928, 929, 930, 931, 932, 933, 934, 935, 936, 937, 938, 939, 940, 941, 942, 943, 944, 945, 946, 947, 948, 949, 950, 951, 952, 953, 954, 955, 956, 957, 958, 959, 960, 961, 962, 963, 964, 965, 966, 967, 968] rfl (by decide +kernel)
set_option maxRecDepth 100000 in
theorem gL_law_X7_second : GoodIn wsL_law (wsV RL 105 RX7 yX7_second wsX7_second) := goodIn_app (goodIn_of _ (by decide +kernel)) ggL_law_X7_second
set_option maxRecDepth 100000 in
theorem ggL_law_X6_row : GoodIn wsL_law wsX6_row := goodIn_r _ [814, 30, 221, 222, 2, 223, 872, 873, 874, 875, 876, 877, 878, 879, 880, 881, 882, 883, 884, 885, 886, 887, 888, 889] rfl (by decide +kernel)
set_option maxRecDepth 100000 in
theorem gL_law_X6_row : GoodIn wsL_law (wsV RL 106 RX6 yX6_row wsX6_row) := goodIn_app (goodIn_of _ (by decide +kernel)) ggL_law_X6_row
set_option maxRecDepth 100000 in
theorem ggL_law_X7_row : GoodIn wsL_law wsX7_row := goodIn_r _ [818, 210, 186, 187, 240, 241, 5, 242, 890, 891, 892, 893, 894, 895, 896, 897, 898, 899, 900, 901, 902, 903, 904, 905, 906, 907, 908, 909, 910, 911, 912, 913, 914, 915, 916, 917, 918, 919, 920, 921, 922, 923, 924, 925, 926, 927, 928, 929, 930, 931, 932, 933, 934, 935, 936, 937, 938, 939, 940, 941, 942, 943, 944, 945, 946, 947, 948, 949, 950, 951, 952, 953, 954, 955, 956, 957, 958, 959, 960, 961, 962, 963, 964, 965, 966, 967, 968] rfl (by decide +kernel)
set_option maxRecDepth 100000 in
theorem gL_law_X7_row : GoodIn wsL_law (wsV RL 109 RX7 yX7_row wsX7_row) := goodIn_app (goodIn_of _ (by decide +kernel)) ggL_law_X7_row
set_option maxRecDepth 100000 in
theorem ggL_law_X6_same : GoodIn wsL_law wsX6_same := goodIn_r _ [822, 20, 31, 40, 13, 19, 823, 32, 33, 217, 218, 219, 2, 220, 14, 221, 222, 223, 359, 360, 361, 17, 362, 49, 51, 363, 132, 133, 134, 409, 410, 411, 39, 412, 101, 95, 96, 413, 97, 98, 100, 414, 415, 416, 417, 418, 43, 419, 118, 113, 107, 108, 109, 110, 112, 129, 420, 421, 422, 423, 28, 424, 425, 426, 61, 59, 60, 62, 427, 428, 429, 36, 430, 68, 76, 71, 431, 432, 433, 79, 434, 83, 84, 435, 115, 116, 117, 436, 437, 438, 439, 85, 86, 87, 440, 441, 442, 443, 444, 445, 446, 447, 448, 449, 450, 451, 452, 453, 454, 455, 456, 457, 458, 459, 460, 461, 462, 463, 464, 465, 466, 467, 468, 469, 470, 471, 472, 473, 474, 475, 476, 477, 74, 478, 479, 480, 481, 89, 90, 482, 483, 484, 485, 486, 487, 488, 489, 490, 491, 120, 492, 122, 123, 493, 124, 494, 125, 126, 128, 495, 496, 497, 498, 499, 500, 501, 502, 503, 50, 52, 504, 505, 506, 507, 508, 509, 510, 511, 512, 513, 514, 515, 516, 517, 518, 519, 520, 521, 522, 523, 524, 525, 526, 527, 528, 529, 530, 531, 532, 533, 534, 535, 536, 537, 538, 539, 540, 541, 542, 543, 544, 545, 546, 547, 548, 549, 550, 551, 552, 553, 554, 555, 556, 557, 558, 559, 106, 560, 561, 562, 563, 564, 572, 573, 574, 575, 576, 577, 578, 579, 580, 581, 582, 824, 825, 826, 827, 770, 771, 772, 872, 873, 874, 875, 876, 877, 878, 879, 880, 881, 882, 883, 884, 885, 886, 887, 888, 889, 969, 970, 971, 972, 973, 974, 975, 988, 989, 990, 991, 992, 993, 994, 995, 996, 997, 998, 999, 1000, 1001, 1002, 1003, 1004, 1005, 1006, 1007, 1008, 1009, 979, 980, 981, 982, 983, 984, 985, 986, 987, 976, 977, 978, 1010, 1011, 1012, 1013, 1014, 1015, 1016] rfl (by decide +kernel)
set_option maxRecDepth 100000 in
theorem gL_law_X6_same : GoodIn wsL_law (wsV RL 110 RX6 yX6_same wsX6_same) := goodIn_app (goodIn_of _ (by decide +kernel)) ggL_law_X6_same
set_option maxRecDepth 100000 in
theorem ggL_law_X7_same : GoodIn wsL_law wsX7_same := goodIn_r _ [831, 210, 156, 236, 237, 238, 5, 239, 211, 240, 241, 242, 890, 891, 892, 893, 894, 895, 896, 897, 898, 899, 900, 901, 902, 903, 904, 905, 906, 907, 908, 909, 910, 911, 912, 913, 914, 915, 916, 917, 918, 919, 920, 921, 922, 923, 924, 925, 926, 927, 928, 929, 930, 931, 932, 933, 934, 935, 936, 937, 938, 939, 940, 941, 942, 943, 944, 945, 946, 947, 948, 949, 950, 951, 952, 953, 954, 955, 956, 957, 958, 959, 960, 961, 962, 963, 964, 965, 966, 967, 968] rfl (by decide +kernel)
set_option maxRecDepth 100000 in
theorem gL_law_X7_same : GoodIn wsL_law (wsV RL 113 RX7 yX7_same wsX7_same) := goodIn_app (goodIn_of _ (by decide +kernel)) ggL_law_X7_same
set_option maxRecDepth 100000 in
theorem ggL_law_X6_count : GoodIn wsL_law wsX6_count := goodIn_r _ [835, 20, 14, 19, 18, 358, 381, 40, 571, 836, 837, 703, 872, 873, 874, 875, 876, 877, 878, 879, 880, 881, 882, 883, 884, 885, 886, 887, 888, 889, 969, 970, 971, 972, 973, 974, 975, 988, 989, 990, 991, 992, 993, 994, 995, 996, 997, 998, 999, 1000, 1001, 1002, 1003, 1004, 1005, 1006, 1007, 1008, 1009] rfl (by decide +kernel)
set_option maxRecDepth 100000 in
theorem gL_law_X6_count : GoodIn wsL_law (wsV RL 114 RX6 yX6_count wsX6_count) := goodIn_app (goodIn_of _ (by decide +kernel)) ggL_law_X6_count
set_option maxRecDepth 100000 in
theorem ggL_law_X7_count : GoodIn wsL_law wsX7_count := goodIn_r _ [841, 210, 211, 404, 150, 387, 156, 589, 594, 595, 890, 891, 892, 893, 894, 895, 896, 897, 898, 899, 900, 901, 902, 903, 904, 905, 906, 907, 908, 909, 910, 911, 912, 913, 914, 915, 916, 917, 918, 919, 920, 921, 922, 923, 924, 925, 926, 927, 928, 929, 930, 931, 932, 933, 934, 935, 936, 937, 938, 939, 940, 941, 942, 943, 944, 945, 946, 947, 948, 949, 950, 951, 952, 953, 954, 955, 956, 957, 958, 959, 960, 961, 962, 963, 964, 965, 966, 967, 968] rfl (by decide +kernel)
set_option maxRecDepth 100000 in
theorem gL_law_X7_count : GoodIn wsL_law (wsV RL 117 RX7 yX7_count wsX7_count) := goodIn_app (goodIn_of _ (by decide +kernel)) ggL_law_X7_count
set_option maxRecDepth 100000 in
theorem ggL_law_X6_about : GoodIn wsL_law wsX6_about := goodIn_r _ [845, 13, 216, 296, 314, 765, 846, 217, 218, 219, 2, 220, 14, 221, 222, 223, 262, 263, 264, 265, 34, 266, 271, 272, 273, 274, 316, 317, 318, 36, 319, 68, 847, 848, 849, 79, 850, 83, 84, 85, 320, 259, 260, 261, 67, 872, 873, 874, 875, 876, 877, 878, 879, 880, 881, 882, 883, 884, 885, 886, 887, 888, 889, 979, 980, 981, 982, 983, 984, 985, 986, 987, 1010, 1011, 1012, 1013, 1014, 1015, 1016] rfl (by decide +kernel)
set_option maxRecDepth 100000 in
theorem gL_law_X6_about : GoodIn wsL_law (wsV RL 118 RX6 yX6_about wsX6_about) := goodIn_app (goodIn_of _ (by decide +kernel)) ggL_law_X6_about
set_option maxRecDepth 100000 in
theorem ggL_law_X7_about : GoodIn wsL_law wsX7_about := goodIn_r _ [854, 210, 279, 139, 140, 144, 145, 146, 141, 142, 236, 237, 238, 5, 239, 211, 240, 241, 242, 287, 288, 289, 290, 291, 334, 335, 336, 337, 890, 891, 892, 893, 894, 895, 896, 897, 898, 899, 900, 901, 902, 903, 904, 905, 906, 907, 908, 909, 910, 911, 912, 913, 914, 915, 916, 917, 918, 919, 920, 921, 922, 923, 924, 925, 926, 927, 928, 929, 930, 931, 932, 933, 934, 935, 936, 937, 938, 939, 940, 941, 942, 943, 944, 945, 946, 947, 948, 949, 950, 951, 952, 953, 954, 955, 956, 957, 958, 959, 960, 961, 962, 963, 964, 965, 966, 967, 968] rfl (by decide +kernel)
set_option maxRecDepth 100000 in
theorem gL_law_X7_about : GoodIn wsL_law (wsV RL 121 RX7 yX7_about wsX7_about) := goodIn_app (goodIn_of _ (by decide +kernel)) ggL_law_X7_about
set_option maxRecDepth 100000 in
theorem ggL_law_X6_costs : GoodIn wsL_law wsX6_costs := goodIn_r _ [858, 13, 859, 217, 218, 219, 2, 220, 14, 221, 222, 223, 254, 255, 256, 36, 257, 71, 258, 259, 260, 261, 67, 262, 263, 264, 265, 34, 266, 271, 272, 273, 274, 872, 873, 874, 875, 876, 877, 878, 879, 880, 881, 882, 883, 884, 885, 886, 887, 888, 889, 979, 980, 981, 982, 983, 984, 985, 986, 987] rfl (by decide +kernel)
set_option maxRecDepth 100000 in
theorem gL_law_X6_costs : GoodIn wsL_law (wsV RL 122 RX6 yX6_costs wsX6_costs) := goodIn_app (goodIn_of _ (by decide +kernel)) ggL_law_X6_costs
set_option maxRecDepth 100000 in
theorem ggL_law_X7_costs : GoodIn wsL_law wsX7_costs := goodIn_r _ [863, 210, 279, 283, 284, 285, 5, 286, 139, 141, 236, 237, 238, 239, 211, 240, 241, 242, 630, 631, 632, 633, 143, 287, 288, 289, 290, 291, 890, 891, 892, 893, 894, 895, 896, 897, 898, 899, 900, 901, 902, 903, 904, 905, 906, 907, 908, 909, 910, 911, 912, 913, 914, 915, 916, 917, 918, 919, 920, 921, 922, 923, 924, 925, 926, 927, 928, 929, 930, 931, 932, 933, 934, 935, 936, 937, 938, 939, 940, 941, 942, 943, 944, 945, 946, 947, 948, 949, 950, 951, 952, 953, 954, 955, 956, 957, 958, 959, 960, 961, 962, 963, 964, 965, 966, 967, 968] rfl (by decide +kernel)
set_option maxRecDepth 100000 in
theorem gL_law_X7_costs : GoodIn wsL_law (wsV RL 125 RX7 yX7_costs wsX7_costs) := goodIn_app (goodIn_of _ (by decide +kernel)) ggL_law_X7_costs
set_option maxRecDepth 100000 in
theorem ggL_law_X6_status : GoodIn wsL_law wsX6_status := goodIn_r _ [867, 34, 872, 873, 874, 875, 876, 877, 878, 879, 880, 881, 882, 883, 884, 885, 886, 887, 888, 889] rfl (by decide +kernel)
set_option maxRecDepth 100000 in
theorem gL_law_X6_status : GoodIn wsL_law (wsV RL 126 RX6 yX6_status wsX6_status) := goodIn_app (goodIn_of _ (by decide +kernel)) ggL_law_X6_status
set_option maxRecDepth 100000 in
theorem ggL_law_X7_status : GoodIn wsL_law wsX7_status := goodIn_r _ [871, 210, 279, 890, 891, 892, 893, 894, 895, 896, 897, 898, 899, 900, 901, 902, 903, 904, 905, 906, 907, 908, 909, 910, 911, 912, 913, 914, 915, 916, 917, 918, 919, 920, 921, 922, 923, 924, 925, 926, 927, 928, 929, 930, 931, 932, 933, 934, 935, 936, 937, 938, 939, 940, 941, 942, 943, 944, 945, 946, 947, 948, 949, 950, 951, 952, 953, 954, 955, 956, 957, 958, 959, 960, 961, 962, 963, 964, 965, 966, 967, 968] rfl (by decide +kernel)
set_option maxRecDepth 100000 in
theorem gL_law_X7_status : GoodIn wsL_law (wsV RL 129 RX7 yX7_status wsX7_status) := goodIn_app (goodIn_of _ (by decide +kernel)) ggL_law_X7_status
