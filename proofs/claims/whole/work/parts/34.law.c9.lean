set_option maxRecDepth 20000 in
theorem ggL_law_X7_look : GoodIn wsL_law wsX7_look := goodIn_r _ [855, 114, 43, 44, 45, 46, 47, 48, 49, 62, 63, 64, 56, 57, 58, 59, 60, 66, 68, 67, 53, 54, 55, 282, 283, 284, 5, 285, 256, 119, 120, 121, 122, 856, 857, 858, 665, 666, 667, 922, 923, 924, 925, 926, 927, 928, 929, 930, 931, 932, 933, 934, 935, 936, 937, 938, 939, 940, 941, 942, 943, 944, 945, 946, 947, 948, 949, 950, 951, 952, 953, 954, 955, 956, 957, 958, 959, 960, 961, 962, 963, 964, 965, 966, 967, 968, 969, 970, 971, 972] (by decide +kernel) (by decide +kernel)
set_option maxRecDepth 20000 in
theorem gL_law_X7_look : GoodIn wsL_law (wsV RL 212 RX7 yX7_look wsX7_look) := goodIn_app (goodIn_of _ (by decide +kernel)) ggL_law_X7_look
set_option maxRecDepth 20000 in
theorem ggL_law_L_owed : GoodIn wsL_law wsL_owed := goodIn_ca (goodIn_r _ [861, 79, 862, 863, 864, 2, 865, 733, 267, 268, 269, 270, 92, 93, 19, 982, 983, 984, 985, 986, 987, 988, 989, 990, 991, 992, 993, 994, 995, 904, 905, 906, 907, 908, 909, 910, 911, 912, 913, 914, 915, 916, 917, 918, 919, 920, 921] (by decide +kernel) (by decide +kernel)) (goodIn_sub (fun _ h => List.mem_append_left _ (List.mem_append_left _ (List.mem_append_right _ h))) (by decide +kernel))
set_option maxRecDepth 20000 in
theorem gL_law_L_owed : GoodIn wsL_law (va_wsS RL 213 yL_owed wsL_owed) := goodIn_app (goodIn_of _ (by decide +kernel)) ggL_law_L_owed
set_option maxRecDepth 20000 in
theorem ggL_law_X7_owed : GoodIn wsL_law wsX7_owed := goodIn_r _ [869, 114, 69, 282, 283, 284, 5, 285, 256, 119, 120, 121, 122, 922, 923, 924, 925, 926, 927, 928, 929, 930, 931, 932, 933, 934, 935, 936, 937, 938, 939, 940, 941, 942, 943, 944, 945, 946, 947, 948, 949, 950, 951, 952, 953, 954, 955, 956, 957, 958, 959, 960, 961, 962, 963, 964, 965, 966, 967, 968, 969, 970, 971, 972] (by decide +kernel) (by decide +kernel)
set_option maxRecDepth 20000 in
theorem gL_law_X7_owed : GoodIn wsL_law (wsV RL 215 RX7 yX7_owed wsX7_owed) := goodIn_app (goodIn_of _ (by decide +kernel)) ggL_law_X7_owed
set_option maxRecDepth 20000 in
theorem ggL_law_X6_stall : GoodIn wsL_law wsX6_stall := goodIn_r _ [873, 607, 94, 95, 96, 2, 97, 15, 439, 423, 424, 23, 425, 30, 142, 135, 136, 137, 109, 982, 983, 984, 985, 986, 987, 988, 989, 990, 991, 992, 993, 994, 995, 904, 905, 906, 907, 908, 909, 910, 911, 912, 913, 914, 915, 916, 917, 918, 919, 920, 921, 973, 974, 975] (by decide +kernel) (by decide +kernel)
set_option maxRecDepth 20000 in
theorem gL_law_X6_stall : GoodIn wsL_law (wsV RL 216 RX6 yX6_stall wsX6_stall) := goodIn_app (goodIn_of _ (by decide +kernel)) ggL_law_X6_stall
set_option maxRecDepth 20000 in
theorem ggL_law_X7_stall : GoodIn wsL_law wsX7_stall := goodIn_r _ [877, 114, 256, 62, 63, 64, 512, 513, 514, 5, 515, 45, 922, 923, 924, 925, 926, 927, 928, 929, 930, 931, 932, 933, 934, 935, 936, 937, 938, 939, 940, 941, 942, 943, 944, 945, 946, 947, 948, 949, 950, 951, 952, 953, 954, 955, 956, 957, 958, 959, 960, 961, 962, 963, 964, 965, 966, 967, 968, 969, 970, 971, 972] (by decide +kernel) (by decide +kernel)
set_option maxRecDepth 20000 in
theorem gL_law_X7_stall : GoodIn wsL_law (wsV RL 219 RX7 yX7_stall wsX7_stall) := goodIn_app (goodIn_of _ (by decide +kernel)) ggL_law_X7_stall
set_option maxRecDepth 20000 in
theorem ggL_law_X6_square : GoodIn wsL_law wsX6_square := goodIn_r _ [881, 578, 94, 95, 96, 2, 97, 15, 882, 883, 884, 23, 885, 109, 28, 434, 435, 886, 887, 888, 889, 30, 973, 974, 975, 904, 905, 906, 907, 908, 909, 910, 911, 912, 913, 914, 915, 916, 917, 918, 919, 920, 921] (by decide +kernel) (by decide +kernel)
set_option maxRecDepth 20000 in
theorem gL_law_X6_square : GoodIn wsL_law (wsV RL 220 RX6 yX6_square wsX6_square) := goodIn_app (goodIn_of _ (by decide +kernel)) ggL_law_X6_square
