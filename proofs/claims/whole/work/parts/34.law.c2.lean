set_option maxRecDepth 20000 in
theorem ggL_law_X7_trader : GoodIn wsL_law wsX7_trader := goodIn_r _ [255, 114, 256, 43, 44, 45, 46, 257, 50, 68, 201, 202, 203, 5, 204, 176, 119, 120, 121, 122, 922, 923, 924, 925, 926, 927, 928, 929, 930, 931, 932, 933, 934, 935, 936, 937, 938, 939, 940, 941, 942, 943, 944, 945, 946, 947, 948, 949, 950, 951, 952, 953, 954, 955, 956, 957, 958, 959, 960, 961, 962, 963, 964, 965, 966, 967, 968, 969, 970, 971, 972] (by decide +kernel) (by decide +kernel)
set_option maxRecDepth 20000 in
theorem gL_law_X7_trader : GoodIn wsL_law (wsV RL 139 RX7 yX7_trader wsX7_trader) := goodIn_app (goodIn_of _ (by decide +kernel)) ggL_law_X7_trader
set_option maxRecDepth 20000 in
theorem ggL_law_L_pitch : GoodIn wsL_law wsL_pitch := goodIn_ca (goodIn_ca (goodIn_ca (goodIn_r _ [260, 79, 80, 81, 261, 262, 263, 2, 264, 86, 87, 265, 266, 267, 268, 269, 270, 92, 93, 19, 98, 99, 100, 101, 102, 103, 104, 271, 272, 273, 222, 274, 275, 276, 277, 982, 983, 984, 985, 986, 987, 988, 989, 990, 991, 992, 993, 994, 995, 904, 905, 906, 907, 908, 909, 910, 911, 912, 913, 914, 915, 916, 917, 918, 919, 920, 921, 996, 997, 998] (by decide +kernel) (by decide +kernel)) (goodIn_sub (fun _ h => List.mem_append_left _ (List.mem_append_left _ (List.mem_append_left _ (List.mem_append_right _ h)))) (by decide +kernel))) (goodIn_sub (fun _ h => List.mem_append_left _ (List.mem_append_left _ (List.mem_append_right _ h))) (by decide +kernel))) (goodIn_sub (fun _ h => List.mem_append_left _ (List.mem_append_right _ h)) (by decide +kernel))
set_option maxRecDepth 20000 in
theorem gL_law_L_pitch : GoodIn wsL_law (va_wsS RL 140 yL_pitch wsL_pitch) := goodIn_app (goodIn_of _ (by decide +kernel)) ggL_law_L_pitch
set_option maxRecDepth 20000 in
theorem ggL_law_X7_pitch : GoodIn wsL_law wsX7_pitch := goodIn_r _ [281, 114, 43, 115, 47, 48, 49, 282, 283, 284, 5, 285, 256, 119, 120, 121, 122, 922, 923, 924, 925, 926, 927, 928, 929, 930, 931, 932, 933, 934, 935, 936, 937, 938, 939, 940, 941, 942, 943, 944, 945, 946, 947, 948, 949, 950, 951, 952, 953, 954, 955, 956, 957, 958, 959, 960, 961, 962, 963, 964, 965, 966, 967, 968, 969, 970, 971, 972] (by decide +kernel) (by decide +kernel)
set_option maxRecDepth 20000 in
theorem gL_law_X7_pitch : GoodIn wsL_law (wsV RL 143 RX7 yX7_pitch wsX7_pitch) := goodIn_app (goodIn_of _ (by decide +kernel)) ggL_law_X7_pitch
set_option maxRecDepth 20000 in
theorem ggL_law_L_months : GoodIn wsL_law wsL_months := goodIn_ca (goodIn_ca (goodIn_ca (goodIn_r _ [288, 79, 80, 81, 289, 290, 291, 2, 292, 86, 87, 265, 293, 267, 268, 269, 270, 92, 93, 19, 98, 99, 100, 101, 102, 103, 104, 982, 983, 984, 985, 986, 987, 988, 989, 990, 991, 992, 993, 994, 995, 904, 905, 906, 907, 908, 909, 910, 911, 912, 913, 914, 915, 916, 917, 918, 919, 920, 921] (by decide +kernel) (by decide +kernel)) (goodIn_sub (fun _ h => List.mem_append_left _ (List.mem_append_left _ (List.mem_append_left _ (List.mem_append_right _ h)))) (by decide +kernel))) (goodIn_sub (fun _ h => List.mem_append_left _ (List.mem_append_left _ (List.mem_append_right _ h))) (by decide +kernel))) (goodIn_sub (fun _ h => List.mem_append_left _ (List.mem_append_right _ h)) (by decide +kernel))
set_option maxRecDepth 20000 in
theorem gL_law_L_months : GoodIn wsL_law (va_wsS RL 144 yL_months wsL_months) := goodIn_app (goodIn_of _ (by decide +kernel)) ggL_law_L_months
set_option maxRecDepth 20000 in
theorem ggL_law_X7_months : GoodIn wsL_law wsX7_months := goodIn_r _ [297, 114, 43, 115, 50, 282, 283, 284, 5, 285, 256, 119, 120, 121, 122, 922, 923, 924, 925, 926, 927, 928, 929, 930, 931, 932, 933, 934, 935, 936, 937, 938, 939, 940, 941, 942, 943, 944, 945, 946, 947, 948, 949, 950, 951, 952, 953, 954, 955, 956, 957, 958, 959, 960, 961, 962, 963, 964, 965, 966, 967, 968, 969, 970, 971, 972] (by decide +kernel) (by decide +kernel)
set_option maxRecDepth 20000 in
theorem gL_law_X7_months : GoodIn wsL_law (wsV RL 146 RX7 yX7_months wsX7_months) := goodIn_app (goodIn_of _ (by decide +kernel)) ggL_law_X7_months
set_option maxRecDepth 20000 in
theorem ggL_law_L_wish : GoodIn wsL_law wsL_wish := goodIn_ca (goodIn_r _ [300, 79, 301, 302, 303, 2, 304, 305, 267, 268, 269, 270, 92, 93, 19, 306, 307, 308, 226, 309, 310, 245, 246, 982, 983, 984, 985, 986, 987, 988, 989, 990, 991, 992, 993, 994, 995, 904, 905, 906, 907, 908, 909, 910, 911, 912, 913, 914, 915, 916, 917, 918, 919, 920, 921, 999, 1000, 1001, 1002] (by decide +kernel) (by decide +kernel)) (goodIn_sub (fun _ h => List.mem_append_left _ (List.mem_append_left _ (List.mem_append_right _ h))) (by decide +kernel))
set_option maxRecDepth 20000 in
theorem gL_law_L_wish : GoodIn wsL_law (va_wsS RL 147 yL_wish wsL_wish) := goodIn_app (goodIn_of _ (by decide +kernel)) ggL_law_L_wish
