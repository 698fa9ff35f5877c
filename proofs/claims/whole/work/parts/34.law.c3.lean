set_option maxRecDepth 20000 in
theorem ggL_law_X7_wish : GoodIn wsL_law wsX7_wish := goodIn_r _ [314, 114, 53, 51, 52, 282, 283, 284, 5, 285, 256, 119, 120, 121, 122, 922, 923, 924, 925, 926, 927, 928, 929, 930, 931, 932, 933, 934, 935, 936, 937, 938, 939, 940, 941, 942, 943, 944, 945, 946, 947, 948, 949, 950, 951, 952, 953, 954, 955, 956, 957, 958, 959, 960, 961, 962, 963, 964, 965, 966, 967, 968, 969, 970, 971, 972] (by decide +kernel) (by decide +kernel)
set_option maxRecDepth 20000 in
theorem gL_law_X7_wish : GoodIn wsL_law (wsV RL 149 RX7 yX7_wish wsX7_wish) := goodIn_app (goodIn_of _ (by decide +kernel)) ggL_law_X7_wish
set_option maxRecDepth 20000 in
theorem ggL_law_L_wishes : GoodIn wsL_law wsL_wishes := goodIn_ca (goodIn_r _ [317, 79, 318, 319, 320, 2, 321, 305, 267, 268, 269, 270, 92, 93, 19, 322, 323, 324, 226, 325, 310, 326, 982, 983, 984, 985, 986, 987, 988, 989, 990, 991, 992, 993, 994, 995, 904, 905, 906, 907, 908, 909, 910, 911, 912, 913, 914, 915, 916, 917, 918, 919, 920, 921, 999, 1000, 1001, 1002] (by decide +kernel) (by decide +kernel)) (goodIn_sub (fun _ h => List.mem_append_left _ (List.mem_append_left _ (List.mem_append_right _ h))) (by decide +kernel))
set_option maxRecDepth 20000 in
theorem gL_law_L_wishes : GoodIn wsL_law (va_wsS RL 150 yL_wishes wsL_wishes) := goodIn_app (goodIn_of _ (by decide +kernel)) ggL_law_L_wishes
set_option maxRecDepth 20000 in
theorem ggL_law_X7_wishes : GoodIn wsL_law wsX7_wishes := goodIn_r _ [330, 114, 53, 54, 282, 283, 284, 5, 285, 256, 119, 120, 121, 122, 922, 923, 924, 925, 926, 927, 928, 929, 930, 931, 932, 933, 934, 935, 936, 937, 938, 939, 940, 941, 942, 943, 944, 945, 946, 947, 948, 949, 950, 951, 952, 953, 954, 955, 956, 957, 958, 959, 960, 961, 962, 963, 964, 965, 966, 967, 968, 969, 970, 971, 972] (by decide +kernel) (by decide +kernel)
set_option maxRecDepth 20000 in
theorem gL_law_X7_wishes : GoodIn wsL_law (wsV RL 153 RX7 yX7_wishes wsX7_wishes) := goodIn_app (goodIn_of _ (by decide +kernel)) ggL_law_X7_wishes
set_option maxRecDepth 20000 in
theorem ggL_law_L_want : GoodIn wsL_law wsL_want := goodIn_ca (goodIn_r _ [333, 79, 334, 335, 336, 2, 337, 338, 267, 268, 269, 270, 92, 93, 19, 982, 983, 984, 985, 986, 987, 988, 989, 990, 991, 992, 993, 994, 995, 904, 905, 906, 907, 908, 909, 910, 911, 912, 913, 914, 915, 916, 917, 918, 919, 920, 921] (by decide +kernel) (by decide +kernel)) (goodIn_sub (fun _ h => List.mem_append_left _ (List.mem_append_left _ (List.mem_append_right _ h))) (by decide +kernel))
set_option maxRecDepth 20000 in
theorem gL_law_L_want : GoodIn wsL_law (va_wsS RL 154 yL_want wsL_want) := goodIn_app (goodIn_of _ (by decide +kernel)) ggL_law_L_want
set_option maxRecDepth 20000 in
theorem ggL_law_X7_want : GoodIn wsL_law wsX7_want := goodIn_r _ [342, 114, 55, 282, 283, 284, 5, 285, 256, 119, 120, 121, 122, 922, 923, 924, 925, 926, 927, 928, 929, 930, 931, 932, 933, 934, 935, 936, 937, 938, 939, 940, 941, 942, 943, 944, 945, 946, 947, 948, 949, 950, 951, 952, 953, 954, 955, 956, 957, 958, 959, 960, 961, 962, 963, 964, 965, 966, 967, 968, 969, 970, 971, 972] (by decide +kernel) (by decide +kernel)
set_option maxRecDepth 20000 in
theorem gL_law_X7_want : GoodIn wsL_law (wsV RL 156 RX7 yX7_want wsX7_want) := goodIn_app (goodIn_of _ (by decide +kernel)) ggL_law_X7_want
set_option maxRecDepth 20000 in
theorem ggL_law_L_day : GoodIn wsL_law wsL_day := goodIn_ca (goodIn_ca (goodIn_r _ [345, 80, 81, 346, 347, 348, 2, 349, 86, 87, 350, 351, 104, 352, 98, 99, 100, 101, 102, 103, 904, 905, 906, 907, 908, 909, 910, 911, 912, 913, 914, 915, 916, 917, 918, 919, 920, 921] (by decide +kernel) (by decide +kernel)) (goodIn_sub (fun _ h => List.mem_append_left _ (List.mem_append_left _ (List.mem_append_left _ (List.mem_append_right _ h)))) (by decide +kernel))) (goodIn_sub (fun _ h => List.mem_append_left _ (List.mem_append_right _ h)) (by decide +kernel))
set_option maxRecDepth 20000 in
theorem gL_law_L_day : GoodIn wsL_law (va_wsS RL 157 yL_day wsL_day) := goodIn_app (goodIn_of _ (by decide +kernel)) ggL_law_L_day
