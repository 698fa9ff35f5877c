theorem dL_there_19 : decode cL_there 19 = .ok (.astore_n 3, 1) := by decide +kernel
theorem dL_there_20 : decode cL_there 20 = .ok (.iconst 1, 1) := by decide +kernel
theorem dL_there_21 : decode cL_there 21 = .ok (.ireturn, 1) := by decide +kernel
theorem dL_there_22 : decode cL_there 22 = .ok (.astore_n 3, 1) := by decide +kernel
theorem dL_there_23 : decode cL_there 23 = .ok (.iconst 2, 1) := by decide +kernel
theorem dL_there_24 : decode cL_there 24 = .ok (.ireturn, 1) := by decide +kernel
theorem dL_there_25 : decode cL_there 25 = .ok (.iconst 0, 1) := by decide +kernel
theorem dL_there_26 : decode cL_there 26 = .ok (.ireturn, 1) := by decide +kernel
set_option maxRecDepth 20000 in
theorem ggL_word_X6_word : GoodIn wsL_word wsX6_word := goodIn_ca (goodIn_ca (goodIn_r _ [7, 8, 9, 10, 11, 12, 13, 6, 14, 15, 16, 17, 18, 19, 20, 21, 22, 23, 24, 25, 26, 27, 28, 29, 30, 31, 32, 33, 34, 35, 36, 37, 38, 39, 40, 41, 42, 43, 44, 45, 46, 47, 48, 49, 50, 51, 52, 53, 54, 55, 56, 57, 58, 59, 60, 61, 62, 63, 64] (by decide +kernel) (by decide +kernel)) (goodIn_sub (fun _ h => List.mem_cons_of_mem _ (List.mem_append_left _ (List.mem_append_right _ h))) (by decide +kernel))) (goodIn_sub (fun _ h => List.mem_cons_of_mem _ (List.mem_append_right _ h)) (by decide +kernel))
set_option maxRecDepth 20000 in
theorem gL_word_X6_word : GoodIn wsL_word (wsV RL 62 RX6 yX6_word wsX6_word) := goodIn_app (goodIn_of _ (by decide +kernel)) ggL_word_X6_word
theorem dL_word_0 : decode cL_word 0 = .ok (.aload_n 2, 1) := by decide +kernel
theorem dL_word_1 : decode cL_word 1 = .ok (.iconst 0, 1) := by decide +kernel
theorem dL_word_2 : decode cL_word 2 = .ok (.aload_n 0, 1) := by decide +kernel
theorem dL_word_3 : decode cL_word 3 = .ok (.iload_n 1, 1) := by decide +kernel
theorem dL_word_4 : decode cL_word 4 = .ok (.invokevirtual 62, 3) := by decide +kernel
theorem dL_word_7 : decode cL_word 7 = .ok (.ifCond .eq 7, 3) := by decide +kernel
theorem dL_word_10 : decode cL_word 10 = .ok (.lconst 1, 1) := by decide +kernel
theorem dL_word_11 : decode cL_word 11 = .ok (.goto 4, 3) := by decide +kernel
theorem dL_word_14 : decode cL_word 14 = .ok (.lconst 0, 1) := by decide +kernel
theorem dL_word_15 : decode cL_word 15 = .ok (.lastore, 1) := by decide +kernel
theorem dL_word_16 : decode cL_word 16 = .ok (.goto 9, 3) := by decide +kernel
theorem dL_word_19 : decode cL_word 19 = .ok (.astore_n 3, 1) := by decide +kernel
theorem dL_word_20 : decode cL_word 20 = .ok (.iconst 1, 1) := by decide +kernel
theorem dL_word_21 : decode cL_word 21 = .ok (.ireturn, 1) := by decide +kernel
theorem dL_word_22 : decode cL_word 22 = .ok (.astore_n 3, 1) := by decide +kernel
theorem dL_word_23 : decode cL_word 23 = .ok (.iconst 2, 1) := by decide +kernel
theorem dL_word_24 : decode cL_word 24 = .ok (.ireturn, 1) := by decide +kernel
theorem dL_word_25 : decode cL_word 25 = .ok (.iconst 0, 1) := by decide +kernel
theorem dL_word_26 : decode cL_word 26 = .ok (.ireturn, 1) := by decide +kernel
set_option maxRecDepth 20000 in
theorem ggL_bell_X6_bell : GoodIn wsL_bell wsX6_bell := goodIn_ca (goodIn_r _ [6, 7, 8, 9, 10, 5, 11, 12, 13, 14, 15, 16, 17, 18, 19, 20, 21, 22, 23, 24, 25, 26, 27, 28, 29, 30, 31, 32, 33, 34, 35, 36, 37, 38, 39, 40, 41, 42, 43, 44, 45, 46, 47, 48, 49, 50, 51, 52, 53, 54, 55, 56, 57, 58, 59, 60, 61, 62, 63, 64, 65, 66, 67, 68, 69, 70, 71, 72, 73, 74, 75, 76, 77, 78, 79, 80, 81, 82, 83, 84, 85, 86, 87, 88, 89, 90, 91, 92, 93, 94, 95, 96, 97, 98, 99, 100, 101, 102, 103, 104, 105, 106, 107, 108, 109, 110, 111, 112, 113, 114, 115, 116, 117, 118, 119, 120, 121, 122, 123, 124, 125, 126, 127, 128, 129, 130, 131, 132, 133, 134, 135, 136, 137, 138, 139, 140, 141, 142, 143, 144, 145, 146, 147, 148, 149, 150, 151, 152, 153, 154, 155, 156, 157, 158, 159, 160, 161, 162, 163, 164, 165, 166, 167, 168, 169, 170, 171, 172, 173, 174, 175, 176, 177, 178, 179, 180, 181, 182, 183, 184, 185, 186, 187] (by decide +kernel) (by decide +kernel)) (goodIn_sub (fun _ h => List.mem_cons_of_mem _ (List.mem_append_right _ h)) (by decide +kernel))
set_option maxRecDepth 20000 in
theorem gL_bell_X6_bell : GoodIn wsL_bell (wsV RL 65 RX6 yX6_bell wsX6_bell) := goodIn_app (goodIn_of _ (by decide +kernel)) ggL_bell_X6_bell
theorem dL_bell_0 : decode cL_bell 0 = .ok (.aload_n 1, 1) := by decide +kernel
theorem dL_bell_1 : decode cL_bell 1 = .ok (.iconst 0, 1) := by decide +kernel
theorem dL_bell_2 : decode cL_bell 2 = .ok (.aload_n 0, 1) := by decide +kernel
theorem dL_bell_3 : decode cL_bell 3 = .ok (.invokevirtual 65, 3) := by decide +kernel
theorem dL_bell_6 : decode cL_bell 6 = .ok (.i2l, 1) := by decide +kernel
theorem dL_bell_7 : decode cL_bell 7 = .ok (.lastore, 1) := by decide +kernel
theorem dL_bell_8 : decode cL_bell 8 = .ok (.goto 6, 3) := by decide +kernel
theorem dL_bell_11 : decode cL_bell 11 = .ok (.astore_n 2, 1) := by decide +kernel
theorem dL_bell_12 : decode cL_bell 12 = .ok (.iconst 1, 1) := by decide +kernel
theorem dL_bell_13 : decode cL_bell 13 = .ok (.ireturn, 1) := by decide +kernel
theorem dL_bell_14 : decode cL_bell 14 = .ok (.iconst 0, 1) := by decide +kernel
theorem dL_bell_15 : decode cL_bell 15 = .ok (.ireturn, 1) := by decide +kernel
set_option maxRecDepth 20000 in
theorem ggL_why_X6_why : GoodIn wsL_why wsX6_why := goodIn_ca (goodIn_r _ [6, 7, 8, 9, 5, 10, 11, 12, 13, 14, 15, 16, 17, 18, 19, 20, 21, 22, 23, 24, 25, 26, 27, 28, 29, 30, 31, 32, 33, 34, 35, 36, 37, 38, 39, 40, 41, 42, 43, 44, 45, 46, 47, 48, 49, 50, 51, 52, 53, 54, 55, 56, 57, 58, 59, 60, 61, 62, 63, 64, 65, 66, 67, 68, 69, 70, 71, 72, 73, 74, 75, 76, 77, 78, 79, 80, 81, 82, 83, 84, 85, 86, 87, 88, 89, 90, 91, 92, 93, 94, 95, 96, 97, 98, 99, 100, 101, 102, 103, 104, 105, 106, 107, 108, 109, 110, 111, 112, 113, 114, 115, 116, 117, 118, 119, 120, 121, 122, 123, 124, 125, 126, 127, 128, 129, 130, 131, 132, 133, 134, 135, 136, 137, 138, 139, 140, 141, 142, 143, 144, 145, 146, 147, 148, 149, 150, 151, 152, 153] (by decide +kernel) (by decide +kernel)) (goodIn_sub (fun _ h => List.mem_cons_of_mem _ (List.mem_append_right _ h)) (by decide +kernel))
set_option maxRecDepth 20000 in
theorem gL_why_X6_why : GoodIn wsL_why (wsV RL 69 RX6 yX6_why wsX6_why) := goodIn_app (goodIn_of _ (by decide +kernel)) ggL_why_X6_why
theorem dL_why_0 : decode cL_why 0 = .ok (.aload 4, 2) := by decide +kernel
theorem dL_why_2 : decode cL_why 2 = .ok (.iconst 0, 1) := by decide +kernel
theorem dL_why_3 : decode cL_why 3 = .ok (.aload_n 0, 1) := by decide +kernel
theorem dL_why_4 : decode cL_why 4 = .ok (.iload_n 1, 1) := by decide +kernel
theorem dL_why_5 : decode cL_why 5 = .ok (.iload_n 2, 1) := by decide +kernel
theorem dL_why_6 : decode cL_why 6 = .ok (.iload_n 3, 1) := by decide +kernel
theorem dL_why_7 : decode cL_why 7 = .ok (.invokevirtual 69, 3) := by decide +kernel
theorem dL_why_10 : decode cL_why 10 = .ok (.i2l, 1) := by decide +kernel
theorem dL_why_11 : decode cL_why 11 = .ok (.lastore, 1) := by decide +kernel
theorem dL_why_12 : decode cL_why 12 = .ok (.goto 7, 3) := by decide +kernel
theorem dL_why_15 : decode cL_why 15 = .ok (.astore 5, 2) := by decide +kernel
theorem dL_why_17 : decode cL_why 17 = .ok (.iconst 1, 1) := by decide +kernel
theorem dL_why_18 : decode cL_why 18 = .ok (.ireturn, 1) := by decide +kernel
theorem dL_why_19 : decode cL_why 19 = .ok (.iconst 0, 1) := by decide +kernel
theorem dL_why_20 : decode cL_why 20 = .ok (.ireturn, 1) := by decide +kernel
set_option maxRecDepth 20000 in
theorem ggL_good_X6_good : GoodIn wsL_good wsX6_good := goodIn_ca (goodIn_r _ [6, 7, 8, 9, 5, 10, 11, 12, 13, 14, 15, 16, 17, 18, 19, 20, 21, 22, 23, 24, 25, 26, 27, 28, 29, 30, 31, 32, 33, 34, 35, 36, 37, 38, 39, 40, 41, 42, 43, 44, 45, 46, 47, 48, 49, 50, 51, 52, 53, 54, 55, 56, 57, 58, 59, 60, 61, 62, 63, 64, 65, 66, 67, 68, 69, 70, 71, 72, 73, 74, 75, 76, 77, 78, 79, 80, 81, 82, 83, 84, 85, 86, 87, 88, 89, 90, 91, 92, 93, 94, 95, 96, 97, 98, 99, 100, 101, 102, 103, 104, 105, 106, 107, 108, 109, 110, 111, 112, 113, 114, 115, 116, 117, 118, 119, 120, 121, 122, 123, 124, 125, 126, 127, 128, 129, 130, 131, 132, 133, 134, 135, 136, 137, 138, 139, 140, 141, 142, 143, 144, 145, 146, 147, 148, 149, 150, 151, 152, 153, 154, 155, 156, 157, 158, 159, 160, 161, 162, 163, 164, 165, 166, 167, 168, 169, 170, 171, 172, 173, 174, 175, 176] (by decide +kernel) (by decide +kernel)) (goodIn_sub (fun _ h => List.mem_cons_of_mem _ (List.mem_append_right _ h)) (by decide +kernel))
set_option maxRecDepth 20000 in
theorem gL_good_X6_good : GoodIn wsL_good (wsV RL 72 RX6 yX6_good wsX6_good) := goodIn_app (goodIn_of _ (by decide +kernel)) ggL_good_X6_good
theorem dL_good_0 : decode cL_good 0 = .ok (.aload_n 2, 1) := by decide +kernel
theorem dL_good_1 : decode cL_good 1 = .ok (.iconst 0, 1) := by decide +kernel
theorem dL_good_2 : decode cL_good 2 = .ok (.aload_n 0, 1) := by decide +kernel
theorem dL_good_3 : decode cL_good 3 = .ok (.iload_n 1, 1) := by decide +kernel
theorem dL_good_4 : decode cL_good 4 = .ok (.invokevirtual 72, 3) := by decide +kernel
theorem dL_good_7 : decode cL_good 7 = .ok (.i2l, 1) := by decide +kernel
theorem dL_good_8 : decode cL_good 8 = .ok (.lastore, 1) := by decide +kernel
theorem dL_good_9 : decode cL_good 9 = .ok (.goto 6, 3) := by decide +kernel
theorem dL_good_12 : decode cL_good 12 = .ok (.astore_n 3, 1) := by decide +kernel
theorem dL_good_13 : decode cL_good 13 = .ok (.iconst 1, 1) := by decide +kernel
theorem dL_good_14 : decode cL_good 14 = .ok (.ireturn, 1) := by decide +kernel
theorem dL_good_15 : decode cL_good 15 = .ok (.iconst 0, 1) := by decide +kernel
theorem dL_good_16 : decode cL_good 16 = .ok (.ireturn, 1) := by decide +kernel
set_option maxRecDepth 20000 in
theorem ggL_next_X6_next : GoodIn wsL_next wsX6_next := goodIn_ca (goodIn_r _ [6, 7, 8, 9, 10, 11, 12, 13, 5, 14, 15, 16, 17, 18, 19, 20, 21, 22, 23, 24, 25, 26, 27, 28, 29, 30, 31, 32, 33, 34, 35, 36, 37, 38, 39, 40, 41, 42, 43, 44, 45, 46, 47, 48, 49, 50, 51, 52, 53, 54, 55, 56, 57, 58, 59, 60, 61, 62, 63, 64, 65, 66, 67, 68, 69, 70, 71, 72, 73, 74, 75, 76, 77, 78, 79, 80, 81, 82, 83, 84, 85, 86, 87, 88, 89, 90, 91, 92, 93, 94, 95, 96, 97, 98, 99, 100, 101, 102, 103, 104, 105, 106, 107, 108, 109, 110, 111, 112, 113, 114, 115, 116, 117, 118, 119, 120, 121, 122, 123, 124, 125, 126, 127, 128, 129, 130, 131, 132, 133, 134, 135, 136, 137, 138, 139, 140, 141, 142, 143, 144, 145, 146, 147, 148, 149, 150, 151, 152, 153, 154, 155, 156, 157, 158, 159, 160, 161, 162, 163, 164, 165, 166, 167, 168, 169, 170, 171, 172, 173, 174, 175, 176, 177, 178, 179, 180, 181, 182, 183, 184, 185, 186, 187, 188, 189, 190, 191, 192, 193, 194, 195, 196, 197, 198, 199, 200, 201, 202, 203, 204, 205, 206, 207, 208, 209, 210, 211, 212, 213, 214, 215, 216, 217, 218, 219, 220, 221, 222, 223, 224, 225, 226, 227, 228, 229, 230, 231, 232, 233, 234, 235, 236, 237, 238, 239, 240, 241, 242, 243, 244] (by decide +kernel) (by decide +kernel)) (goodIn_sub (fun _ h => List.mem_cons_of_mem _ (List.mem_append_right _ h)) (by decide +kernel))
set_option maxRecDepth 20000 in
theorem gL_next_X6_next : GoodIn wsL_next (wsV RL 75 RX6 yX6_next wsX6_next) := goodIn_app (goodIn_of _ (by decide +kernel)) ggL_next_X6_next
theorem dL_next_0 : decode cL_next 0 = .ok (.aload_n 1, 1) := by decide +kernel
theorem dL_next_1 : decode cL_next 1 = .ok (.iconst 0, 1) := by decide +kernel
theorem dL_next_2 : decode cL_next 2 = .ok (.aload_n 0, 1) := by decide +kernel
theorem dL_next_3 : decode cL_next 3 = .ok (.invokevirtual 75, 3) := by decide +kernel
theorem dL_next_6 : decode cL_next 6 = .ok (.i2l, 1) := by decide +kernel
theorem dL_next_7 : decode cL_next 7 = .ok (.lastore, 1) := by decide +kernel
theorem dL_next_8 : decode cL_next 8 = .ok (.goto 6, 3) := by decide +kernel
theorem dL_next_11 : decode cL_next 11 = .ok (.astore_n 2, 1) := by decide +kernel
theorem dL_next_12 : decode cL_next 12 = .ok (.iconst 1, 1) := by decide +kernel
theorem dL_next_13 : decode cL_next 13 = .ok (.ireturn, 1) := by decide +kernel
theorem dL_next_14 : decode cL_next 14 = .ok (.iconst 0, 1) := by decide +kernel
theorem dL_next_15 : decode cL_next 15 = .ok (.ireturn, 1) := by decide +kernel
set_option maxRecDepth 20000 in
theorem ggL_full_X6_full : GoodIn wsL_full wsX6_full := goodIn_ca (goodIn_r _ [6, 7, 8, 9, 10, 11, 5, 12, 13, 14, 15, 16, 17, 18, 19, 20, 21, 22, 23, 24, 25, 26, 27, 28, 29, 30, 31, 32, 33, 34, 35, 36, 37, 38, 39, 40, 41, 42, 43, 44, 45, 46, 47, 48, 49, 50, 51, 52, 53, 54, 55, 56, 57, 58, 59, 60, 61, 62, 63, 64, 65, 66, 67, 68, 69, 70, 71, 72, 73, 74, 75, 76, 77, 78, 79, 80, 81, 82, 83, 84, 85, 86, 87, 88, 89, 90, 91, 92, 93, 94, 95, 96, 97, 98, 99, 100, 101, 102, 103, 104, 105, 106, 107, 108, 109, 110, 111, 112, 113, 114, 115, 116, 117, 118, 119, 120, 121, 122, 123, 124, 125, 126, 127, 128, 129, 130, 131, 132, 133, 134, 135, 136, 137, 138, 139, 140, 141, 142, 143, 144, 145, 146, 147, 148, 149, 150, 151, 152, 153, 154, 155, 156, 157, 158, 159, 160, 161, 162, 163, 164, 165, 166, 167, 168, 169, 170, 171, 172, 173, 174, 175, 176, 177, 178, 179, 180, 181, 182, 183, 184, 185, 186, 187] (by decide +kernel) (by decide +kernel)) (goodIn_sub (fun _ h => List.mem_cons_of_mem _ (List.mem_append_right _ h)) (by decide +kernel))
set_option maxRecDepth 20000 in
theorem gL_full_X6_full : GoodIn wsL_full (wsV RL 78 RX6 yX6_full wsX6_full) := goodIn_app (goodIn_of _ (by decide +kernel)) ggL_full_X6_full
theorem dL_full_0 : decode cL_full 0 = .ok (.aload_n 1, 1) := by decide +kernel
theorem dL_full_1 : decode cL_full 1 = .ok (.iconst 0, 1) := by decide +kernel
theorem dL_full_2 : decode cL_full 2 = .ok (.aload_n 0, 1) := by decide +kernel
theorem dL_full_3 : decode cL_full 3 = .ok (.invokevirtual 78, 3) := by decide +kernel
theorem dL_full_6 : decode cL_full 6 = .ok (.ifCond .eq 7, 3) := by decide +kernel
theorem dL_full_9 : decode cL_full 9 = .ok (.lconst 1, 1) := by decide +kernel
theorem dL_full_10 : decode cL_full 10 = .ok (.goto 4, 3) := by decide +kernel
theorem dL_full_13 : decode cL_full 13 = .ok (.lconst 0, 1) := by decide +kernel
theorem dL_full_14 : decode cL_full 14 = .ok (.lastore, 1) := by decide +kernel
theorem dL_full_15 : decode cL_full 15 = .ok (.goto 6, 3) := by decide +kernel
theorem dL_full_18 : decode cL_full 18 = .ok (.astore_n 2, 1) := by decide +kernel
theorem dL_full_19 : decode cL_full 19 = .ok (.iconst 1, 1) := by decide +kernel
theorem dL_full_20 : decode cL_full 20 = .ok (.ireturn, 1) := by decide +kernel
theorem dL_full_21 : decode cL_full 21 = .ok (.iconst 0, 1) := by decide +kernel
theorem dL_full_22 : decode cL_full 22 = .ok (.ireturn, 1) := by decide +kernel
set_option maxRecDepth 20000 in
theorem ggL_move_X6_move : GoodIn wsL_move wsX6_move := goodIn_ca (goodIn_ca (goodIn_r _ [7, 8, 9, 10, 11, 12, 13, 6, 14, 15, 16, 17, 18, 19, 20, 21, 22, 23, 24, 25, 26, 27, 28, 29, 30, 31, 32, 33, 34, 35, 36, 37, 38, 39, 40, 41, 42, 43, 44, 45, 46, 47, 48, 49, 50, 51, 52, 53, 54, 55, 56, 57, 58, 59, 60, 61, 62, 63, 64, 65, 66, 67, 68, 69, 70, 71, 72, 73, 74, 75, 76, 77, 78, 79, 80, 81, 82, 83, 84, 85, 86, 87, 88, 89, 90, 91, 92, 93, 94, 95, 96, 97, 98, 99, 100, 101, 102, 103, 104, 105, 106, 107, 108, 109, 110, 111, 112, 113, 114, 115, 116, 117, 118, 119, 120, 121, 122, 123, 124, 125, 126, 127, 128, 129, 130, 131, 132, 133, 134, 135, 136, 137, 138, 139, 140, 141, 142, 143, 144, 145, 146, 147, 148, 149, 150, 151, 152, 153, 154, 155, 156, 157, 158, 159, 160, 161, 162, 163, 164, 165, 166, 167, 168, 169, 170, 171, 172, 173, 174, 175, 176, 177, 178, 179, 180, 181, 182, 183, 184, 185, 186, 187, 188] (by decide +kernel) (by decide +kernel)) (goodIn_sub (fun _ h => List.mem_cons_of_mem _ (List.mem_append_left _ (List.mem_append_right _ h))) (by decide +kernel))) (goodIn_sub (fun _ h => List.mem_cons_of_mem _ (List.mem_append_right _ h)) (by decide +kernel))
set_option maxRecDepth 20000 in
theorem gL_move_X6_move : GoodIn wsL_move (wsV RL 82 RX6 yX6_move wsX6_move) := goodIn_app (goodIn_of _ (by decide +kernel)) ggL_move_X6_move
theorem dL_move_0 : decode cL_move 0 = .ok (.aload 4, 2) := by decide +kernel
theorem dL_move_2 : decode cL_move 2 = .ok (.iconst 0, 1) := by decide +kernel
