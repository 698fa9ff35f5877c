theorem dL_trader_28 : decode cL_trader 28 = .ok (.ireturn, 1) := by decide +kernel
set_option maxRecDepth 20000 in
theorem ggL_pitch_X6_pitch : GoodIn wsL_pitch wsX6_pitch := goodIn_ca (goodIn_ca (goodIn_ca (goodIn_r _ [8, 9, 10, 11, 12, 13, 14, 15, 7, 16, 17, 18, 19, 20, 21, 22, 23, 24, 25, 26, 27, 28, 29, 30, 31, 32, 33, 34, 35, 36, 37, 38, 39, 40, 41, 42, 43, 44, 45, 46, 47, 48, 49, 50, 51, 52, 53, 54, 55, 56, 57, 58, 59, 60, 61, 62, 63, 64, 65, 66, 67, 68, 69] (by decide +kernel) (by decide +kernel)) (goodIn_sub (fun _ h => List.mem_cons_of_mem _ (List.mem_append_left _ (List.mem_append_left _ (List.mem_append_right _ h)))) (by decide +kernel))) (goodIn_sub (fun _ h => List.mem_cons_of_mem _ (List.mem_append_left _ (List.mem_append_right _ h))) (by decide +kernel))) (goodIn_sub (fun _ h => List.mem_cons_of_mem _ (List.mem_append_right _ h)) (by decide +kernel))
set_option maxRecDepth 20000 in
theorem gL_pitch_X6_pitch : GoodIn wsL_pitch (wsV RL 37 RX6 yX6_pitch wsX6_pitch) := goodIn_app (goodIn_of _ (by decide +kernel)) ggL_pitch_X6_pitch
theorem dL_pitch_0 : decode cL_pitch 0 = .ok (.aload_n 0, 1) := by decide +kernel
theorem dL_pitch_1 : decode cL_pitch 1 = .ok (.iload_n 1, 1) := by decide +kernel
theorem dL_pitch_2 : decode cL_pitch 2 = .ok (.iload_n 2, 1) := by decide +kernel
theorem dL_pitch_3 : decode cL_pitch 3 = .ok (.iload_n 3, 1) := by decide +kernel
theorem dL_pitch_4 : decode cL_pitch 4 = .ok (.invokevirtual 37, 3) := by decide +kernel
theorem dL_pitch_7 : decode cL_pitch 7 = .ok (.goto 15, 3) := by decide +kernel
theorem dL_pitch_10 : decode cL_pitch 10 = .ok (.astore 4, 2) := by decide +kernel
theorem dL_pitch_12 : decode cL_pitch 12 = .ok (.iconst 1, 1) := by decide +kernel
theorem dL_pitch_13 : decode cL_pitch 13 = .ok (.ireturn, 1) := by decide +kernel
theorem dL_pitch_14 : decode cL_pitch 14 = .ok (.astore 4, 2) := by decide +kernel
theorem dL_pitch_16 : decode cL_pitch 16 = .ok (.iconst 2, 1) := by decide +kernel
theorem dL_pitch_17 : decode cL_pitch 17 = .ok (.ireturn, 1) := by decide +kernel
theorem dL_pitch_18 : decode cL_pitch 18 = .ok (.astore 4, 2) := by decide +kernel
theorem dL_pitch_20 : decode cL_pitch 20 = .ok (.iconst 3, 1) := by decide +kernel
theorem dL_pitch_21 : decode cL_pitch 21 = .ok (.ireturn, 1) := by decide +kernel
theorem dL_pitch_22 : decode cL_pitch 22 = .ok (.iconst 0, 1) := by decide +kernel
theorem dL_pitch_23 : decode cL_pitch 23 = .ok (.ireturn, 1) := by decide +kernel
set_option maxRecDepth 20000 in
theorem ggL_months_X6_months : GoodIn wsL_months wsX6_months := goodIn_ca (goodIn_ca (goodIn_ca (goodIn_r _ [8, 9, 10, 11, 12, 13, 14, 15, 7, 16, 17, 18, 19, 20, 21, 22, 23, 24, 25, 26, 27, 28, 29, 30, 31, 32, 33, 34, 35, 36, 37, 38, 39, 40, 41, 42, 43, 44, 45, 46, 47, 48, 49, 50, 51, 52, 53, 54, 55, 56, 57, 58] (by decide +kernel) (by decide +kernel)) (goodIn_sub (fun _ h => List.mem_cons_of_mem _ (List.mem_append_left _ (List.mem_append_left _ (List.mem_append_right _ h)))) (by decide +kernel))) (goodIn_sub (fun _ h => List.mem_cons_of_mem _ (List.mem_append_left _ (List.mem_append_right _ h))) (by decide +kernel))) (goodIn_sub (fun _ h => List.mem_cons_of_mem _ (List.mem_append_right _ h)) (by decide +kernel))
set_option maxRecDepth 20000 in
theorem gL_months_X6_months : GoodIn wsL_months (wsV RL 41 RX6 yX6_months wsX6_months) := goodIn_app (goodIn_of _ (by decide +kernel)) ggL_months_X6_months
theorem dL_months_0 : decode cL_months 0 = .ok (.aload_n 0, 1) := by decide +kernel
theorem dL_months_1 : decode cL_months 1 = .ok (.iload_n 1, 1) := by decide +kernel
theorem dL_months_2 : decode cL_months 2 = .ok (.iload_n 2, 1) := by decide +kernel
theorem dL_months_3 : decode cL_months 3 = .ok (.invokevirtual 41, 3) := by decide +kernel
theorem dL_months_6 : decode cL_months 6 = .ok (.goto 12, 3) := by decide +kernel
theorem dL_months_9 : decode cL_months 9 = .ok (.astore_n 3, 1) := by decide +kernel
theorem dL_months_10 : decode cL_months 10 = .ok (.iconst 1, 1) := by decide +kernel
theorem dL_months_11 : decode cL_months 11 = .ok (.ireturn, 1) := by decide +kernel
theorem dL_months_12 : decode cL_months 12 = .ok (.astore_n 3, 1) := by decide +kernel
theorem dL_months_13 : decode cL_months 13 = .ok (.iconst 2, 1) := by decide +kernel
theorem dL_months_14 : decode cL_months 14 = .ok (.ireturn, 1) := by decide +kernel
theorem dL_months_15 : decode cL_months 15 = .ok (.astore_n 3, 1) := by decide +kernel
theorem dL_months_16 : decode cL_months 16 = .ok (.iconst 3, 1) := by decide +kernel
theorem dL_months_17 : decode cL_months 17 = .ok (.ireturn, 1) := by decide +kernel
theorem dL_months_18 : decode cL_months 18 = .ok (.iconst 0, 1) := by decide +kernel
theorem dL_months_19 : decode cL_months 19 = .ok (.ireturn, 1) := by decide +kernel
set_option maxRecDepth 20000 in
theorem ggL_wish_X6_wish : GoodIn wsL_wish wsX6_wish := goodIn_ca (goodIn_r _ [6, 7, 8, 9, 10, 5, 11, 12, 13, 14, 15, 16, 17, 18, 19, 20, 21, 22, 23, 24, 25, 26, 27, 28, 29, 30, 31, 32, 33, 34, 35, 36, 37, 38, 39, 40, 41, 42, 43, 44, 45, 46, 47, 48, 49, 50, 51, 52, 53, 54, 55, 56, 57, 58] (by decide +kernel) (by decide +kernel)) (goodIn_sub (fun _ h => List.mem_cons_of_mem _ (List.mem_append_right _ h)) (by decide +kernel))
set_option maxRecDepth 20000 in
theorem gL_wish_X6_wish : GoodIn wsL_wish (wsV RL 44 RX6 yX6_wish wsX6_wish) := goodIn_app (goodIn_of _ (by decide +kernel)) ggL_wish_X6_wish
theorem dL_wish_0 : decode cL_wish 0 = .ok (.aload 4, 2) := by decide +kernel
theorem dL_wish_2 : decode cL_wish 2 = .ok (.iconst 0, 1) := by decide +kernel
theorem dL_wish_3 : decode cL_wish 3 = .ok (.aload_n 0, 1) := by decide +kernel
theorem dL_wish_4 : decode cL_wish 4 = .ok (.iload_n 1, 1) := by decide +kernel
theorem dL_wish_5 : decode cL_wish 5 = .ok (.iload_n 2, 1) := by decide +kernel
theorem dL_wish_6 : decode cL_wish 6 = .ok (.iload_n 3, 1) := by decide +kernel
theorem dL_wish_7 : decode cL_wish 7 = .ok (.invokevirtual 44, 3) := by decide +kernel
theorem dL_wish_10 : decode cL_wish 10 = .ok (.i2l, 1) := by decide +kernel
theorem dL_wish_11 : decode cL_wish 11 = .ok (.lastore, 1) := by decide +kernel
theorem dL_wish_12 : decode cL_wish 12 = .ok (.goto 7, 3) := by decide +kernel
theorem dL_wish_15 : decode cL_wish 15 = .ok (.astore 5, 2) := by decide +kernel
theorem dL_wish_17 : decode cL_wish 17 = .ok (.iconst 1, 1) := by decide +kernel
theorem dL_wish_18 : decode cL_wish 18 = .ok (.ireturn, 1) := by decide +kernel
theorem dL_wish_19 : decode cL_wish 19 = .ok (.iconst 0, 1) := by decide +kernel
theorem dL_wish_20 : decode cL_wish 20 = .ok (.ireturn, 1) := by decide +kernel
set_option maxRecDepth 20000 in
theorem ggL_wishes_X6_wishes : GoodIn wsL_wishes wsX6_wishes := goodIn_ca (goodIn_r _ [6, 7, 8, 9, 10, 5, 11, 12, 13, 14, 15, 16, 17, 18, 19, 20, 21, 22, 23, 24, 25, 26, 27, 28, 29, 30, 31, 32, 33, 34, 35, 36, 37, 38, 39, 40, 41, 42, 43, 44, 45, 46, 47, 48, 49, 50, 51, 52, 53, 54, 55, 56, 57] (by decide +kernel) (by decide +kernel)) (goodIn_sub (fun _ h => List.mem_cons_of_mem _ (List.mem_append_right _ h)) (by decide +kernel))
set_option maxRecDepth 20000 in
theorem gL_wishes_X6_wishes : GoodIn wsL_wishes (wsV RL 47 RX6 yX6_wishes wsX6_wishes) := goodIn_app (goodIn_of _ (by decide +kernel)) ggL_wishes_X6_wishes
theorem dL_wishes_0 : decode cL_wishes 0 = .ok (.aload_n 0, 1) := by decide +kernel
theorem dL_wishes_1 : decode cL_wishes 1 = .ok (.iload_n 1, 1) := by decide +kernel
theorem dL_wishes_2 : decode cL_wishes 2 = .ok (.iload_n 2, 1) := by decide +kernel
theorem dL_wishes_3 : decode cL_wishes 3 = .ok (.invokevirtual 47, 3) := by decide +kernel
theorem dL_wishes_6 : decode cL_wishes 6 = .ok (.goto 6, 3) := by decide +kernel
theorem dL_wishes_9 : decode cL_wishes 9 = .ok (.astore_n 3, 1) := by decide +kernel
theorem dL_wishes_10 : decode cL_wishes 10 = .ok (.iconst 1, 1) := by decide +kernel
theorem dL_wishes_11 : decode cL_wishes 11 = .ok (.ireturn, 1) := by decide +kernel
theorem dL_wishes_12 : decode cL_wishes 12 = .ok (.iconst 0, 1) := by decide +kernel
theorem dL_wishes_13 : decode cL_wishes 13 = .ok (.ireturn, 1) := by decide +kernel
set_option maxRecDepth 20000 in
theorem ggL_want_X6_want : GoodIn wsL_want wsX6_want := goodIn_ca (goodIn_r _ [6, 7, 8, 9, 10, 5, 11, 12, 13, 14, 15, 16, 17, 18, 19, 20, 21, 22, 23, 24, 25, 26, 27, 28, 29, 30, 31, 32, 33, 34, 35, 36, 37, 38, 39, 40, 41, 42, 43, 44, 45, 46] (by decide +kernel) (by decide +kernel)) (goodIn_sub (fun _ h => List.mem_cons_of_mem _ (List.mem_append_right _ h)) (by decide +kernel))
set_option maxRecDepth 20000 in
theorem gL_want_X6_want : GoodIn wsL_want (wsV RL 51 RX6 yX6_want wsX6_want) := goodIn_app (goodIn_of _ (by decide +kernel)) ggL_want_X6_want
theorem dL_want_0 : decode cL_want 0 = .ok (.aload_n 0, 1) := by decide +kernel
theorem dL_want_1 : decode cL_want 1 = .ok (.iload_n 1, 1) := by decide +kernel
theorem dL_want_2 : decode cL_want 2 = .ok (.iload_n 2, 1) := by decide +kernel
theorem dL_want_3 : decode cL_want 3 = .ok (.invokevirtual 51, 3) := by decide +kernel
theorem dL_want_6 : decode cL_want 6 = .ok (.goto 6, 3) := by decide +kernel
theorem dL_want_9 : decode cL_want 9 = .ok (.astore_n 3, 1) := by decide +kernel
theorem dL_want_10 : decode cL_want 10 = .ok (.iconst 1, 1) := by decide +kernel
theorem dL_want_11 : decode cL_want 11 = .ok (.ireturn, 1) := by decide +kernel
theorem dL_want_12 : decode cL_want 12 = .ok (.iconst 0, 1) := by decide +kernel
theorem dL_want_13 : decode cL_want 13 = .ok (.ireturn, 1) := by decide +kernel
set_option maxRecDepth 20000 in
theorem ggL_day_X6_day : GoodIn wsL_day wsX6_day := goodIn_ca (goodIn_ca (goodIn_r _ [7, 8, 9, 10, 11, 12, 13, 14, 15, 16, 6, 17, 18, 19, 20, 21, 22, 23, 24, 25, 26, 27, 28, 29, 30, 31, 32, 33, 34, 35, 36, 37] (by decide +kernel) (by decide +kernel)) (goodIn_sub (fun _ h => List.mem_cons_of_mem _ (List.mem_append_left _ (List.mem_append_right _ h))) (by decide +kernel))) (goodIn_sub (fun _ h => List.mem_cons_of_mem _ (List.mem_append_right _ h)) (by decide +kernel))
set_option maxRecDepth 20000 in
theorem gL_day_X6_day : GoodIn wsL_day (wsV RL 54 RX6 yX6_day wsX6_day) := goodIn_app (goodIn_of _ (by decide +kernel)) ggL_day_X6_day
theorem dL_day_0 : decode cL_day 0 = .ok (.aload_n 2, 1) := by decide +kernel
theorem dL_day_1 : decode cL_day 1 = .ok (.iconst 0, 1) := by decide +kernel
theorem dL_day_2 : decode cL_day 2 = .ok (.aload_n 0, 1) := by decide +kernel
theorem dL_day_3 : decode cL_day 3 = .ok (.iload_n 1, 1) := by decide +kernel
theorem dL_day_4 : decode cL_day 4 = .ok (.invokevirtual 54, 3) := by decide +kernel
theorem dL_day_7 : decode cL_day 7 = .ok (.i2l, 1) := by decide +kernel
theorem dL_day_8 : decode cL_day 8 = .ok (.lastore, 1) := by decide +kernel
theorem dL_day_9 : decode cL_day 9 = .ok (.goto 9, 3) := by decide +kernel
theorem dL_day_12 : decode cL_day 12 = .ok (.astore_n 3, 1) := by decide +kernel
theorem dL_day_13 : decode cL_day 13 = .ok (.iconst 1, 1) := by decide +kernel
theorem dL_day_14 : decode cL_day 14 = .ok (.ireturn, 1) := by decide +kernel
theorem dL_day_15 : decode cL_day 15 = .ok (.astore_n 3, 1) := by decide +kernel
theorem dL_day_16 : decode cL_day 16 = .ok (.iconst 2, 1) := by decide +kernel
theorem dL_day_17 : decode cL_day 17 = .ok (.ireturn, 1) := by decide +kernel
theorem dL_day_18 : decode cL_day 18 = .ok (.iconst 0, 1) := by decide +kernel
theorem dL_day_19 : decode cL_day 19 = .ok (.ireturn, 1) := by decide +kernel
set_option maxRecDepth 20000 in
theorem ggL_there_X6_there : GoodIn wsL_there wsX6_there := goodIn_ca (goodIn_ca (goodIn_r _ [7, 8, 9, 10, 11, 12, 13, 6, 14, 15, 16, 17, 18, 19, 20, 21, 22, 23, 24, 25, 26, 27, 28, 29, 30, 31, 32, 33, 34, 35, 36, 37, 38, 39, 40, 41, 42, 43, 44, 45, 46, 47, 48, 49, 50, 51, 52, 53, 54, 55, 56, 57, 58, 59, 60, 61, 62, 63, 64] (by decide +kernel) (by decide +kernel)) (goodIn_sub (fun _ h => List.mem_cons_of_mem _ (List.mem_append_left _ (List.mem_append_right _ h))) (by decide +kernel))) (goodIn_sub (fun _ h => List.mem_cons_of_mem _ (List.mem_append_right _ h)) (by decide +kernel))
set_option maxRecDepth 20000 in
theorem gL_there_X6_there : GoodIn wsL_there (wsV RL 58 RX6 yX6_there wsX6_there) := goodIn_app (goodIn_of _ (by decide +kernel)) ggL_there_X6_there
theorem dL_there_0 : decode cL_there 0 = .ok (.aload_n 2, 1) := by decide +kernel
theorem dL_there_1 : decode cL_there 1 = .ok (.iconst 0, 1) := by decide +kernel
theorem dL_there_2 : decode cL_there 2 = .ok (.aload_n 0, 1) := by decide +kernel
theorem dL_there_3 : decode cL_there 3 = .ok (.iload_n 1, 1) := by decide +kernel
theorem dL_there_4 : decode cL_there 4 = .ok (.invokevirtual 58, 3) := by decide +kernel
theorem dL_there_7 : decode cL_there 7 = .ok (.ifCond .eq 7, 3) := by decide +kernel
theorem dL_there_10 : decode cL_there 10 = .ok (.lconst 1, 1) := by decide +kernel
theorem dL_there_11 : decode cL_there 11 = .ok (.goto 4, 3) := by decide +kernel
theorem dL_there_14 : decode cL_there 14 = .ok (.lconst 0, 1) := by decide +kernel
theorem dL_there_15 : decode cL_there 15 = .ok (.lastore, 1) := by decide +kernel
theorem dL_there_16 : decode cL_there 16 = .ok (.goto 9, 3) := by decide +kernel
