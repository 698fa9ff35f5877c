set_option maxRecDepth 20000 in
theorem ggL_row_X6_row : GoodIn wsL_row wsX6_row := goodIn_ca (goodIn_ca (goodIn_ca (goodIn_r _ [8, 9, 10, 11, 12, 13, 7, 14, 15, 16, 17, 18, 19, 20, 21, 22, 23, 24, 25, 26, 27, 28, 29, 30, 31, 32, 33, 34, 35, 36, 37, 38, 39, 40, 41, 42, 43, 44, 45, 46, 47, 48, 49, 50, 51, 52, 53, 54, 55, 56] (by decide +kernel) (by decide +kernel)) (goodIn_sub (fun _ h => List.mem_cons_of_mem _ (List.mem_append_left _ (List.mem_append_left _ (List.mem_append_right _ h)))) (by decide +kernel))) (goodIn_sub (fun _ h => List.mem_cons_of_mem _ (List.mem_append_left _ (List.mem_append_right _ h))) (by decide +kernel))) (goodIn_sub (fun _ h => List.mem_cons_of_mem _ (List.mem_append_right _ h)) (by decide +kernel))
set_option maxRecDepth 20000 in
theorem gL_row_X6_row : GoodIn wsL_row (wsV RL 7 RX6 yX6_row wsX6_row) := goodIn_app (goodIn_of _ (by decide +kernel)) ggL_row_X6_row
theorem dL_row_0 : decode cL_row 0 = .ok (.aload_n 0, 1) := by decide +kernel
theorem dL_row_1 : decode cL_row 1 = .ok (.iload_n 1, 1) := by decide +kernel
theorem dL_row_2 : decode cL_row 2 = .ok (.iload_n 2, 1) := by decide +kernel
theorem dL_row_3 : decode cL_row 3 = .ok (.invokevirtual 7, 3) := by decide +kernel
theorem dL_row_6 : decode cL_row 6 = .ok (.goto 12, 3) := by decide +kernel
theorem dL_row_9 : decode cL_row 9 = .ok (.astore_n 3, 1) := by decide +kernel
theorem dL_row_10 : decode cL_row 10 = .ok (.iconst 1, 1) := by decide +kernel
theorem dL_row_11 : decode cL_row 11 = .ok (.ireturn, 1) := by decide +kernel
theorem dL_row_12 : decode cL_row 12 = .ok (.astore_n 3, 1) := by decide +kernel
theorem dL_row_13 : decode cL_row 13 = .ok (.iconst 2, 1) := by decide +kernel
theorem dL_row_14 : decode cL_row 14 = .ok (.ireturn, 1) := by decide +kernel
theorem dL_row_15 : decode cL_row 15 = .ok (.astore_n 3, 1) := by decide +kernel
theorem dL_row_16 : decode cL_row 16 = .ok (.iconst 3, 1) := by decide +kernel
theorem dL_row_17 : decode cL_row 17 = .ok (.ireturn, 1) := by decide +kernel
theorem dL_row_18 : decode cL_row 18 = .ok (.iconst 0, 1) := by decide +kernel
theorem dL_row_19 : decode cL_row 19 = .ok (.ireturn, 1) := by decide +kernel
set_option maxRecDepth 20000 in
theorem ggL_mark_X6_mark : GoodIn wsL_mark wsX6_mark := goodIn_ca (goodIn_ca (goodIn_ca (goodIn_r _ [8, 9, 10, 11, 12, 13, 14, 15, 7, 16, 17, 18, 19, 20, 21, 22, 23, 24, 25, 26, 27, 28, 29, 30, 31, 32, 33, 34, 35, 36, 37, 38, 39, 40, 41, 42, 43, 44, 45, 46, 47, 48, 49, 50, 51, 52, 53, 54, 55, 56, 57, 58, 59, 60, 61] (by decide +kernel) (by decide +kernel)) (goodIn_sub (fun _ h => List.mem_cons_of_mem _ (List.mem_append_left _ (List.mem_append_left _ (List.mem_append_right _ h)))) (by decide +kernel))) (goodIn_sub (fun _ h => List.mem_cons_of_mem _ (List.mem_append_left _ (List.mem_append_right _ h))) (by decide +kernel))) (goodIn_sub (fun _ h => List.mem_cons_of_mem _ (List.mem_append_right _ h)) (by decide +kernel))
set_option maxRecDepth 20000 in
theorem gL_mark_X6_mark : GoodIn wsL_mark (wsV RL 19 RX6 yX6_mark wsX6_mark) := goodIn_app (goodIn_of _ (by decide +kernel)) ggL_mark_X6_mark
theorem dL_mark_0 : decode cL_mark 0 = .ok (.aload 5, 2) := by decide +kernel
theorem dL_mark_2 : decode cL_mark 2 = .ok (.iconst 0, 1) := by decide +kernel
theorem dL_mark_3 : decode cL_mark 3 = .ok (.aload_n 0, 1) := by decide +kernel
theorem dL_mark_4 : decode cL_mark 4 = .ok (.iload_n 1, 1) := by decide +kernel
theorem dL_mark_5 : decode cL_mark 5 = .ok (.iload_n 2, 1) := by decide +kernel
theorem dL_mark_6 : decode cL_mark 6 = .ok (.iload_n 3, 1) := by decide +kernel
theorem dL_mark_7 : decode cL_mark 7 = .ok (.iload 4, 2) := by decide +kernel
theorem dL_mark_9 : decode cL_mark 9 = .ok (.invokevirtual 19, 3) := by decide +kernel
theorem dL_mark_12 : decode cL_mark 12 = .ok (.ifCond .eq 7, 3) := by decide +kernel
theorem dL_mark_15 : decode cL_mark 15 = .ok (.lconst 1, 1) := by decide +kernel
theorem dL_mark_16 : decode cL_mark 16 = .ok (.goto 4, 3) := by decide +kernel
theorem dL_mark_19 : decode cL_mark 19 = .ok (.lconst 0, 1) := by decide +kernel
theorem dL_mark_20 : decode cL_mark 20 = .ok (.lastore, 1) := by decide +kernel
theorem dL_mark_21 : decode cL_mark 21 = .ok (.goto 15, 3) := by decide +kernel
theorem dL_mark_24 : decode cL_mark 24 = .ok (.astore 6, 2) := by decide +kernel
theorem dL_mark_26 : decode cL_mark 26 = .ok (.iconst 1, 1) := by decide +kernel
theorem dL_mark_27 : decode cL_mark 27 = .ok (.ireturn, 1) := by decide +kernel
theorem dL_mark_28 : decode cL_mark 28 = .ok (.astore 6, 2) := by decide +kernel
theorem dL_mark_30 : decode cL_mark 30 = .ok (.iconst 2, 1) := by decide +kernel
theorem dL_mark_31 : decode cL_mark 31 = .ok (.ireturn, 1) := by decide +kernel
theorem dL_mark_32 : decode cL_mark 32 = .ok (.astore 6, 2) := by decide +kernel
theorem dL_mark_34 : decode cL_mark 34 = .ok (.iconst 3, 1) := by decide +kernel
theorem dL_mark_35 : decode cL_mark 35 = .ok (.ireturn, 1) := by decide +kernel
theorem dL_mark_36 : decode cL_mark 36 = .ok (.iconst 0, 1) := by decide +kernel
theorem dL_mark_37 : decode cL_mark 37 = .ok (.ireturn, 1) := by decide +kernel
set_option maxRecDepth 20000 in
theorem ggL_trade_X6_trade : GoodIn wsL_trade wsX6_trade := goodIn_ca (goodIn_ca (goodIn_r _ [7, 8, 9, 10, 11, 12, 13, 14, 15, 16, 17, 18, 19, 20, 21, 22, 23, 24, 25, 26, 27, 28, 29, 30, 31, 32, 33, 34, 35, 36, 37, 38, 39, 40, 41, 42, 43, 44, 45, 46, 47, 48, 49, 50] (by decide +kernel) (by decide +kernel)) (goodIn_sub (fun _ h => List.mem_cons_of_mem _ (List.mem_append_left _ (List.mem_append_right _ h))) (by decide +kernel))) (goodIn_sub (fun _ h => List.mem_cons_of_mem _ (List.mem_append_right _ h)) (by decide +kernel))
set_option maxRecDepth 20000 in
theorem gL_trade_X6_trade : GoodIn wsL_trade (wsV RL 23 RX6 yX6_trade wsX6_trade) := goodIn_app (goodIn_of _ (by decide +kernel)) ggL_trade_X6_trade
theorem dL_trade_0 : decode cL_trade 0 = .ok (.aload 4, 2) := by decide +kernel
theorem dL_trade_2 : decode cL_trade 2 = .ok (.iconst 0, 1) := by decide +kernel
theorem dL_trade_3 : decode cL_trade 3 = .ok (.aload_n 0, 1) := by decide +kernel
theorem dL_trade_4 : decode cL_trade 4 = .ok (.iload_n 1, 1) := by decide +kernel
theorem dL_trade_5 : decode cL_trade 5 = .ok (.iload_n 2, 1) := by decide +kernel
theorem dL_trade_6 : decode cL_trade 6 = .ok (.iload_n 3, 1) := by decide +kernel
theorem dL_trade_7 : decode cL_trade 7 = .ok (.invokevirtual 23, 3) := by decide +kernel
theorem dL_trade_10 : decode cL_trade 10 = .ok (.i2l, 1) := by decide +kernel
theorem dL_trade_11 : decode cL_trade 11 = .ok (.lastore, 1) := by decide +kernel
theorem dL_trade_12 : decode cL_trade 12 = .ok (.goto 11, 3) := by decide +kernel
theorem dL_trade_15 : decode cL_trade 15 = .ok (.astore 5, 2) := by decide +kernel
theorem dL_trade_17 : decode cL_trade 17 = .ok (.iconst 1, 1) := by decide +kernel
theorem dL_trade_18 : decode cL_trade 18 = .ok (.ireturn, 1) := by decide +kernel
theorem dL_trade_19 : decode cL_trade 19 = .ok (.astore 5, 2) := by decide +kernel
theorem dL_trade_21 : decode cL_trade 21 = .ok (.iconst 2, 1) := by decide +kernel
theorem dL_trade_22 : decode cL_trade 22 = .ok (.ireturn, 1) := by decide +kernel
theorem dL_trade_23 : decode cL_trade 23 = .ok (.iconst 0, 1) := by decide +kernel
theorem dL_trade_24 : decode cL_trade 24 = .ok (.ireturn, 1) := by decide +kernel
set_option maxRecDepth 20000 in
theorem ggL_pair_X6_pair : GoodIn wsL_pair wsX6_pair := goodIn_ca (goodIn_ca (goodIn_r _ [7, 8, 9, 10, 6, 11, 12, 13, 14, 15, 16, 17, 18, 19, 20, 21, 22, 23, 24, 25, 26, 27, 28, 29, 30, 31, 32, 33, 34, 35, 36, 37, 38, 39, 40, 41, 42, 43, 44, 45, 46, 47, 48, 49, 50, 51, 52, 53, 54, 55, 56] (by decide +kernel) (by decide +kernel)) (goodIn_sub (fun _ h => List.mem_cons_of_mem _ (List.mem_append_left _ (List.mem_append_right _ h))) (by decide +kernel))) (goodIn_sub (fun _ h => List.mem_cons_of_mem _ (List.mem_append_right _ h)) (by decide +kernel))
set_option maxRecDepth 20000 in
theorem gL_pair_X6_pair : GoodIn wsL_pair (wsV RL 29 RX6 yX6_pair wsX6_pair) := goodIn_app (goodIn_of _ (by decide +kernel)) ggL_pair_X6_pair
theorem dL_pair_0 : decode cL_pair 0 = .ok (.aload 4, 2) := by decide +kernel
theorem dL_pair_2 : decode cL_pair 2 = .ok (.iconst 0, 1) := by decide +kernel
theorem dL_pair_3 : decode cL_pair 3 = .ok (.aload_n 0, 1) := by decide +kernel
theorem dL_pair_4 : decode cL_pair 4 = .ok (.iload_n 1, 1) := by decide +kernel
theorem dL_pair_5 : decode cL_pair 5 = .ok (.iload_n 2, 1) := by decide +kernel
theorem dL_pair_6 : decode cL_pair 6 = .ok (.iload_n 3, 1) := by decide +kernel
theorem dL_pair_7 : decode cL_pair 7 = .ok (.invokevirtual 29, 3) := by decide +kernel
theorem dL_pair_10 : decode cL_pair 10 = .ok (.ifCond .eq 7, 3) := by decide +kernel
theorem dL_pair_13 : decode cL_pair 13 = .ok (.lconst 1, 1) := by decide +kernel
theorem dL_pair_14 : decode cL_pair 14 = .ok (.goto 4, 3) := by decide +kernel
theorem dL_pair_17 : decode cL_pair 17 = .ok (.lconst 0, 1) := by decide +kernel
theorem dL_pair_18 : decode cL_pair 18 = .ok (.lastore, 1) := by decide +kernel
theorem dL_pair_19 : decode cL_pair 19 = .ok (.goto 11, 3) := by decide +kernel
theorem dL_pair_22 : decode cL_pair 22 = .ok (.astore 5, 2) := by decide +kernel
theorem dL_pair_24 : decode cL_pair 24 = .ok (.iconst 1, 1) := by decide +kernel
theorem dL_pair_25 : decode cL_pair 25 = .ok (.ireturn, 1) := by decide +kernel
theorem dL_pair_26 : decode cL_pair 26 = .ok (.astore 5, 2) := by decide +kernel
theorem dL_pair_28 : decode cL_pair 28 = .ok (.iconst 2, 1) := by decide +kernel
theorem dL_pair_29 : decode cL_pair 29 = .ok (.ireturn, 1) := by decide +kernel
theorem dL_pair_30 : decode cL_pair 30 = .ok (.iconst 0, 1) := by decide +kernel
theorem dL_pair_31 : decode cL_pair 31 = .ok (.ireturn, 1) := by decide +kernel
set_option maxRecDepth 20000 in
theorem ggL_trader_X6_trader : GoodIn wsL_trader wsX6_trader := goodIn_ca (goodIn_ca (goodIn_ca (goodIn_r _ [8, 9, 10, 11, 12, 13, 14, 15, 16, 17, 18, 19, 20, 21, 22, 7, 23, 24, 25, 26, 27, 28, 29, 30, 31, 32, 33, 34, 35, 36, 37, 38, 39, 40, 41, 42, 43, 44, 45, 46, 47, 48, 49, 50, 51, 52, 53, 54, 55, 56, 57, 58, 59, 60, 61, 62, 63, 64, 65, 66, 67, 68, 69, 70, 71, 72, 73, 74, 75, 76, 77, 78, 79, 80, 81, 82, 83, 84, 85, 86, 87, 88, 89, 90, 91, 92, 93, 94, 95, 96, 97, 98, 99, 100, 101, 102, 103, 104, 105, 106, 107, 108, 109, 110, 111, 112] (by decide +kernel) (by decide +kernel)) (goodIn_sub (fun _ h => List.mem_cons_of_mem _ (List.mem_append_left _ (List.mem_append_left _ (List.mem_append_right _ h)))) (by decide +kernel))) (goodIn_sub (fun _ h => List.mem_cons_of_mem _ (List.mem_append_left _ (List.mem_append_right _ h))) (by decide +kernel))) (goodIn_sub (fun _ h => List.mem_cons_of_mem _ (List.mem_append_right _ h)) (by decide +kernel))
set_option maxRecDepth 20000 in
theorem gL_trader_X6_trader : GoodIn wsL_trader (wsV RL 33 RX6 yX6_trader wsX6_trader) := goodIn_app (goodIn_of _ (by decide +kernel)) ggL_trader_X6_trader
theorem dL_trader_0 : decode cL_trader 0 = .ok (.aload 4, 2) := by decide +kernel
theorem dL_trader_2 : decode cL_trader 2 = .ok (.iconst 0, 1) := by decide +kernel
theorem dL_trader_3 : decode cL_trader 3 = .ok (.aload_n 0, 1) := by decide +kernel
theorem dL_trader_4 : decode cL_trader 4 = .ok (.iload_n 1, 1) := by decide +kernel
theorem dL_trader_5 : decode cL_trader 5 = .ok (.iload_n 2, 1) := by decide +kernel
theorem dL_trader_6 : decode cL_trader 6 = .ok (.iload_n 3, 1) := by decide +kernel
theorem dL_trader_7 : decode cL_trader 7 = .ok (.invokevirtual 33, 3) := by decide +kernel
theorem dL_trader_10 : decode cL_trader 10 = .ok (.i2l, 1) := by decide +kernel
theorem dL_trader_11 : decode cL_trader 11 = .ok (.lastore, 1) := by decide +kernel
theorem dL_trader_12 : decode cL_trader 12 = .ok (.goto 15, 3) := by decide +kernel
theorem dL_trader_15 : decode cL_trader 15 = .ok (.astore 5, 2) := by decide +kernel
theorem dL_trader_17 : decode cL_trader 17 = .ok (.iconst 1, 1) := by decide +kernel
theorem dL_trader_18 : decode cL_trader 18 = .ok (.ireturn, 1) := by decide +kernel
theorem dL_trader_19 : decode cL_trader 19 = .ok (.astore 5, 2) := by decide +kernel
theorem dL_trader_21 : decode cL_trader 21 = .ok (.iconst 2, 1) := by decide +kernel
theorem dL_trader_22 : decode cL_trader 22 = .ok (.ireturn, 1) := by decide +kernel
theorem dL_trader_23 : decode cL_trader 23 = .ok (.astore 5, 2) := by decide +kernel
theorem dL_trader_25 : decode cL_trader 25 = .ok (.iconst 3, 1) := by decide +kernel
theorem dL_trader_26 : decode cL_trader 26 = .ok (.ireturn, 1) := by decide +kernel
theorem dL_trader_27 : decode cL_trader 27 = .ok (.iconst 0, 1) := by decide +kernel
