theorem wsL_law_x0 : ∀ w ∈ (vx_atS RX6 42 "java/lang/IllegalArgumentException" ["java/lang/RuntimeException", "java/lang/Exception"]).filter goodWord, w ∈ lw_tbl := by decide +kernel
theorem wsL_law_x1 : ∀ w ∈ (vx_atS RX6 61 "java/lang/IndexOutOfBoundsException" ["java/lang/RuntimeException", "java/lang/Exception"]).filter goodWord, w ∈ lw_tbl := by decide +kernel
theorem wsL_law_x2 : ∀ w ∈ (vx_atS RX6 332 "java/lang/IllegalStateException" ["java/lang/RuntimeException", "java/lang/Exception"]).filter goodWord, w ∈ lw_tbl := by decide +kernel
theorem wsL_law_x3 : ∀ w ∈ (vx_atS RX6 80 "java/lang/UnsupportedOperationException" ["java/lang/RuntimeException", "java/lang/Exception"]).filter goodWord, w ∈ lw_tbl := by decide +kernel
theorem wsL_law_in : ∀ w ∈ wsL_law, w ∈ lw_tbl := fun w h => (List.mem_append.mp h).elim (fun h => (List.mem_append.mp h).elim (fun h => (List.mem_append.mp h).elim (fun h => (List.mem_append.mp h).elim (fun h => wsL_law_in0 w h) (fun h => wsL_law_x0 w h)) (fun h => wsL_law_x1 w h)) (fun h => wsL_law_x2 w h)) (fun h => wsL_law_x3 w h)
theorem inlX0 : ∀ w ∈ wsX00, w ∈ wsL_law := fun _ h => List.mem_append_left _ (List.mem_append_left _ (List.mem_append_left _ (List.mem_append_left _ (List.mem_append_left _ (List.mem_append_left _ (List.mem_append_left _ (List.mem_append_left _ (List.mem_append_left _ (List.mem_append_left _ (List.mem_append_right _ h))))))))))
theorem inX0 : ∀ w ∈ wsX00, w ∈ lw_tbl := fun w h => wsL_law_in w (inlX0 w h)
theorem inlX1 : ∀ w ∈ wsX10, w ∈ wsL_law := fun _ h => List.mem_append_left _ (List.mem_append_left _ (List.mem_append_left _ (List.mem_append_left _ (List.mem_append_left _ (List.mem_append_left _ (List.mem_append_left _ (List.mem_append_right _ h)))))))
theorem inX1 : ∀ w ∈ wsX10, w ∈ lw_tbl := fun w h => wsL_law_in w (inlX1 w h)
theorem inlX2 : ∀ w ∈ wsX20, w ∈ wsL_law := fun _ h => List.mem_append_left _ (List.mem_append_left _ (List.mem_append_left _ (List.mem_append_left _ (List.mem_append_left _ (List.mem_append_right _ h)))))
theorem inX2 : ∀ w ∈ wsX20, w ∈ lw_tbl := fun w h => wsL_law_in w (inlX2 w h)
theorem inlX3 : ∀ w ∈ wsX30, w ∈ wsL_law := fun _ h => List.mem_append_left _ (List.mem_append_left _ (List.mem_append_left _ (List.mem_append_left _ (List.mem_append_left _ (List.mem_append_left _ (List.mem_append_left _ (List.mem_append_left _ (List.mem_append_left _ (List.mem_append_right _ h)))))))))
theorem inX3 : ∀ w ∈ wsX30, w ∈ lw_tbl := fun w h => wsL_law_in w (inlX3 w h)
theorem inlX4 : ∀ w ∈ wsX40, w ∈ wsL_law := fun _ h => List.mem_append_left _ (List.mem_append_left _ (List.mem_append_left _ (List.mem_append_left _ (List.mem_append_left _ (List.mem_append_left _ (List.mem_append_left _ (List.mem_append_left _ (List.mem_append_right _ h))))))))
theorem inX4 : ∀ w ∈ wsX40, w ∈ lw_tbl := fun w h => wsL_law_in w (inlX4 w h)
theorem inlX5 : ∀ w ∈ wsX50, w ∈ wsL_law := fun _ h => List.mem_append_left _ (List.mem_append_left _ (List.mem_append_left _ (List.mem_append_left _ (List.mem_append_left _ (List.mem_append_left _ (List.mem_append_right _ h))))))
theorem inX5 : ∀ w ∈ wsX50, w ∈ lw_tbl := fun w h => wsL_law_in w (inlX5 w h)
theorem inlX6 : ∀ w ∈ wsX60, w ∈ wsL_law := fun _ h => List.mem_append_left _ (List.mem_append_left _ (List.mem_append_left _ (List.mem_append_left _ (List.mem_append_left _ (List.mem_append_left _ (List.mem_append_left _ (List.mem_append_left _ (List.mem_append_left _ (List.mem_append_left _ (List.mem_append_left _ (List.mem_append_left _ (List.mem_append_right _ h))))))))))))
theorem inX6 : ∀ w ∈ wsX60, w ∈ lw_tbl := fun w h => wsL_law_in w (inlX6 w h)
theorem inlX7 : ∀ w ∈ wsX70, w ∈ wsL_law := fun _ h => List.mem_append_left _ (List.mem_append_left _ (List.mem_append_left _ (List.mem_append_left _ (List.mem_append_left _ (List.mem_append_left _ (List.mem_append_left _ (List.mem_append_left _ (List.mem_append_left _ (List.mem_append_left _ (List.mem_append_left _ (List.mem_append_right _ h)))))))))))
theorem inX7 : ∀ w ∈ wsX70, w ∈ lw_tbl := fun w h => wsL_law_in w (inlX7 w h)
theorem inJ6 : ∀ w ∈ wsJ60, w ∈ lw_tbl := by decide +kernel
theorem inJ9 : ∀ w ∈ wsJ90, w ∈ lw_tbl := by decide +kernel
theorem inJ0 : ∀ w ∈ wsJ00, w ∈ lw_tbl := by decide +kernel
set_option maxRecDepth 20000 in
theorem ggL_row_X6_row : GoodIn wsL_row wsX6_row := goodIn_ca (goodIn_ca (goodIn_ca (goodIn_r _ [8, 9, 10, 11, 12, 13, 7, 14, 15, 16, 17, 18, 19, 20, 21, 22, 23, 24, 25, 26, 27, 28, 29, 30, 31, 32, 33, 34, 35, 36, 37, 38, 39, 40, 41, 42, 43, 44, 45, 46, 47, 48, 49, 50, 51, 52, 53, 54, 55, 56] (by decide +kernel) (by decide +kernel)) (goodIn_sub (fun _ h => List.mem_cons_of_mem _ (List.mem_append_left _ (List.mem_append_left _ (List.mem_append_right _ h)))) (by decide +kernel))) (goodIn_sub (fun _ h => List.mem_cons_of_mem _ (List.mem_append_left _ (List.mem_append_right _ h))) (by decide +kernel))) (goodIn_sub (fun _ h => List.mem_cons_of_mem _ (List.mem_append_right _ h)) (by decide +kernel))
set_option maxRecDepth 20000 in
theorem gL_row_X6_row : GoodIn wsL_row (wsV RL 7 RX6 yX6_row wsX6_row) := goodIn_app (goodIn_of _ (by decide +kernel)) ggL_row_X6_row
theorem dL_row_0 : decode cL_row 0 = .ok (.aload_n 0, 1) := by decide +kernel
theorem dL_row_1 : decode cL_row 1 = .ok (.iload_n 1, 1) := by decide +kernel
theorem dL_row_2 : decode cL_row 2 = .ok (.iload_n 2, 1) := by decide +kernel
theorem dL_row_3 : decode cL_row 3 = .ok (.invokevirtual 7, 3) := by decide +kernel
theorem dL_row_6 : decode cL_row 6 = .ok (.goto 12, 3) := by decide +kernel
theorem dL_row_9 : decode cL_row 9 = .ok (.astore_n 3, 1) := by decide +kernel
theorem dL_row_10 : decode cL_row 10 = .ok (.iconst 1, 1) := by decide +kernel
theorem dL_row_11 : decode cL_row 11 = .ok (.ireturn, 1) := by decide +kernel
theorem dL_row_12 : decode cL_row 12 = .ok (.astore_n 3, 1) := by decide +kernel
theorem dL_row_13 : decode cL_row 13 = .ok (.iconst 2, 1) := by decide +kernel
theorem dL_row_14 : decode cL_row 14 = .ok (.ireturn, 1) := by decide +kernel
theorem dL_row_15 : decode cL_row 15 = .ok (.astore_n 3, 1) := by decide +kernel
theorem dL_row_16 : decode cL_row 16 = .ok (.iconst 3, 1) := by decide +kernel
theorem dL_row_17 : decode cL_row 17 = .ok (.ireturn, 1) := by decide +kernel
theorem dL_row_18 : decode cL_row 18 = .ok (.iconst 0, 1) := by decide +kernel
theorem dL_row_19 : decode cL_row 19 = .ok (.ireturn, 1) := by decide +kernel
set_option maxRecDepth 20000 in
theorem ggL_mark_X6_mark : GoodIn wsL_mark wsX6_mark := goodIn_ca (goodIn_ca (goodIn_ca (goodIn_r _ [8, 9, 10, 11, 12, 13, 14, 15, 7, 16, 17, 18, 19, 20, 21, 22, 23, 24, 25, 26, 27, 28, 29, 30, 31, 32, 33, 34, 35, 36, 37, 38, 39, 40, 41, 42, 43, 44, 45, 46, 47, 48, 49, 50, 51, 52, 53, 54, 55, 56, 57, 58, 59, 60, 61] (by decide +kernel) (by decide +kernel)) (goodIn_sub (fun _ h => List.mem_cons_of_mem _ (List.mem_append_left _ (List.mem_append_left _ (List.mem_append_right _ h)))) (by decide +kernel))) (goodIn_sub (fun _ h => List.mem_cons_of_mem _ (List.mem_append_left _ (List.mem_append_right _ h))) (by decide +kernel))) (goodIn_sub (fun _ h => List.mem_cons_of_mem _ (List.mem_append_right _ h)) (by decide +kernel))
set_option maxRecDepth 20000 in
theorem gL_mark_X6_mark : GoodIn wsL_mark (wsV RL 19 RX6 yX6_mark wsX6_mark) := goodIn_app (goodIn_of _ (by decide +kernel)) ggL_mark_X6_mark
theorem dL_mark_0 : decode cL_mark 0 = .ok (.aload 5, 2) := by decide +kernel
theorem dL_mark_2 : decode cL_mark 2 = .ok (.iconst 0, 1) := by decide +kernel
theorem dL_mark_3 : decode cL_mark 3 = .ok (.aload_n 0, 1) := by decide +kernel
theorem dL_mark_4 : decode cL_mark 4 = .ok (.iload_n 1, 1) := by decide +kernel
theorem dL_mark_5 : decode cL_mark 5 = .ok (.iload_n 2, 1) := by decide +kernel
theorem dL_mark_6 : decode cL_mark 6 = .ok (.iload_n 3, 1) := by decide +kernel
theorem dL_mark_7 : decode cL_mark 7 = .ok (.iload 4, 2) := by decide +kernel
theorem dL_mark_9 : decode cL_mark 9 = .ok (.invokevirtual 19, 3) := by decide +kernel
theorem dL_mark_12 : decode cL_mark 12 = .ok (.ifCond .eq 7, 3) := by decide +kernel
theorem dL_mark_15 : decode cL_mark 15 = .ok (.lconst 1, 1) := by decide +kernel
theorem dL_mark_16 : decode cL_mark 16 = .ok (.goto 4, 3) := by decide +kernel
theorem dL_mark_19 : decode cL_mark 19 = .ok (.lconst 0, 1) := by decide +kernel
theorem dL_mark_20 : decode cL_mark 20 = .ok (.lastore, 1) := by decide +kernel
theorem dL_mark_21 : decode cL_mark 21 = .ok (.goto 15, 3) := by decide +kernel
theorem dL_mark_24 : decode cL_mark 24 = .ok (.astore 6, 2) := by decide +kernel
theorem dL_mark_26 : decode cL_mark 26 = .ok (.iconst 1, 1) := by decide +kernel
theorem dL_mark_27 : decode cL_mark 27 = .ok (.ireturn, 1) := by decide +kernel
theorem dL_mark_28 : decode cL_mark 28 = .ok (.astore 6, 2) := by decide +kernel
theorem dL_mark_30 : decode cL_mark 30 = .ok (.iconst 2, 1) := by decide +kernel
theorem dL_mark_31 : decode cL_mark 31 = .ok (.ireturn, 1) := by decide +kernel
theorem dL_mark_32 : decode cL_mark 32 = .ok (.astore 6, 2) := by decide +kernel
theorem dL_mark_34 : decode cL_mark 34 = .ok (.iconst 3, 1) := by decide +kernel
theorem dL_mark_35 : decode cL_mark 35 = .ok (.ireturn, 1) := by decide +kernel
theorem dL_mark_36 : decode cL_mark 36 = .ok (.iconst 0, 1) := by decide +kernel
theorem dL_mark_37 : decode cL_mark 37 = .ok (.ireturn, 1) := by decide +kernel
set_option maxRecDepth 20000 in
theorem ggL_trade_X6_trade : GoodIn wsL_trade wsX6_trade := goodIn_ca (goodIn_ca (goodIn_r _ [7, 8, 9, 10, 11, 12, 13, 14, 15, 16, 17, 18, 19, 20, 21, 22, 23, 24, 25, 26, 27, 28, 29, 30, 31, 32, 33, 34, 35, 36, 37, 38, 39, 40, 41, 42, 43, 44, 45, 46, 47, 48, 49, 50] (by decide +kernel) (by decide +kernel)) (goodIn_sub (fun _ h => List.mem_cons_of_mem _ (List.mem_append_left _ (List.mem_append_right _ h))) (by decide +kernel))) (goodIn_sub (fun _ h => List.mem_cons_of_mem _ (List.mem_append_right _ h)) (by decide +kernel))
set_option maxRecDepth 20000 in
theorem gL_trade_X6_trade : GoodIn wsL_trade (wsV RL 23 RX6 yX6_trade wsX6_trade) := goodIn_app (goodIn_of _ (by decide +kernel)) ggL_trade_X6_trade
theorem dL_trade_0 : decode cL_trade 0 = .ok (.aload 4, 2) := by decide +kernel
theorem dL_trade_2 : decode cL_trade 2 = .ok (.iconst 0, 1) := by decide +kernel
theorem dL_trade_3 : decode cL_trade 3 = .ok (.aload_n 0, 1) := by decide +kernel
theorem dL_trade_4 : decode cL_trade 4 = .ok (.iload_n 1, 1) := by decide +kernel
theorem dL_trade_5 : decode cL_trade 5 = .ok (.iload_n 2, 1) := by decide +kernel
theorem dL_trade_6 : decode cL_trade 6 = .ok (.iload_n 3, 1) := by decide +kernel
theorem dL_trade_7 : decode cL_trade 7 = .ok (.invokevirtual 23, 3) := by decide +kernel
theorem dL_trade_10 : decode cL_trade 10 = .ok (.i2l, 1) := by decide +kernel
theorem dL_trade_11 : decode cL_trade 11 = .ok (.lastore, 1) := by decide +kernel
theorem dL_trade_12 : decode cL_trade 12 = .ok (.goto 11, 3) := by decide +kernel
theorem dL_trade_15 : decode cL_trade 15 = .ok (.astore 5, 2) := by decide +kernel
theorem dL_trade_17 : decode cL_trade 17 = .ok (.iconst 1, 1) := by decide +kernel
theorem dL_trade_18 : decode cL_trade 18 = .ok (.ireturn, 1) := by decide +kernel
theorem dL_trade_19 : decode cL_trade 19 = .ok (.astore 5, 2) := by decide +kernel
theorem dL_trade_21 : decode cL_trade 21 = .ok (.iconst 2, 1) := by decide +kernel
theorem dL_trade_22 : decode cL_trade 22 = .ok (.ireturn, 1) := by decide +kernel
theorem dL_trade_23 : decode cL_trade 23 = .ok (.iconst 0, 1) := by decide +kernel
theorem dL_trade_24 : decode cL_trade 24 = .ok (.ireturn, 1) := by decide +kernel
set_option maxRecDepth 20000 in
theorem ggL_pair_X6_pair : GoodIn wsL_pair wsX6_pair := goodIn_ca (goodIn_ca (goodIn_r _ [7, 8, 9, 10, 6, 11, 12, 13, 14, 15, 16, 17, 18, 19, 20, 21, 22, 23, 24, 25, 26, 27, 28, 29, 30, 31, 32, 33, 34, 35, 36, 37, 38, 39, 40, 41, 42, 43, 44, 45, 46, 47, 48, 49, 50, 51, 52, 53, 54, 55, 56] (by decide +kernel) (by decide +kernel)) (goodIn_sub (fun _ h => List.mem_cons_of_mem _ (List.mem_append_left _ (List.mem_append_right _ h))) (by decide +kernel))) (goodIn_sub (fun _ h => List.mem_cons_of_mem _ (List.mem_append_right _ h)) (by decide +kernel))
set_option maxRecDepth 20000 in
theorem gL_pair_X6_pair : GoodIn wsL_pair (wsV RL 29 RX6 yX6_pair wsX6_pair) := goodIn_app (goodIn_of _ (by decide +kernel)) ggL_pair_X6_pair
theorem dL_pair_0 : decode cL_pair 0 = .ok (.aload 4, 2) := by decide +kernel
theorem dL_pair_2 : decode cL_pair 2 = .ok (.iconst 0, 1) := by decide +kernel
theorem dL_pair_3 : decode cL_pair 3 = .ok (.aload_n 0, 1) := by decide +kernel
theorem dL_pair_4 : decode cL_pair 4 = .ok (.iload_n 1, 1) := by decide +kernel
theorem dL_pair_5 : decode cL_pair 5 = .ok (.iload_n 2, 1) := by decide +kernel
theorem dL_pair_6 : decode cL_pair 6 = .ok (.iload_n 3, 1) := by decide +kernel
theorem dL_pair_7 : decode cL_pair 7 = .ok (.invokevirtual 29, 3) := by decide +kernel
theorem dL_pair_10 : decode cL_pair 10 = .ok (.ifCond .eq 7, 3) := by decide +kernel
theorem dL_pair_13 : decode cL_pair 13 = .ok (.lconst 1, 1) := by decide +kernel
theorem dL_pair_14 : decode cL_pair 14 = .ok (.goto 4, 3) := by decide +kernel
theorem dL_pair_17 : decode cL_pair 17 = .ok (.lconst 0, 1) := by decide +kernel
theorem dL_pair_18 : decode cL_pair 18 = .ok (.lastore, 1) := by decide +kernel
theorem dL_pair_19 : decode cL_pair 19 = .ok (.goto 11, 3) := by decide +kernel
theorem dL_pair_22 : decode cL_pair 22 = .ok (.astore 5, 2) := by decide +kernel
theorem dL_pair_24 : decode cL_pair 24 = .ok (.iconst 1, 1) := by decide +kernel
theorem dL_pair_25 : decode cL_pair 25 = .ok (.ireturn, 1) := by decide +kernel
theorem dL_pair_26 : decode cL_pair 26 = .ok (.astore 5, 2) := by decide +kernel
theorem dL_pair_28 : decode cL_pair 28 = .ok (.iconst 2, 1) := by decide +kernel
theorem dL_pair_29 : decode cL_pair 29 = .ok (.ireturn, 1) := by decide +kernel
theorem dL_pair_30 : decode cL_pair 30 = .ok (.iconst 0, 1) := by decide +kernel
theorem dL_pair_31 : decode cL_pair 31 = .ok (.ireturn, 1) := by decide +kernel
set_option maxRecDepth 20000 in
theorem ggL_trader_X6_trader : GoodIn wsL_trader wsX6_trader := goodIn_ca (goodIn_ca (goodIn_ca (goodIn_r _ [8, 9, 10, 11, 12, 13, 14, 15, 16, 17, 18, 19, 20, 21, 22, 7, 23, 24, 25, 26, 27, 28, 29, 30, 31, 32, 33, 34, 35, 36, 37, 38, 39, 40, 41, 42, 43, 44, 45, 46, 47, 48, 49, 50, 51, 52, 53, 54, 55, 56, 57, 58, 59, 60, 61, 62, 63, 64, 65, 66, 67, 68, 69, 70, 71, 72, 73, 74, 75, 76, 77, 78, 79, 80, 81, 82, 83, 84, 85, 86, 87, 88, 89, 90, 91, 92, 93, 94, 95, 96, 97, 98, 99, 100, 101, 102, 103, 104, 105, 106, 107, 108, 109, 110, 111, 112] (by decide +kernel) (by decide +kernel)) (goodIn_sub (fun _ h => List.mem_cons_of_mem _ (List.mem_append_left _ (List.mem_append_left _ (List.mem_append_right _ h)))) (by decide +kernel))) (goodIn_sub (fun _ h => List.mem_cons_of_mem _ (List.mem_append_left _ (List.mem_append_right _ h))) (by decide +kernel))) (goodIn_sub (fun _ h => List.mem_cons_of_mem _ (List.mem_append_right _ h)) (by decide +kernel))
set_option maxRecDepth 20000 in
theorem gL_trader_X6_trader : GoodIn wsL_trader (wsV RL 33 RX6 yX6_trader wsX6_trader) := goodIn_app (goodIn_of _ (by decide +kernel)) ggL_trader_X6_trader
theorem dL_trader_0 : decode cL_trader 0 = .ok (.aload 4, 2) := by decide +kernel
theorem dL_trader_2 : decode cL_trader 2 = .ok (.iconst 0, 1) := by decide +kernel
theorem dL_trader_3 : decode cL_trader 3 = .ok (.aload_n 0, 1) := by decide +kernel
theorem dL_trader_4 : decode cL_trader 4 = .ok (.iload_n 1, 1) := by decide +kernel
theorem dL_trader_5 : decode cL_trader 5 = .ok (.iload_n 2, 1) := by decide +kernel
theorem dL_trader_6 : decode cL_trader 6 = .ok (.iload_n 3, 1) := by decide +kernel
theorem dL_trader_7 : decode cL_trader 7 = .ok (.invokevirtual 33, 3) := by decide +kernel
theorem dL_trader_10 : decode cL_trader 10 = .ok (.i2l, 1) := by decide +kernel
theorem dL_trader_11 : decode cL_trader 11 = .ok (.lastore, 1) := by decide +kernel
theorem dL_trader_12 : decode cL_trader 12 = .ok (.goto 15, 3) := by decide +kernel
theorem dL_trader_15 : decode cL_trader 15 = .ok (.astore 5, 2) := by decide +kernel
theorem dL_trader_17 : decode cL_trader 17 = .ok (.iconst 1, 1) := by decide +kernel
theorem dL_trader_18 : decode cL_trader 18 = .ok (.ireturn, 1) := by decide +kernel
theorem dL_trader_19 : decode cL_trader 19 = .ok (.astore 5, 2) := by decide +kernel
theorem dL_trader_21 : decode cL_trader 21 = .ok (.iconst 2, 1) := by decide +kernel
theorem dL_trader_22 : decode cL_trader 22 = .ok (.ireturn, 1) := by decide +kernel
theorem dL_trader_23 : decode cL_trader 23 = .ok (.astore 5, 2) := by decide +kernel
theorem dL_trader_25 : decode cL_trader 25 = .ok (.iconst 3, 1) := by decide +kernel
theorem dL_trader_26 : decode cL_trader 26 = .ok (.ireturn, 1) := by decide +kernel
theorem dL_trader_27 : decode cL_trader 27 = .ok (.iconst 0, 1) := by decide +kernel
theorem dL_trader_28 : decode cL_trader 28 = .ok (.ireturn, 1) := by decide +kernel
set_option maxRecDepth 20000 in
theorem ggL_pitch_X6_pitch : GoodIn wsL_pitch wsX6_pitch := goodIn_ca (goodIn_ca (goodIn_ca (goodIn_r _ [8, 9, 10, 11, 12, 13, 14, 15, 7, 16, 17, 18, 19, 20, 21, 22, 23, 24, 25, 26, 27, 28, 29, 30, 31, 32, 33, 34, 35, 36, 37, 38, 39, 40, 41, 42, 43, 44, 45, 46, 47, 48, 49, 50, 51, 52, 53, 54, 55, 56, 57, 58, 59, 60, 61, 62, 63, 64, 65, 66, 67, 68, 69] (by decide +kernel) (by decide +kernel)) (goodIn_sub (fun _ h => List.mem_cons_of_mem _ (List.mem_append_left _ (List.mem_append_left _ (List.mem_append_right _ h)))) (by decide +kernel))) (goodIn_sub (fun _ h => List.mem_cons_of_mem _ (List.mem_append_left _ (List.mem_append_right _ h))) (by decide +kernel))) (goodIn_sub (fun _ h => List.mem_cons_of_mem _ (List.mem_append_right _ h)) (by decide +kernel))
set_option maxRecDepth 20000 in
theorem gL_pitch_X6_pitch : GoodIn wsL_pitch (wsV RL 37 RX6 yX6_pitch wsX6_pitch) := goodIn_app (goodIn_of _ (by decide +kernel)) ggL_pitch_X6_pitch
theorem dL_pitch_0 : decode cL_pitch 0 = .ok (.aload_n 0, 1) := by decide +kernel
theorem dL_pitch_1 : decode cL_pitch 1 = .ok (.iload_n 1, 1) := by decide +kernel
theorem dL_pitch_2 : decode cL_pitch 2 = .ok (.iload_n 2, 1) := by decide +kernel
theorem dL_pitch_3 : decode cL_pitch 3 = .ok (.iload_n 3, 1) := by decide +kernel
theorem dL_pitch_4 : decode cL_pitch 4 = .ok (.invokevirtual 37, 3) := by decide +kernel
theorem dL_pitch_7 : decode cL_pitch 7 = .ok (.goto 15, 3) := by decide +kernel
theorem dL_pitch_10 : decode cL_pitch 10 = .ok (.astore 4, 2) := by decide +kernel
theorem dL_pitch_12 : decode cL_pitch 12 = .ok (.iconst 1, 1) := by decide +kernel
theorem dL_pitch_13 : decode cL_pitch 13 = .ok (.ireturn, 1) := by decide +kernel
theorem dL_pitch_14 : decode cL_pitch 14 = .ok (.astore 4, 2) := by decide +kernel
theorem dL_pitch_16 : decode cL_pitch 16 = .ok (.iconst 2, 1) := by decide +kernel
theorem dL_pitch_17 : decode cL_pitch 17 = .ok (.ireturn, 1) := by decide +kernel
theorem dL_pitch_18 : decode cL_pitch 18 = .ok (.astore 4, 2) := by decide +kernel
theorem dL_pitch_20 : decode cL_pitch 20 = .ok (.iconst 3, 1) := by decide +kernel
theorem dL_pitch_21 : decode cL_pitch 21 = .ok (.ireturn, 1) := by decide +kernel
theorem dL_pitch_22 : decode cL_pitch 22 = .ok (.iconst 0, 1) := by decide +kernel
theorem dL_pitch_23 : decode cL_pitch 23 = .ok (.ireturn, 1) := by decide +kernel
set_option maxRecDepth 20000 in
theorem ggL_months_X6_months : GoodIn wsL_months wsX6_months := goodIn_ca (goodIn_ca (goodIn_ca (goodIn_r _ [8, 9, 10, 11, 12, 13, 14, 15, 7, 16, 17, 18, 19, 20, 21, 22, 23, 24, 25, 26, 27, 28, 29, 30, 31, 32, 33, 34, 35, 36, 37, 38, 39, 40, 41, 42, 43, 44, 45, 46, 47, 48, 49, 50, 51, 52, 53, 54, 55, 56, 57, 58] (by decide +kernel) (by decide +kernel)) (goodIn_sub (fun _ h => List.mem_cons_of_mem _ (List.mem_append_left _ (List.mem_append_left _ (List.mem_append_right _ h)))) (by decide +kernel))) (goodIn_sub (fun _ h => List.mem_cons_of_mem _ (List.mem_append_left _ (List.mem_append_right _ h))) (by decide +kernel))) (goodIn_sub (fun _ h => List.mem_cons_of_mem _ (List.mem_append_right _ h)) (by decide +kernel))
set_option maxRecDepth 20000 in
theorem gL_months_X6_months : GoodIn wsL_months (wsV RL 41 RX6 yX6_months wsX6_months) := goodIn_app (goodIn_of _ (by decide +kernel)) ggL_months_X6_months
theorem dL_months_0 : decode cL_months 0 = .ok (.aload_n 0, 1) := by decide +kernel
theorem dL_months_1 : decode cL_months 1 = .ok (.iload_n 1, 1) := by decide +kernel
theorem dL_months_2 : decode cL_months 2 = .ok (.iload_n 2, 1) := by decide +kernel
theorem dL_months_3 : decode cL_months 3 = .ok (.invokevirtual 41, 3) := by decide +kernel
theorem dL_months_6 : decode cL_months 6 = .ok (.goto 12, 3) := by decide +kernel
theorem dL_months_9 : decode cL_months 9 = .ok (.astore_n 3, 1) := by decide +kernel
theorem dL_months_10 : decode cL_months 10 = .ok (.iconst 1, 1) := by decide +kernel
theorem dL_months_11 : decode cL_months 11 = .ok (.ireturn, 1) := by decide +kernel
theorem dL_months_12 : decode cL_months 12 = .ok (.astore_n 3, 1) := by decide +kernel
theorem dL_months_13 : decode cL_months 13 = .ok (.iconst 2, 1) := by decide +kernel
theorem dL_months_14 : decode cL_months 14 = .ok (.ireturn, 1) := by decide +kernel
theorem dL_months_15 : decode cL_months 15 = .ok (.astore_n 3, 1) := by decide +kernel
theorem dL_months_16 : decode cL_months 16 = .ok (.iconst 3, 1) := by decide +kernel
theorem dL_months_17 : decode cL_months 17 = .ok (.ireturn, 1) := by decide +kernel
theorem dL_months_18 : decode cL_months 18 = .ok (.iconst 0, 1) := by decide +kernel
theorem dL_months_19 : decode cL_months 19 = .ok (.ireturn, 1) := by decide +kernel
set_option maxRecDepth 20000 in
theorem ggL_wish_X6_wish : GoodIn wsL_wish wsX6_wish := goodIn_ca (goodIn_r _ [6, 7, 8, 9, 10, 5, 11, 12, 13, 14, 15, 16, 17, 18, 19, 20, 21, 22, 23, 24, 25, 26, 27, 28, 29, 30, 31, 32, 33, 34, 35, 36, 37, 38, 39, 40, 41, 42, 43, 44, 45, 46, 47, 48, 49, 50, 51, 52, 53, 54, 55, 56, 57, 58] (by decide +kernel) (by decide +kernel)) (goodIn_sub (fun _ h => List.mem_cons_of_mem _ (List.mem_append_right _ h)) (by decide +kernel))
set_option maxRecDepth 20000 in
theorem gL_wish_X6_wish : GoodIn wsL_wish (wsV RL 44 RX6 yX6_wish wsX6_wish) := goodIn_app (goodIn_of _ (by decide +kernel)) ggL_wish_X6_wish
theorem dL_wish_0 : decode cL_wish 0 = .ok (.aload 4, 2) := by decide +kernel
theorem dL_wish_2 : decode cL_wish 2 = .ok (.iconst 0, 1) := by decide +kernel
theorem dL_wish_3 : decode cL_wish 3 = .ok (.aload_n 0, 1) := by decide +kernel
theorem dL_wish_4 : decode cL_wish 4 = .ok (.iload_n 1, 1) := by decide +kernel
theorem dL_wish_5 : decode cL_wish 5 = .ok (.iload_n 2, 1) := by decide +kernel
theorem dL_wish_6 : decode cL_wish 6 = .ok (.iload_n 3, 1) := by decide +kernel
theorem dL_wish_7 : decode cL_wish 7 = .ok (.invokevirtual 44, 3) := by decide +kernel
theorem dL_wish_10 : decode cL_wish 10 = .ok (.i2l, 1) := by decide +kernel
theorem dL_wish_11 : decode cL_wish 11 = .ok (.lastore, 1) := by decide +kernel
theorem dL_wish_12 : decode cL_wish 12 = .ok (.goto 7, 3) := by decide +kernel
theorem dL_wish_15 : decode cL_wish 15 = .ok (.astore 5, 2) := by decide +kernel
theorem dL_wish_17 : decode cL_wish 17 = .ok (.iconst 1, 1) := by decide +kernel
theorem dL_wish_18 : decode cL_wish 18 = .ok (.ireturn, 1) := by decide +kernel
theorem dL_wish_19 : decode cL_wish 19 = .ok (.iconst 0, 1) := by decide +kernel
theorem dL_wish_20 : decode cL_wish 20 = .ok (.ireturn, 1) := by decide +kernel
set_option maxRecDepth 20000 in
theorem ggL_wishes_X6_wishes : GoodIn wsL_wishes wsX6_wishes := goodIn_ca (goodIn_r _ [6, 7, 8, 9, 10, 5, 11, 12, 13, 14, 15, 16, 17, 18, 19, 20, 21, 22, 23, 24, 25, 26, 27, 28, 29, 30, 31, 32, 33, 34, 35, 36, 37, 38, 39, 40, 41, 42, 43, 44, 45, 46, 47, 48, 49, 50, 51, 52, 53, 54, 55, 56, 57] (by decide +kernel) (by decide +kernel)) (goodIn_sub (fun _ h => List.mem_cons_of_mem _ (List.mem_append_right _ h)) (by decide +kernel))
set_option maxRecDepth 20000 in
theorem gL_wishes_X6_wishes : GoodIn wsL_wishes (wsV RL 47 RX6 yX6_wishes wsX6_wishes) := goodIn_app (goodIn_of _ (by decide +kernel)) ggL_wishes_X6_wishes
theorem dL_wishes_0 : decode cL_wishes 0 = .ok (.aload_n 0, 1) := by decide +kernel
theorem dL_wishes_1 : decode cL_wishes 1 = .ok (.iload_n 1, 1) := by decide +kernel
theorem dL_wishes_2 : decode cL_wishes 2 = .ok (.iload_n 2, 1) := by decide +kernel
theorem dL_wishes_3 : decode cL_wishes 3 = .ok (.invokevirtual 47, 3) := by decide +kernel
theorem dL_wishes_6 : decode cL_wishes 6 = .ok (.goto 6, 3) := by decide +kernel
theorem dL_wishes_9 : decode cL_wishes 9 = .ok (.astore_n 3, 1) := by decide +kernel
theorem dL_wishes_10 : decode cL_wishes 10 = .ok (.iconst 1, 1) := by decide +kernel
theorem dL_wishes_11 : decode cL_wishes 11 = .ok (.ireturn, 1) := by decide +kernel
theorem dL_wishes_12 : decode cL_wishes 12 = .ok (.iconst 0, 1) := by decide +kernel
theorem dL_wishes_13 : decode cL_wishes 13 = .ok (.ireturn, 1) := by decide +kernel
set_option maxRecDepth 20000 in
theorem ggL_want_X6_want : GoodIn wsL_want wsX6_want := goodIn_ca (goodIn_r _ [6, 7, 8, 9, 10, 5, 11, 12, 13, 14, 15, 16, 17, 18, 19, 20, 21, 22, 23, 24, 25, 26, 27, 28, 29, 30, 31, 32, 33, 34, 35, 36, 37, 38, 39, 40, 41, 42, 43, 44, 45, 46] (by decide +kernel) (by decide +kernel)) (goodIn_sub (fun _ h => List.mem_cons_of_mem _ (List.mem_append_right _ h)) (by decide +kernel))
set_option maxRecDepth 20000 in
theorem gL_want_X6_want : GoodIn wsL_want (wsV RL 51 RX6 yX6_want wsX6_want) := goodIn_app (goodIn_of _ (by decide +kernel)) ggL_want_X6_want
theorem dL_want_0 : decode cL_want 0 = .ok (.aload_n 0, 1) := by decide +kernel
theorem dL_want_1 : decode cL_want 1 = .ok (.iload_n 1, 1) := by decide +kernel
theorem dL_want_2 : decode cL_want 2 = .ok (.iload_n 2, 1) := by decide +kernel
theorem dL_want_3 : decode cL_want 3 = .ok (.invokevirtual 51, 3) := by decide +kernel
theorem dL_want_6 : decode cL_want 6 = .ok (.goto 6, 3) := by decide +kernel
theorem dL_want_9 : decode cL_want 9 = .ok (.astore_n 3, 1) := by decide +kernel
theorem dL_want_10 : decode cL_want 10 = .ok (.iconst 1, 1) := by decide +kernel
theorem dL_want_11 : decode cL_want 11 = .ok (.ireturn, 1) := by decide +kernel
theorem dL_want_12 : decode cL_want 12 = .ok (.iconst 0, 1) := by decide +kernel
theorem dL_want_13 : decode cL_want 13 = .ok (.ireturn, 1) := by decide +kernel
set_option maxRecDepth 20000 in
theorem ggL_day_X6_day : GoodIn wsL_day wsX6_day := goodIn_ca (goodIn_ca (goodIn_r _ [7, 8, 9, 10, 11, 12, 13, 14, 15, 16, 6, 17, 18, 19, 20, 21, 22, 23, 24, 25, 26, 27, 28, 29, 30, 31, 32, 33, 34, 35, 36, 37] (by decide +kernel) (by decide +kernel)) (goodIn_sub (fun _ h => List.mem_cons_of_mem _ (List.mem_append_left _ (List.mem_append_right _ h))) (by decide +kernel))) (goodIn_sub (fun _ h => List.mem_cons_of_mem _ (List.mem_append_right _ h)) (by decide +kernel))
set_option maxRecDepth 20000 in
theorem gL_day_X6_day : GoodIn wsL_day (wsV RL 54 RX6 yX6_day wsX6_day) := goodIn_app (goodIn_of _ (by decide +kernel)) ggL_day_X6_day
theorem dL_day_0 : decode cL_day 0 = .ok (.aload_n 2, 1) := by decide +kernel
theorem dL_day_1 : decode cL_day 1 = .ok (.iconst 0, 1) := by decide +kernel
theorem dL_day_2 : decode cL_day 2 = .ok (.aload_n 0, 1) := by decide +kernel
theorem dL_day_3 : decode cL_day 3 = .ok (.iload_n 1, 1) := by decide +kernel
theorem dL_day_4 : decode cL_day 4 = .ok (.invokevirtual 54, 3) := by decide +kernel
theorem dL_day_7 : decode cL_day 7 = .ok (.i2l, 1) := by decide +kernel
theorem dL_day_8 : decode cL_day 8 = .ok (.lastore, 1) := by decide +kernel
theorem dL_day_9 : decode cL_day 9 = .ok (.goto 9, 3) := by decide +kernel
theorem dL_day_12 : decode cL_day 12 = .ok (.astore_n 3, 1) := by decide +kernel
theorem dL_day_13 : decode cL_day 13 = .ok (.iconst 1, 1) := by decide +kernel
theorem dL_day_14 : decode cL_day 14 = .ok (.ireturn, 1) := by decide +kernel
theorem dL_day_15 : decode cL_day 15 = .ok (.astore_n 3, 1) := by decide +kernel
theorem dL_day_16 : decode cL_day 16 = .ok (.iconst 2, 1) := by decide +kernel
theorem dL_day_17 : decode cL_day 17 = .ok (.ireturn, 1) := by decide +kernel
theorem dL_day_18 : decode cL_day 18 = .ok (.iconst 0, 1) := by decide +kernel
theorem dL_day_19 : decode cL_day 19 = .ok (.ireturn, 1) := by decide +kernel
set_option maxRecDepth 20000 in
theorem ggL_there_X6_there : GoodIn wsL_there wsX6_there := goodIn_ca (goodIn_ca (goodIn_r _ [7, 8, 9, 10, 11, 12, 13, 6, 14, 15, 16, 17, 18, 19, 20, 21, 22, 23, 24, 25, 26, 27, 28, 29, 30, 31, 32, 33, 34, 35, 36, 37, 38, 39, 40, 41, 42, 43, 44, 45, 46, 47, 48, 49, 50, 51, 52, 53, 54, 55, 56, 57, 58, 59, 60, 61, 62, 63, 64] (by decide +kernel) (by decide +kernel)) (goodIn_sub (fun _ h => List.mem_cons_of_mem _ (List.mem_append_left _ (List.mem_append_right _ h))) (by decide +kernel))) (goodIn_sub (fun _ h => List.mem_cons_of_mem _ (List.mem_append_right _ h)) (by decide +kernel))
set_option maxRecDepth 20000 in
theorem gL_there_X6_there : GoodIn wsL_there (wsV RL 58 RX6 yX6_there wsX6_there) := goodIn_app (goodIn_of _ (by decide +kernel)) ggL_there_X6_there
theorem dL_there_0 : decode cL_there 0 = .ok (.aload_n 2, 1) := by decide +kernel
theorem dL_there_1 : decode cL_there 1 = .ok (.iconst 0, 1) := by decide +kernel
theorem dL_there_2 : decode cL_there 2 = .ok (.aload_n 0, 1) := by decide +kernel
theorem dL_there_3 : decode cL_there 3 = .ok (.iload_n 1, 1) := by decide +kernel
theorem dL_there_4 : decode cL_there 4 = .ok (.invokevirtual 58, 3) := by decide +kernel
theorem dL_there_7 : decode cL_there 7 = .ok (.ifCond .eq 7, 3) := by decide +kernel
theorem dL_there_10 : decode cL_there 10 = .ok (.lconst 1, 1) := by decide +kernel
theorem dL_there_11 : decode cL_there 11 = .ok (.goto 4, 3) := by decide +kernel
theorem dL_there_14 : decode cL_there 14 = .ok (.lconst 0, 1) := by decide +kernel
theorem dL_there_15 : decode cL_there 15 = .ok (.lastore, 1) := by decide +kernel
theorem dL_there_16 : decode cL_there 16 = .ok (.goto 9, 3) := by decide +kernel
theorem dL_there_19 : decode cL_there 19 = .ok (.astore_n 3, 1) := by decide +kernel
theorem dL_there_20 : decode cL_there 20 = .ok (.iconst 1, 1) := by decide +kernel
theorem dL_there_21 : decode cL_there 21 = .ok (.ireturn, 1) := by decide +kernel
theorem dL_there_22 : decode cL_there 22 = .ok (.astore_n 3, 1) := by decide +kernel
theorem dL_there_23 : decode cL_there 23 = .ok (.iconst 2, 1) := by decide +kernel
theorem dL_there_24 : decode cL_there 24 = .ok (.ireturn, 1) := by decide +kernel
theorem dL_there_25 : decode cL_there 25 = .ok (.iconst 0, 1) := by decide +kernel
theorem dL_there_26 : decode cL_there 26 = .ok (.ireturn, 1) := by decide +kernel
set_option maxRecDepth 20000 in
theorem ggL_word_X6_word : GoodIn wsL_word wsX6_word := goodIn_ca (goodIn_ca (goodIn_r _ [7, 8, 9, 10, 11, 12, 13, 6, 14, 15, 16, 17, 18, 19, 20, 21, 22, 23, 24, 25, 26, 27, 28, 29, 30, 31, 32, 33, 34, 35, 36, 37, 38, 39, 40, 41, 42, 43, 44, 45, 46, 47, 48, 49, 50, 51, 52, 53, 54, 55, 56, 57, 58, 59, 60, 61, 62, 63, 64] (by decide +kernel) (by decide +kernel)) (goodIn_sub (fun _ h => List.mem_cons_of_mem _ (List.mem_append_left _ (List.mem_append_right _ h))) (by decide +kernel))) (goodIn_sub (fun _ h => List.mem_cons_of_mem _ (List.mem_append_right _ h)) (by decide +kernel))
set_option maxRecDepth 20000 in
theorem gL_word_X6_word : GoodIn wsL_word (wsV RL 62 RX6 yX6_word wsX6_word) := goodIn_app (goodIn_of _ (by decide +kernel)) ggL_word_X6_word
theorem dL_word_0 : decode cL_word 0 = .ok (.aload_n 2, 1) := by decide +kernel
theorem dL_word_1 : decode cL_word 1 = .ok (.iconst 0, 1) := by decide +kernel
theorem dL_word_2 : decode cL_word 2 = .ok (.aload_n 0, 1) := by decide +kernel
theorem dL_word_3 : decode cL_word 3 = .ok (.iload_n 1, 1) := by decide +kernel
theorem dL_word_4 : decode cL_word 4 = .ok (.invokevirtual 62, 3) := by decide +kernel
theorem dL_word_7 : decode cL_word 7 = .ok (.ifCond .eq 7, 3) := by decide +kernel
theorem dL_word_10 : decode cL_word 10 = .ok (.lconst 1, 1) := by decide +kernel
theorem dL_word_11 : decode cL_word 11 = .ok (.goto 4, 3) := by decide +kernel
theorem dL_word_14 : decode cL_word 14 = .ok (.lconst 0, 1) := by decide +kernel
theorem dL_word_15 : decode cL_word 15 = .ok (.lastore, 1) := by decide +kernel
theorem dL_word_16 : decode cL_word 16 = .ok (.goto 9, 3) := by decide +kernel
theorem dL_word_19 : decode cL_word 19 = .ok (.astore_n 3, 1) := by decide +kernel
theorem dL_word_20 : decode cL_word 20 = .ok (.iconst 1, 1) := by decide +kernel
theorem dL_word_21 : decode cL_word 21 = .ok (.ireturn, 1) := by decide +kernel
theorem dL_word_22 : decode cL_word 22 = .ok (.astore_n 3, 1) := by decide +kernel
theorem dL_word_23 : decode cL_word 23 = .ok (.iconst 2, 1) := by decide +kernel
theorem dL_word_24 : decode cL_word 24 = .ok (.ireturn, 1) := by decide +kernel
theorem dL_word_25 : decode cL_word 25 = .ok (.iconst 0, 1) := by decide +kernel
theorem dL_word_26 : decode cL_word 26 = .ok (.ireturn, 1) := by decide +kernel
set_option maxRecDepth 20000 in
theorem ggL_bell_X6_bell : GoodIn wsL_bell wsX6_bell := goodIn_ca (goodIn_r _ [6, 7, 8, 9, 10, 5, 11, 12, 13, 14, 15, 16, 17, 18, 19, 20, 21, 22, 23, 24, 25, 26, 27, 28, 29, 30, 31, 32, 33, 34, 35, 36, 37, 38, 39, 40, 41, 42, 43, 44, 45, 46, 47, 48, 49, 50, 51, 52, 53, 54, 55, 56, 57, 58, 59, 60, 61, 62, 63, 64, 65, 66, 67, 68, 69, 70, 71, 72, 73, 74, 75, 76, 77, 78, 79, 80, 81, 82, 83, 84, 85, 86, 87, 88, 89, 90, 91, 92, 93, 94, 95, 96, 97, 98, 99, 100, 101, 102, 103, 104, 105, 106, 107, 108, 109, 110, 111, 112, 113, 114, 115, 116, 117, 118, 119, 120, 121, 122, 123, 124, 125, 126, 127, 128, 129, 130, 131, 132, 133, 134, 135, 136, 137, 138, 139, 140, 141, 142, 143, 144, 145, 146, 147, 148, 149, 150, 151, 152, 153, 154, 155, 156, 157, 158, 159, 160, 161, 162, 163, 164, 165, 166, 167, 168, 169, 170, 171, 172, 173, 174, 175, 176, 177, 178, 179, 180, 181, 182, 183, 184, 185, 186, 187] (by decide +kernel) (by decide +kernel)) (goodIn_sub (fun _ h => List.mem_cons_of_mem _ (List.mem_append_right _ h)) (by decide +kernel))
set_option maxRecDepth 20000 in
theorem gL_bell_X6_bell : GoodIn wsL_bell (wsV RL 65 RX6 yX6_bell wsX6_bell) := goodIn_app (goodIn_of _ (by decide +kernel)) ggL_bell_X6_bell
theorem dL_bell_0 : decode cL_bell 0 = .ok (.aload_n 1, 1) := by decide +kernel
theorem dL_bell_1 : decode cL_bell 1 = .ok (.iconst 0, 1) := by decide +kernel
theorem dL_bell_2 : decode cL_bell 2 = .ok (.aload_n 0, 1) := by decide +kernel
theorem dL_bell_3 : decode cL_bell 3 = .ok (.invokevirtual 65, 3) := by decide +kernel
theorem dL_bell_6 : decode cL_bell 6 = .ok (.i2l, 1) := by decide +kernel
theorem dL_bell_7 : decode cL_bell 7 = .ok (.lastore, 1) := by decide +kernel
theorem dL_bell_8 : decode cL_bell 8 = .ok (.goto 6, 3) := by decide +kernel
theorem dL_bell_11 : decode cL_bell 11 = .ok (.astore_n 2, 1) := by decide +kernel
theorem dL_bell_12 : decode cL_bell 12 = .ok (.iconst 1, 1) := by decide +kernel
theorem dL_bell_13 : decode cL_bell 13 = .ok (.ireturn, 1) := by decide +kernel
theorem dL_bell_14 : decode cL_bell 14 = .ok (.iconst 0, 1) := by decide +kernel
theorem dL_bell_15 : decode cL_bell 15 = .ok (.ireturn, 1) := by decide +kernel
set_option maxRecDepth 20000 in
theorem ggL_why_X6_why : GoodIn wsL_why wsX6_why := goodIn_ca (goodIn_r _ [6, 7, 8, 9, 5, 10, 11, 12, 13, 14, 15, 16, 17, 18, 19, 20, 21, 22, 23, 24, 25, 26, 27, 28, 29, 30, 31, 32, 33, 34, 35, 36, 37, 38, 39, 40, 41, 42, 43, 44, 45, 46, 47, 48, 49, 50, 51, 52, 53, 54, 55, 56, 57, 58, 59, 60, 61, 62, 63, 64, 65, 66, 67, 68, 69, 70, 71, 72, 73, 74, 75, 76, 77, 78, 79, 80, 81, 82, 83, 84, 85, 86, 87, 88, 89, 90, 91, 92, 93, 94, 95, 96, 97, 98, 99, 100, 101, 102, 103, 104, 105, 106, 107, 108, 109, 110, 111, 112, 113, 114, 115, 116, 117, 118, 119, 120, 121, 122, 123, 124, 125, 126, 127, 128, 129, 130, 131, 132, 133, 134, 135, 136, 137, 138, 139, 140, 141, 142, 143, 144, 145, 146, 147, 148, 149, 150, 151, 152, 153] (by decide +kernel) (by decide +kernel)) (goodIn_sub (fun _ h => List.mem_cons_of_mem _ (List.mem_append_right _ h)) (by decide +kernel))
set_option maxRecDepth 20000 in
theorem gL_why_X6_why : GoodIn wsL_why (wsV RL 69 RX6 yX6_why wsX6_why) := goodIn_app (goodIn_of _ (by decide +kernel)) ggL_why_X6_why
theorem dL_why_0 : decode cL_why 0 = .ok (.aload 4, 2) := by decide +kernel
theorem dL_why_2 : decode cL_why 2 = .ok (.iconst 0, 1) := by decide +kernel
theorem dL_why_3 : decode cL_why 3 = .ok (.aload_n 0, 1) := by decide +kernel
theorem dL_why_4 : decode cL_why 4 = .ok (.iload_n 1, 1) := by decide +kernel
theorem dL_why_5 : decode cL_why 5 = .ok (.iload_n 2, 1) := by decide +kernel
theorem dL_why_6 : decode cL_why 6 = .ok (.iload_n 3, 1) := by decide +kernel
theorem dL_why_7 : decode cL_why 7 = .ok (.invokevirtual 69, 3) := by decide +kernel
theorem dL_why_10 : decode cL_why 10 = .ok (.i2l, 1) := by decide +kernel
theorem dL_why_11 : decode cL_why 11 = .ok (.lastore, 1) := by decide +kernel
theorem dL_why_12 : decode cL_why 12 = .ok (.goto 7, 3) := by decide +kernel
theorem dL_why_15 : decode cL_why 15 = .ok (.astore 5, 2) := by decide +kernel
theorem dL_why_17 : decode cL_why 17 = .ok (.iconst 1, 1) := by decide +kernel
theorem dL_why_18 : decode cL_why 18 = .ok (.ireturn, 1) := by decide +kernel
theorem dL_why_19 : decode cL_why 19 = .ok (.iconst 0, 1) := by decide +kernel
theorem dL_why_20 : decode cL_why 20 = .ok (.ireturn, 1) := by decide +kernel
set_option maxRecDepth 20000 in
theorem ggL_good_X6_good : GoodIn wsL_good wsX6_good := goodIn_ca (goodIn_r _ [6, 7, 8, 9, 5, 10, 11, 12, 13, 14, 15, 16, 17, 18, 19, 20, 21, 22, 23, 24, 25, 26, 27, 28, 29, 30, 31, 32, 33, 34, 35, 36, 37, 38, 39, 40, 41, 42, 43, 44, 45, 46, 47, 48, 49, 50, 51, 52, 53, 54, 55, 56, 57, 58, 59, 60, 61, 62, 63, 64, 65, 66, 67, 68, 69, 70, 71, 72, 73, 74, 75, 76, 77, 78, 79, 80, 81, 82, 83, 84, 85, 86, 87, 88, 89, 90, 91, 92, 93, 94, 95, 96, 97, 98, 99, 100, 101, 102, 103, 104, 105, 106, 107, 108, 109, 110, 111, 112, 113, 114, 115, 116, 117, 118, 119, 120, 121, 122, 123, 124, 125, 126, 127, 128, 129, 130, 131, 132, 133, 134, 135, 136, 137, 138, 139, 140, 141, 142, 143, 144, 145, 146, 147, 148, 149, 150, 151, 152, 153, 154, 155, 156, 157, 158, 159, 160, 161, 162, 163, 164, 165, 166, 167, 168, 169, 170, 171, 172, 173, 174, 175, 176] (by decide +kernel) (by decide +kernel)) (goodIn_sub (fun _ h => List.mem_cons_of_mem _ (List.mem_append_right _ h)) (by decide +kernel))
set_option maxRecDepth 20000 in
theorem gL_good_X6_good : GoodIn wsL_good (wsV RL 72 RX6 yX6_good wsX6_good) := goodIn_app (goodIn_of _ (by decide +kernel)) ggL_good_X6_good
theorem dL_good_0 : decode cL_good 0 = .ok (.aload_n 2, 1) := by decide +kernel
theorem dL_good_1 : decode cL_good 1 = .ok (.iconst 0, 1) := by decide +kernel
theorem dL_good_2 : decode cL_good 2 = .ok (.aload_n 0, 1) := by decide +kernel
theorem dL_good_3 : decode cL_good 3 = .ok (.iload_n 1, 1) := by decide +kernel
theorem dL_good_4 : decode cL_good 4 = .ok (.invokevirtual 72, 3) := by decide +kernel
theorem dL_good_7 : decode cL_good 7 = .ok (.i2l, 1) := by decide +kernel
theorem dL_good_8 : decode cL_good 8 = .ok (.lastore, 1) := by decide +kernel
theorem dL_good_9 : decode cL_good 9 = .ok (.goto 6, 3) := by decide +kernel
theorem dL_good_12 : decode cL_good 12 = .ok (.astore_n 3, 1) := by decide +kernel
theorem dL_good_13 : decode cL_good 13 = .ok (.iconst 1, 1) := by decide +kernel
theorem dL_good_14 : decode cL_good 14 = .ok (.ireturn, 1) := by decide +kernel
theorem dL_good_15 : decode cL_good 15 = .ok (.iconst 0, 1) := by decide +kernel
theorem dL_good_16 : decode cL_good 16 = .ok (.ireturn, 1) := by decide +kernel
set_option maxRecDepth 20000 in
theorem ggL_next_X6_next : GoodIn wsL_next wsX6_next := goodIn_ca (goodIn_r _ [6, 7, 8, 9, 10, 11, 12, 13, 5, 14, 15, 16, 17, 18, 19, 20, 21, 22, 23, 24, 25, 26, 27, 28, 29, 30, 31, 32, 33, 34, 35, 36, 37, 38, 39, 40, 41, 42, 43, 44, 45, 46, 47, 48, 49, 50, 51, 52, 53, 54, 55, 56, 57, 58, 59, 60, 61, 62, 63, 64, 65, 66, 67, 68, 69, 70, 71, 72, 73, 74, 75, 76, 77, 78, 79, 80, 81, 82, 83, 84, 85, 86, 87, 88, 89, 90, 91, 92, 93, 94, 95, 96, 97, 98, 99, 100, 101, 102, 103, 104, 105, 106, 107, 108, 109, 110, 111, 112, 113, 114, 115, 116, 117, 118, 119, 120, 121, 122, 123, 124, 125, 126, 127, 128, 129, 130, 131, 132, 133, 134, 135, 136, 137, 138, 139, 140, 141, 142, 143, 144, 145, 146, 147, 148, 149, 150, 151, 152, 153, 154, 155, 156, 157, 158, 159, 160, 161, 162, 163, 164, 165, 166, 167, 168, 169, 170, 171, 172, 173, 174, 175, 176, 177, 178, 179, 180, 181, 182, 183, 184, 185, 186, 187, 188, 189, 190, 191, 192, 193, 194, 195, 196, 197, 198, 199, 200, 201, 202, 203, 204, 205, 206, 207, 208, 209, 210, 211, 212, 213, 214, 215, 216, 217, 218, 219, 220, 221, 222, 223, 224, 225, 226, 227, 228, 229, 230, 231, 232, 233, 234, 235, 236, 237, 238, 239, 240, 241, 242, 243, 244] (by decide +kernel) (by decide +kernel)) (goodIn_sub (fun _ h => List.mem_cons_of_mem _ (List.mem_append_right _ h)) (by decide +kernel))
set_option maxRecDepth 20000 in
theorem gL_next_X6_next : GoodIn wsL_next (wsV RL 75 RX6 yX6_next wsX6_next) := goodIn_app (goodIn_of _ (by decide +kernel)) ggL_next_X6_next
theorem dL_next_0 : decode cL_next 0 = .ok (.aload_n 1, 1) := by decide +kernel
theorem dL_next_1 : decode cL_next 1 = .ok (.iconst 0, 1) := by decide +kernel
theorem dL_next_2 : decode cL_next 2 = .ok (.aload_n 0, 1) := by decide +kernel
theorem dL_next_3 : decode cL_next 3 = .ok (.invokevirtual 75, 3) := by decide +kernel
theorem dL_next_6 : decode cL_next 6 = .ok (.i2l, 1) := by decide +kernel
theorem dL_next_7 : decode cL_next 7 = .ok (.lastore, 1) := by decide +kernel
theorem dL_next_8 : decode cL_next 8 = .ok (.goto 6, 3) := by decide +kernel
theorem dL_next_11 : decode cL_next 11 = .ok (.astore_n 2, 1) := by decide +kernel
theorem dL_next_12 : decode cL_next 12 = .ok (.iconst 1, 1) := by decide +kernel
theorem dL_next_13 : decode cL_next 13 = .ok (.ireturn, 1) := by decide +kernel
theorem dL_next_14 : decode cL_next 14 = .ok (.iconst 0, 1) := by decide +kernel
theorem dL_next_15 : decode cL_next 15 = .ok (.ireturn, 1) := by decide +kernel
set_option maxRecDepth 20000 in
theorem ggL_full_X6_full : GoodIn wsL_full wsX6_full := goodIn_ca (goodIn_r _ [6, 7, 8, 9, 10, 11, 5, 12, 13, 14, 15, 16, 17, 18, 19, 20, 21, 22, 23, 24, 25, 26, 27, 28, 29, 30, 31, 32, 33, 34, 35, 36, 37, 38, 39, 40, 41, 42, 43, 44, 45, 46, 47, 48, 49, 50, 51, 52, 53, 54, 55, 56, 57, 58, 59, 60, 61, 62, 63, 64, 65, 66, 67, 68, 69, 70, 71, 72, 73, 74, 75, 76, 77, 78, 79, 80, 81, 82, 83, 84, 85, 86, 87, 88, 89, 90, 91, 92, 93, 94, 95, 96, 97, 98, 99, 100, 101, 102, 103, 104, 105, 106, 107, 108, 109, 110, 111, 112, 113, 114, 115, 116, 117, 118, 119, 120, 121, 122, 123, 124, 125, 126, 127, 128, 129, 130, 131, 132, 133, 134, 135, 136, 137, 138, 139, 140, 141, 142, 143, 144, 145, 146, 147, 148, 149, 150, 151, 152, 153, 154, 155, 156, 157, 158, 159, 160, 161, 162, 163, 164, 165, 166, 167, 168, 169, 170, 171, 172, 173, 174, 175, 176, 177, 178, 179, 180, 181, 182, 183, 184, 185, 186, 187] (by decide +kernel) (by decide +kernel)) (goodIn_sub (fun _ h => List.mem_cons_of_mem _ (List.mem_append_right _ h)) (by decide +kernel))
set_option maxRecDepth 20000 in
theorem gL_full_X6_full : GoodIn wsL_full (wsV RL 78 RX6 yX6_full wsX6_full) := goodIn_app (goodIn_of _ (by decide +kernel)) ggL_full_X6_full
theorem dL_full_0 : decode cL_full 0 = .ok (.aload_n 1, 1) := by decide +kernel
theorem dL_full_1 : decode cL_full 1 = .ok (.iconst 0, 1) := by decide +kernel
theorem dL_full_2 : decode cL_full 2 = .ok (.aload_n 0, 1) := by decide +kernel
theorem dL_full_3 : decode cL_full 3 = .ok (.invokevirtual 78, 3) := by decide +kernel
theorem dL_full_6 : decode cL_full 6 = .ok (.ifCond .eq 7, 3) := by decide +kernel
theorem dL_full_9 : decode cL_full 9 = .ok (.lconst 1, 1) := by decide +kernel
theorem dL_full_10 : decode cL_full 10 = .ok (.goto 4, 3) := by decide +kernel
theorem dL_full_13 : decode cL_full 13 = .ok (.lconst 0, 1) := by decide +kernel
theorem dL_full_14 : decode cL_full 14 = .ok (.lastore, 1) := by decide +kernel
theorem dL_full_15 : decode cL_full 15 = .ok (.goto 6, 3) := by decide +kernel
theorem dL_full_18 : decode cL_full 18 = .ok (.astore_n 2, 1) := by decide +kernel
theorem dL_full_19 : decode cL_full 19 = .ok (.iconst 1, 1) := by decide +kernel
theorem dL_full_20 : decode cL_full 20 = .ok (.ireturn, 1) := by decide +kernel
theorem dL_full_21 : decode cL_full 21 = .ok (.iconst 0, 1) := by decide +kernel
theorem dL_full_22 : decode cL_full 22 = .ok (.ireturn, 1) := by decide +kernel
set_option maxRecDepth 20000 in
theorem ggL_move_X6_move : GoodIn wsL_move wsX6_move := goodIn_ca (goodIn_ca (goodIn_r _ [7, 8, 9, 10, 11, 12, 13, 6, 14, 15, 16, 17, 18, 19, 20, 21, 22, 23, 24, 25, 26, 27, 28, 29, 30, 31, 32, 33, 34, 35, 36, 37, 38, 39, 40, 41, 42, 43, 44, 45, 46, 47, 48, 49, 50, 51, 52, 53, 54, 55, 56, 57, 58, 59, 60, 61, 62, 63, 64, 65, 66, 67, 68, 69, 70, 71, 72, 73, 74, 75, 76, 77, 78, 79, 80, 81, 82, 83, 84, 85, 86, 87, 88, 89, 90, 91, 92, 93, 94, 95, 96, 97, 98, 99, 100, 101, 102, 103, 104, 105, 106, 107, 108, 109, 110, 111, 112, 113, 114, 115, 116, 117, 118, 119, 120, 121, 122, 123, 124, 125, 126, 127, 128, 129, 130, 131, 132, 133, 134, 135, 136, 137, 138, 139, 140, 141, 142, 143, 144, 145, 146, 147, 148, 149, 150, 151, 152, 153, 154, 155, 156, 157, 158, 159, 160, 161, 162, 163, 164, 165, 166, 167, 168, 169, 170, 171, 172, 173, 174, 175, 176, 177, 178, 179, 180, 181, 182, 183, 184, 185, 186, 187, 188] (by decide +kernel) (by decide +kernel)) (goodIn_sub (fun _ h => List.mem_cons_of_mem _ (List.mem_append_left _ (List.mem_append_right _ h))) (by decide +kernel))) (goodIn_sub (fun _ h => List.mem_cons_of_mem _ (List.mem_append_right _ h)) (by decide +kernel))
set_option maxRecDepth 20000 in
theorem gL_move_X6_move : GoodIn wsL_move (wsV RL 82 RX6 yX6_move wsX6_move) := goodIn_app (goodIn_of _ (by decide +kernel)) ggL_move_X6_move
theorem dL_move_0 : decode cL_move 0 = .ok (.aload 4, 2) := by decide +kernel
theorem dL_move_2 : decode cL_move 2 = .ok (.iconst 0, 1) := by decide +kernel
theorem dL_move_3 : decode cL_move 3 = .ok (.aload_n 0, 1) := by decide +kernel
theorem dL_move_4 : decode cL_move 4 = .ok (.iload_n 1, 1) := by decide +kernel
theorem dL_move_5 : decode cL_move 5 = .ok (.iload_n 2, 1) := by decide +kernel
theorem dL_move_6 : decode cL_move 6 = .ok (.iload_n 3, 1) := by decide +kernel
theorem dL_move_7 : decode cL_move 7 = .ok (.invokevirtual 82, 3) := by decide +kernel
theorem dL_move_10 : decode cL_move 10 = .ok (.ifCond .eq 7, 3) := by decide +kernel
theorem dL_move_13 : decode cL_move 13 = .ok (.lconst 1, 1) := by decide +kernel
theorem dL_move_14 : decode cL_move 14 = .ok (.goto 4, 3) := by decide +kernel
theorem dL_move_17 : decode cL_move 17 = .ok (.lconst 0, 1) := by decide +kernel
theorem dL_move_18 : decode cL_move 18 = .ok (.lastore, 1) := by decide +kernel
theorem dL_move_19 : decode cL_move 19 = .ok (.goto 11, 3) := by decide +kernel
theorem dL_move_22 : decode cL_move 22 = .ok (.astore 5, 2) := by decide +kernel
theorem dL_move_24 : decode cL_move 24 = .ok (.iconst 1, 1) := by decide +kernel
theorem dL_move_25 : decode cL_move 25 = .ok (.ireturn, 1) := by decide +kernel
theorem dL_move_26 : decode cL_move 26 = .ok (.astore 5, 2) := by decide +kernel
theorem dL_move_28 : decode cL_move 28 = .ok (.iconst 2, 1) := by decide +kernel
theorem dL_move_29 : decode cL_move 29 = .ok (.ireturn, 1) := by decide +kernel
theorem dL_move_30 : decode cL_move 30 = .ok (.iconst 0, 1) := by decide +kernel
theorem dL_move_31 : decode cL_move 31 = .ok (.ireturn, 1) := by decide +kernel
set_option maxRecDepth 20000 in
theorem ggL_change_X6_change : GoodIn wsL_change wsX6_change := goodIn_ca (goodIn_ca (goodIn_r _ [7, 8, 9, 10, 11, 12, 13, 6, 14, 15, 16, 17, 18, 19, 20, 21, 22, 23, 24, 25, 26, 27, 28, 29, 30, 31, 32, 33, 34, 35, 36, 37, 38, 39, 40, 41, 42, 43, 44, 45, 46, 47, 48, 49, 50, 51, 52, 53, 54, 55, 56, 57, 58, 59, 60, 61, 62, 63, 64, 65, 66, 67, 68, 69, 70, 71, 72, 73, 74, 75, 76, 77, 78, 79, 80, 81, 82, 83, 84, 85, 86, 87, 88, 89, 90, 91, 92, 93, 94, 95, 96, 97, 98, 99, 100, 101, 102, 103, 104, 105, 106, 107, 108, 109, 110, 111, 112, 113, 114, 115, 116, 117, 118, 119, 120, 121, 122, 123, 124, 125, 126, 127, 128, 129, 130, 131, 132, 133, 134, 135, 136, 137, 138, 139, 140, 141, 142, 143, 144, 145, 146, 147, 148, 149, 150, 151, 152, 153, 154, 155, 156, 157, 158, 159, 160, 161, 162, 163, 164, 165, 166, 167, 168, 169, 170, 171, 172, 173, 174, 175, 176, 177, 178, 179, 180, 181, 182, 183, 184, 185, 186, 187, 188, 189, 190, 191, 192] (by decide +kernel) (by decide +kernel)) (goodIn_sub (fun _ h => List.mem_cons_of_mem _ (List.mem_append_left _ (List.mem_append_right _ h))) (by decide +kernel))) (goodIn_sub (fun _ h => List.mem_cons_of_mem _ (List.mem_append_right _ h)) (by decide +kernel))
set_option maxRecDepth 20000 in
theorem gL_change_X6_change : GoodIn wsL_change (wsV RL 86 RX6 yX6_change wsX6_change) := goodIn_app (goodIn_of _ (by decide +kernel)) ggL_change_X6_change
theorem dL_change_0 : decode cL_change 0 = .ok (.aload_n 3, 1) := by decide +kernel
theorem dL_change_1 : decode cL_change 1 = .ok (.iconst 0, 1) := by decide +kernel
theorem dL_change_2 : decode cL_change 2 = .ok (.aload_n 0, 1) := by decide +kernel
theorem dL_change_3 : decode cL_change 3 = .ok (.iload_n 1, 1) := by decide +kernel
theorem dL_change_4 : decode cL_change 4 = .ok (.iload_n 2, 1) := by decide +kernel
theorem dL_change_5 : decode cL_change 5 = .ok (.invokevirtual 86, 3) := by decide +kernel
theorem dL_change_8 : decode cL_change 8 = .ok (.ifCond .eq 7, 3) := by decide +kernel
theorem dL_change_11 : decode cL_change 11 = .ok (.lconst 1, 1) := by decide +kernel
theorem dL_change_12 : decode cL_change 12 = .ok (.goto 4, 3) := by decide +kernel
theorem dL_change_15 : decode cL_change 15 = .ok (.lconst 0, 1) := by decide +kernel
theorem dL_change_16 : decode cL_change 16 = .ok (.lastore, 1) := by decide +kernel
theorem dL_change_17 : decode cL_change 17 = .ok (.goto 11, 3) := by decide +kernel
theorem dL_change_20 : decode cL_change 20 = .ok (.astore 4, 2) := by decide +kernel
theorem dL_change_22 : decode cL_change 22 = .ok (.iconst 1, 1) := by decide +kernel
theorem dL_change_23 : decode cL_change 23 = .ok (.ireturn, 1) := by decide +kernel
theorem dL_change_24 : decode cL_change 24 = .ok (.astore 4, 2) := by decide +kernel
theorem dL_change_26 : decode cL_change 26 = .ok (.iconst 2, 1) := by decide +kernel
theorem dL_change_27 : decode cL_change 27 = .ok (.ireturn, 1) := by decide +kernel
theorem dL_change_28 : decode cL_change 28 = .ok (.iconst 0, 1) := by decide +kernel
theorem dL_change_29 : decode cL_change 29 = .ok (.ireturn, 1) := by decide +kernel
set_option maxRecDepth 20000 in
theorem ggL_leave_X6_leave : GoodIn wsL_leave wsX6_leave := goodIn_ca (goodIn_ca (goodIn_r _ [7, 8, 9, 10, 11, 12, 13, 14, 6, 15, 16, 17, 18, 19, 20, 21, 22, 23, 24, 25, 26, 27, 28, 29, 30, 31, 32, 33, 34, 35, 36, 37, 38, 39, 40, 41, 42, 43, 44, 45, 46, 47, 48, 49, 50, 51, 52, 53, 54, 55, 56, 57, 58, 59, 60, 61, 62, 63, 64, 65, 66, 67, 68, 69, 70, 71, 72, 73, 74, 75, 76, 77, 78, 79, 80, 81, 82, 83, 84, 85, 86, 87, 88, 89, 90, 91, 92, 93, 94, 95, 96, 97, 98, 99, 100, 101, 102, 103, 104, 105, 106, 107, 108, 109, 110, 111, 112, 113, 114, 115, 116, 117, 118, 119, 120, 121, 122, 123, 124, 125, 126, 127, 128, 129, 130, 131] (by decide +kernel) (by decide +kernel)) (goodIn_sub (fun _ h => List.mem_cons_of_mem _ (List.mem_append_left _ (List.mem_append_right _ h))) (by decide +kernel))) (goodIn_sub (fun _ h => List.mem_cons_of_mem _ (List.mem_append_right _ h)) (by decide +kernel))
set_option maxRecDepth 20000 in
theorem gL_leave_X6_leave : GoodIn wsL_leave (wsV RL 90 RX6 yX6_leave wsX6_leave) := goodIn_app (goodIn_of _ (by decide +kernel)) ggL_leave_X6_leave
theorem dL_leave_0 : decode cL_leave 0 = .ok (.aload_n 2, 1) := by decide +kernel
theorem dL_leave_1 : decode cL_leave 1 = .ok (.iconst 0, 1) := by decide +kernel
theorem dL_leave_2 : decode cL_leave 2 = .ok (.aload_n 0, 1) := by decide +kernel
theorem dL_leave_3 : decode cL_leave 3 = .ok (.iload_n 1, 1) := by decide +kernel
theorem dL_leave_4 : decode cL_leave 4 = .ok (.invokevirtual 90, 3) := by decide +kernel
theorem dL_leave_7 : decode cL_leave 7 = .ok (.i2l, 1) := by decide +kernel
theorem dL_leave_8 : decode cL_leave 8 = .ok (.lastore, 1) := by decide +kernel
theorem dL_leave_9 : decode cL_leave 9 = .ok (.goto 9, 3) := by decide +kernel
theorem dL_leave_12 : decode cL_leave 12 = .ok (.astore_n 3, 1) := by decide +kernel
theorem dL_leave_13 : decode cL_leave 13 = .ok (.iconst 1, 1) := by decide +kernel
theorem dL_leave_14 : decode cL_leave 14 = .ok (.ireturn, 1) := by decide +kernel
theorem dL_leave_15 : decode cL_leave 15 = .ok (.astore_n 3, 1) := by decide +kernel
theorem dL_leave_16 : decode cL_leave 16 = .ok (.iconst 2, 1) := by decide +kernel
theorem dL_leave_17 : decode cL_leave 17 = .ok (.ireturn, 1) := by decide +kernel
theorem dL_leave_18 : decode cL_leave 18 = .ok (.iconst 0, 1) := by decide +kernel
theorem dL_leave_19 : decode cL_leave 19 = .ok (.ireturn, 1) := by decide +kernel
set_option maxRecDepth 20000 in
theorem ggL_hour_X6_hour : GoodIn wsL_hour wsX6_hour := goodIn_ca (goodIn_ca (goodIn_r _ [7, 8, 9, 10, 11, 12, 13, 6, 14, 15, 16, 17, 18, 19, 20, 21, 22, 23, 24, 25, 26, 27, 28, 29, 30, 31, 32, 33, 34, 35] (by decide +kernel) (by decide +kernel)) (goodIn_sub (fun _ h => List.mem_cons_of_mem _ (List.mem_append_left _ (List.mem_append_right _ h))) (by decide +kernel))) (goodIn_sub (fun _ h => List.mem_cons_of_mem _ (List.mem_append_right _ h)) (by decide +kernel))
set_option maxRecDepth 20000 in
theorem gL_hour_X6_hour : GoodIn wsL_hour (wsV RL 93 RX6 yX6_hour wsX6_hour) := goodIn_app (goodIn_of _ (by decide +kernel)) ggL_hour_X6_hour
theorem dL_hour_0 : decode cL_hour 0 = .ok (.aload_n 0, 1) := by decide +kernel
theorem dL_hour_1 : decode cL_hour 1 = .ok (.iload_n 1, 1) := by decide +kernel
theorem dL_hour_2 : decode cL_hour 2 = .ok (.invokevirtual 93, 3) := by decide +kernel
theorem dL_hour_5 : decode cL_hour 5 = .ok (.goto 9, 3) := by decide +kernel
theorem dL_hour_8 : decode cL_hour 8 = .ok (.astore_n 2, 1) := by decide +kernel
theorem dL_hour_9 : decode cL_hour 9 = .ok (.iconst 1, 1) := by decide +kernel
theorem dL_hour_10 : decode cL_hour 10 = .ok (.ireturn, 1) := by decide +kernel
theorem dL_hour_11 : decode cL_hour 11 = .ok (.astore_n 2, 1) := by decide +kernel
theorem dL_hour_12 : decode cL_hour 12 = .ok (.iconst 2, 1) := by decide +kernel
theorem dL_hour_13 : decode cL_hour 13 = .ok (.ireturn, 1) := by decide +kernel
theorem dL_hour_14 : decode cL_hour 14 = .ok (.iconst 0, 1) := by decide +kernel
theorem dL_hour_15 : decode cL_hour 15 = .ok (.ireturn, 1) := by decide +kernel
set_option maxRecDepth 20000 in
theorem ggL_close_X6_close : GoodIn wsL_close wsX6_close := goodIn_ca (goodIn_r _ [6, 7, 8, 9, 10, 11, 12, 13, 14, 5, 15, 16, 17, 18, 19, 20, 21, 22, 23, 24, 25, 26, 27, 28, 29, 30, 31, 32, 33, 34, 35, 36, 37, 38, 39, 40, 41, 42, 43, 44, 45, 46, 47, 48, 49, 50, 51, 52, 53, 54, 55, 56, 57, 58, 59, 60, 61, 62, 63, 64, 65, 66, 67, 68, 69, 70, 71, 72, 73, 74, 75, 76, 77, 78, 79, 80, 81, 82, 83, 84, 85, 86, 87, 88, 89, 90, 91, 92, 93, 94, 95, 96, 97, 98, 99, 100, 101, 102, 103, 104, 105, 106, 107, 108, 109, 110, 111, 112, 113, 114, 115, 116, 117, 118, 119, 120, 121, 122, 123, 124, 125, 126, 127, 128, 129, 130, 131, 132, 133, 134, 135, 136, 137, 138, 139, 140, 141, 142, 143, 144, 145, 146, 147, 148, 149, 150, 151, 152, 153, 154, 155, 156, 157, 158, 159, 160, 161, 162, 163, 164, 165, 166, 167, 168, 169, 170, 171, 172, 173, 174, 175, 176, 177, 178, 179, 180, 181, 182, 183, 184, 185, 186, 187, 188, 189, 190, 191, 192, 193, 194, 195, 196, 197, 198, 199, 200, 201, 202, 203, 204, 205, 206, 207, 208, 209] (by decide +kernel) (by decide +kernel)) (goodIn_sub (fun _ h => List.mem_cons_of_mem _ (List.mem_append_right _ h)) (by decide +kernel))
set_option maxRecDepth 20000 in
theorem gL_close_X6_close : GoodIn wsL_close (wsV RL 97 RX6 yX6_close wsX6_close) := goodIn_app (goodIn_of _ (by decide +kernel)) ggL_close_X6_close
theorem dL_close_0 : decode cL_close 0 = .ok (.aload_n 1, 1) := by decide +kernel
theorem dL_close_1 : decode cL_close 1 = .ok (.iconst 0, 1) := by decide +kernel
theorem dL_close_2 : decode cL_close 2 = .ok (.aload_n 0, 1) := by decide +kernel
theorem dL_close_3 : decode cL_close 3 = .ok (.invokevirtual 97, 3) := by decide +kernel
theorem dL_close_6 : decode cL_close 6 = .ok (.i2l, 1) := by decide +kernel
theorem dL_close_7 : decode cL_close 7 = .ok (.lastore, 1) := by decide +kernel
theorem dL_close_8 : decode cL_close 8 = .ok (.goto 6, 3) := by decide +kernel
theorem dL_close_11 : decode cL_close 11 = .ok (.astore_n 2, 1) := by decide +kernel
theorem dL_close_12 : decode cL_close 12 = .ok (.iconst 1, 1) := by decide +kernel
theorem dL_close_13 : decode cL_close 13 = .ok (.ireturn, 1) := by decide +kernel
theorem dL_close_14 : decode cL_close 14 = .ok (.iconst 0, 1) := by decide +kernel
theorem dL_close_15 : decode cL_close 15 = .ok (.ireturn, 1) := by decide +kernel
set_option maxRecDepth 20000 in
theorem ggL_pay_X6_pay : GoodIn wsL_pay wsX6_pay := goodIn_ca (goodIn_ca (goodIn_r _ [7, 8, 9, 10, 11, 12, 13, 14, 6, 15, 16, 17, 18, 19, 20, 21, 22, 23, 24, 25, 26, 27, 28, 29, 30, 31, 32, 33, 34, 35, 36, 37, 38, 39, 40, 41, 42, 43, 44, 45, 46, 47, 48, 49, 50] (by decide +kernel) (by decide +kernel)) (goodIn_sub (fun _ h => List.mem_cons_of_mem _ (List.mem_append_left _ (List.mem_append_right _ h))) (by decide +kernel))) (goodIn_sub (fun _ h => List.mem_cons_of_mem _ (List.mem_append_right _ h)) (by decide +kernel))
set_option maxRecDepth 20000 in
theorem gL_pay_X6_pay : GoodIn wsL_pay (wsV RL 100 RX6 yX6_pay wsX6_pay) := goodIn_app (goodIn_of _ (by decide +kernel)) ggL_pay_X6_pay
theorem dL_pay_0 : decode cL_pay 0 = .ok (.aload 4, 2) := by decide +kernel
theorem dL_pay_2 : decode cL_pay 2 = .ok (.iconst 0, 1) := by decide +kernel
theorem dL_pay_3 : decode cL_pay 3 = .ok (.aload_n 0, 1) := by decide +kernel
theorem dL_pay_4 : decode cL_pay 4 = .ok (.iload_n 1, 1) := by decide +kernel
theorem dL_pay_5 : decode cL_pay 5 = .ok (.lload_n 2, 1) := by decide +kernel
theorem dL_pay_6 : decode cL_pay 6 = .ok (.invokevirtual 100, 3) := by decide +kernel
theorem dL_pay_9 : decode cL_pay 9 = .ok (.lastore, 1) := by decide +kernel
theorem dL_pay_10 : decode cL_pay 10 = .ok (.goto 11, 3) := by decide +kernel
theorem dL_pay_13 : decode cL_pay 13 = .ok (.astore 5, 2) := by decide +kernel
theorem dL_pay_15 : decode cL_pay 15 = .ok (.iconst 1, 1) := by decide +kernel
theorem dL_pay_16 : decode cL_pay 16 = .ok (.ireturn, 1) := by decide +kernel
theorem dL_pay_17 : decode cL_pay 17 = .ok (.astore 5, 2) := by decide +kernel
theorem dL_pay_19 : decode cL_pay 19 = .ok (.iconst 2, 1) := by decide +kernel
theorem dL_pay_20 : decode cL_pay 20 = .ok (.ireturn, 1) := by decide +kernel
theorem dL_pay_21 : decode cL_pay 21 = .ok (.iconst 0, 1) := by decide +kernel
theorem dL_pay_22 : decode cL_pay 22 = .ok (.ireturn, 1) := by decide +kernel
set_option maxRecDepth 20000 in
theorem ggL_look_X6_look : GoodIn wsL_look wsX6_look := goodIn_ca (goodIn_ca (goodIn_r _ [7, 8, 9, 10, 11, 12, 13, 14, 15, 16, 17, 18, 19, 20, 21, 22, 23, 24, 25, 26, 27, 28, 29, 30, 31, 32, 6, 33, 34, 35, 36, 37, 38, 39, 40, 41, 42, 43, 44, 45, 46, 47, 48, 49, 50, 51, 52, 53, 54, 55, 56, 57, 58, 59, 60, 61, 62, 63, 64, 65, 66, 67, 68, 69, 70, 71, 72, 73, 74, 75, 76, 77, 78, 79, 80, 81, 82, 83, 84, 85, 86, 87, 88, 89, 90, 91, 92, 93, 94, 95, 96, 97, 98, 99, 100, 101, 102, 103, 104, 105, 106, 107] (by decide +kernel) (by decide +kernel)) (goodIn_sub (fun _ h => List.mem_cons_of_mem _ (List.mem_append_left _ (List.mem_append_right _ h))) (by decide +kernel))) (goodIn_sub (fun _ h => List.mem_cons_of_mem _ (List.mem_append_right _ h)) (by decide +kernel))
set_option maxRecDepth 20000 in
theorem gL_look_X6_look : GoodIn wsL_look (wsV RL 104 RX6 yX6_look wsX6_look) := goodIn_app (goodIn_of _ (by decide +kernel)) ggL_look_X6_look
theorem dL_look_0 : decode cL_look 0 = .ok (.aload_n 3, 1) := by decide +kernel
theorem dL_look_1 : decode cL_look 1 = .ok (.iconst 0, 1) := by decide +kernel
theorem dL_look_2 : decode cL_look 2 = .ok (.aload_n 0, 1) := by decide +kernel
theorem dL_look_3 : decode cL_look 3 = .ok (.iload_n 1, 1) := by decide +kernel
theorem dL_look_4 : decode cL_look 4 = .ok (.iload_n 2, 1) := by decide +kernel
theorem dL_look_5 : decode cL_look 5 = .ok (.invokevirtual 104, 3) := by decide +kernel
theorem dL_look_8 : decode cL_look 8 = .ok (.i2l, 1) := by decide +kernel
theorem dL_look_9 : decode cL_look 9 = .ok (.lastore, 1) := by decide +kernel
theorem dL_look_10 : decode cL_look 10 = .ok (.goto 11, 3) := by decide +kernel
theorem dL_look_13 : decode cL_look 13 = .ok (.astore 4, 2) := by decide +kernel
theorem dL_look_15 : decode cL_look 15 = .ok (.iconst 1, 1) := by decide +kernel
theorem dL_look_16 : decode cL_look 16 = .ok (.ireturn, 1) := by decide +kernel
theorem dL_look_17 : decode cL_look 17 = .ok (.astore 4, 2) := by decide +kernel
theorem dL_look_19 : decode cL_look 19 = .ok (.iconst 2, 1) := by decide +kernel
theorem dL_look_20 : decode cL_look 20 = .ok (.ireturn, 1) := by decide +kernel
theorem dL_look_21 : decode cL_look 21 = .ok (.iconst 0, 1) := by decide +kernel
theorem dL_look_22 : decode cL_look 22 = .ok (.ireturn, 1) := by decide +kernel
set_option maxRecDepth 20000 in
theorem ggL_owed_X6_owed : GoodIn wsL_owed wsX6_owed := goodIn_ca (goodIn_r _ [6, 7, 8, 9, 10, 5, 11, 12, 13, 14, 15, 16, 17, 18, 19, 20, 21, 22, 23, 24, 25, 26, 27, 28, 29, 30, 31, 32, 33, 34, 35, 36, 37, 38, 39, 40, 41, 42, 43, 44, 45, 46] (by decide +kernel) (by decide +kernel)) (goodIn_sub (fun _ h => List.mem_cons_of_mem _ (List.mem_append_right _ h)) (by decide +kernel))
set_option maxRecDepth 20000 in
theorem gL_owed_X6_owed : GoodIn wsL_owed (wsV RL 108 RX6 yX6_owed wsX6_owed) := goodIn_app (goodIn_of _ (by decide +kernel)) ggL_owed_X6_owed
theorem dL_owed_0 : decode cL_owed 0 = .ok (.aload_n 2, 1) := by decide +kernel
theorem dL_owed_1 : decode cL_owed 1 = .ok (.iconst 0, 1) := by decide +kernel
theorem dL_owed_2 : decode cL_owed 2 = .ok (.aload_n 0, 1) := by decide +kernel
theorem dL_owed_3 : decode cL_owed 3 = .ok (.iload_n 1, 1) := by decide +kernel
theorem dL_owed_4 : decode cL_owed 4 = .ok (.invokevirtual 108, 3) := by decide +kernel
theorem dL_owed_7 : decode cL_owed 7 = .ok (.lastore, 1) := by decide +kernel
theorem dL_owed_8 : decode cL_owed 8 = .ok (.goto 6, 3) := by decide +kernel
theorem dL_owed_11 : decode cL_owed 11 = .ok (.astore_n 3, 1) := by decide +kernel
theorem dL_owed_12 : decode cL_owed 12 = .ok (.iconst 1, 1) := by decide +kernel
theorem dL_owed_13 : decode cL_owed 13 = .ok (.ireturn, 1) := by decide +kernel
theorem dL_owed_14 : decode cL_owed 14 = .ok (.iconst 0, 1) := by decide +kernel
theorem dL_owed_15 : decode cL_owed 15 = .ok (.ireturn, 1) := by decide +kernel
set_option maxRecDepth 20000 in
theorem ggL_law_X6_init : GoodIn wsL_law wsX6_init := goodIn_r _ [10, 11, 12, 13, 14, 15, 16, 17, 18, 19, 20, 21, 22, 23, 24, 25, 26, 27, 28, 29, 30, 904, 905, 906, 907, 908, 909, 910, 911, 912, 913, 914, 915, 916, 917, 918, 919, 920, 921, 973, 974, 975] (by decide +kernel) (by decide +kernel)
set_option maxRecDepth 20000 in
theorem gL_law_X6_init : GoodIn wsL_law (wsX6_init) := ggL_law_X6_init
set_option maxRecDepth 20000 in
theorem ggL_law_X7_init : GoodIn wsL_law wsX7_init := goodIn_r _ [33, 34, 12, 13, 27, 35, 36, 37, 38, 39, 40, 41, 42, 43, 44, 45, 46, 47, 48, 49, 50, 51, 52, 53, 54, 55, 56, 57, 58, 59, 60, 61, 62, 63, 64, 65, 66, 67, 68, 6, 69, 70, 71, 72, 73, 74, 922, 923, 924, 925, 926, 927, 928, 929, 930, 931, 932, 933, 934, 935, 936, 937, 938, 939, 940, 941, 942, 943, 944, 945, 946, 947, 948, 949, 950, 951, 952, 953, 954, 955, 956, 957, 958, 959, 960, 961, 962, 963, 964, 965, 966, 967, 968, 969, 970, 971, 972] (by decide +kernel) (by decide +kernel)
set_option maxRecDepth 20000 in
theorem gL_law_X7_init : GoodIn wsL_law (wsX7_init) := ggL_law_X7_init
set_option maxRecDepth 20000 in
theorem ggL_law_L_row : GoodIn wsL_law wsL_row := goodIn_ca (goodIn_ca (goodIn_ca (goodIn_r _ [78, 79, 80, 81, 82, 83, 84, 2, 85, 86, 87, 88, 89, 90, 91, 92, 93, 94, 95, 96, 97, 15, 98, 99, 100, 101, 102, 103, 104, 105, 106, 107, 23, 108, 109, 28, 904, 905, 906, 907, 908, 909, 910, 911, 912, 913, 914, 915, 916, 917, 918, 919, 920, 921, 973, 974, 975] (by decide +kernel) (by decide +kernel)) (goodIn_sub (fun _ h => List.mem_append_left _ (List.mem_append_left _ (List.mem_append_left _ (List.mem_append_right _ h)))) (by decide +kernel))) (goodIn_sub (fun _ h => List.mem_append_left _ (List.mem_append_left _ (List.mem_append_right _ h))) (by decide +kernel))) (goodIn_sub (fun _ h => List.mem_append_left _ (List.mem_append_right _ h)) (by decide +kernel))
set_option maxRecDepth 20000 in
theorem gL_law_L_row : GoodIn wsL_law (va_wsS RL 116 yL_row wsL_row) := goodIn_app (goodIn_of _ (by decide +kernel)) ggL_law_L_row
set_option maxRecDepth 20000 in
theorem ggL_law_X7_row : GoodIn wsL_law wsX7_row := goodIn_r _ [113, 114, 115, 35, 37, 116, 117, 5, 118, 119, 120, 121, 122, 922, 923, 924, 925, 926, 927, 928, 929, 930, 931, 932, 933, 934, 935, 936, 937, 938, 939, 940, 941, 942, 943, 944, 945, 946, 947, 948, 949, 950, 951, 952, 953, 954, 955, 956, 957, 958, 959, 960, 961, 962, 963, 964, 965, 966, 967, 968, 969, 970, 971, 972] (by decide +kernel) (by decide +kernel)
set_option maxRecDepth 20000 in
theorem gL_law_X7_row : GoodIn wsL_law (wsV RL 121 RX7 yX7_row wsX7_row) := goodIn_app (goodIn_of _ (by decide +kernel)) ggL_law_X7_row
set_option maxRecDepth 20000 in
theorem ggL_law_X7_thrown : GoodIn wsL_law wsX7_thrown := goodIn_r _ [126, 114, 922, 923, 924, 925, 926, 927, 928, 929, 930, 931, 932, 933, 934, 935, 936, 937, 938, 939, 940, 941, 942, 943, 944, 945, 946, 947, 948, 949, 950, 951, 952, 953, 954, 955, 956, 957, 958, 959, 960, 961, 962, 963, 964, 965, 966, 967, 968, 969, 970, 971, 972] (by decide +kernel) (by decide +kernel)
set_option maxRecDepth 20000 in
theorem gL_law_X7_thrown : GoodIn wsL_law (wsV RL 122 RX7 yX7_thrown wsX7_thrown) := goodIn_app (goodIn_of _ (by decide +kernel)) ggL_law_X7_thrown
set_option maxRecDepth 20000 in
theorem ggL_law_L_mark : GoodIn wsL_law wsL_mark := goodIn_ca (goodIn_ca (goodIn_ca (goodIn_r _ [129, 79, 80, 81, 130, 131, 132, 2, 133, 92, 93, 86, 87, 88, 89, 90, 91, 94, 95, 96, 97, 15, 134, 135, 136, 23, 137, 109, 98, 99, 100, 101, 102, 103, 104, 138, 139, 140, 141, 28, 142, 904, 905, 906, 907, 908, 909, 910, 911, 912, 913, 914, 915, 916, 917, 918, 919, 920, 921, 973, 974, 975] (by decide +kernel) (by decide +kernel)) (goodIn_sub (fun _ h => List.mem_append_left _ (List.mem_append_left _ (List.mem_append_right _ h))) (by decide +kernel))) (goodIn_sub (fun _ h => List.mem_append_left _ (List.mem_append_left _ (List.mem_append_left _ (List.mem_append_right _ h)))) (by decide +kernel))) (goodIn_sub (fun _ h => List.mem_append_left _ (List.mem_append_right _ h)) (by decide +kernel))
set_option maxRecDepth 20000 in
theorem gL_law_L_mark : GoodIn wsL_law (va_wsS RL 125 yL_mark wsL_mark) := goodIn_app (goodIn_of _ (by decide +kernel)) ggL_law_L_mark
set_option maxRecDepth 20000 in
theorem ggL_law_X7_mark : GoodIn wsL_law wsX7_mark := goodIn_r _ [146, 114, 35, 115, 37, 147, 148, 149, 5, 150, 116, 117, 118, 119, 120, 121, 122, 922, 923, 924, 925, 926, 927, 928, 929, 930, 931, 932, 933, 934, 935, 936, 937, 938, 939, 940, 941, 942, 943, 944, 945, 946, 947, 948, 949, 950, 951, 952, 953, 954, 955, 956, 957, 958, 959, 960, 961, 962, 963, 964, 965, 966, 967, 968, 969, 970, 971, 972] (by decide +kernel) (by decide +kernel)
set_option maxRecDepth 20000 in
theorem gL_law_X7_mark : GoodIn wsL_law (wsV RL 128 RX7 yX7_mark wsX7_mark) := goodIn_app (goodIn_of _ (by decide +kernel)) ggL_law_X7_mark
set_option maxRecDepth 20000 in
theorem ggL_law_L_trade : GoodIn wsL_law wsL_trade := goodIn_ca (goodIn_ca (goodIn_r _ [153, 80, 154, 155, 156, 157, 2, 158, 86, 87, 159, 160, 161, 17, 16, 162, 163, 164, 165, 166, 167, 12, 13, 168, 169, 170, 171, 904, 905, 906, 907, 908, 909, 910, 911, 912, 913, 914, 915, 916, 917, 918, 919, 920, 921, 976, 977, 978, 979, 980, 981] (by decide +kernel) (by decide +kernel)) (goodIn_sub (fun _ h => List.mem_append_left _ (List.mem_append_left _ (List.mem_append_left _ (List.mem_append_right _ h)))) (by decide +kernel))) (goodIn_sub (fun _ h => List.mem_append_right _ h) (by decide +kernel))
set_option maxRecDepth 20000 in
theorem gL_law_L_trade : GoodIn wsL_law (va_wsS RL 129 yL_trade wsL_trade) := goodIn_app (goodIn_of _ (by decide +kernel)) ggL_law_L_trade
set_option maxRecDepth 20000 in
theorem ggL_law_X7_trade : GoodIn wsL_law wsX7_trade := goodIn_r _ [175, 114, 176, 38, 39, 41, 119, 120, 121, 5, 122, 922, 923, 924, 925, 926, 927, 928, 929, 930, 931, 932, 933, 934, 935, 936, 937, 938, 939, 940, 941, 942, 943, 944, 945, 946, 947, 948, 949, 950, 951, 952, 953, 954, 955, 956, 957, 958, 959, 960, 961, 962, 963, 964, 965, 966, 967, 968, 969, 970, 971, 972] (by decide +kernel) (by decide +kernel)
set_option maxRecDepth 20000 in
theorem gL_law_X7_trade : GoodIn wsL_law (wsV RL 132 RX7 yX7_trade wsX7_trade) := goodIn_app (goodIn_of _ (by decide +kernel)) ggL_law_X7_trade
set_option maxRecDepth 20000 in
theorem ggL_law_L_pair : GoodIn wsL_law wsL_pair := goodIn_ca (goodIn_ca (goodIn_r _ [179, 79, 81, 180, 181, 182, 2, 183, 184, 185, 186, 187, 92, 93, 17, 98, 99, 100, 101, 102, 103, 104, 188, 189, 190, 163, 191, 192, 168, 193, 194, 195, 196, 904, 905, 906, 907, 908, 909, 910, 911, 912, 913, 914, 915, 916, 917, 918, 919, 920, 921, 976, 977, 978, 979, 980, 981] (by decide +kernel) (by decide +kernel)) (goodIn_sub (fun _ h => List.mem_append_left _ (List.mem_append_left _ (List.mem_append_right _ h))) (by decide +kernel))) (goodIn_sub (fun _ h => List.mem_append_left _ (List.mem_append_right _ h)) (by decide +kernel))
set_option maxRecDepth 20000 in
theorem gL_law_L_pair : GoodIn wsL_law (va_wsS RL 133 yL_pair wsL_pair) := goodIn_app (goodIn_of _ (by decide +kernel)) ggL_law_L_pair
set_option maxRecDepth 20000 in
theorem ggL_law_X7_pair : GoodIn wsL_law wsX7_pair := goodIn_r _ [200, 114, 115, 42, 201, 202, 203, 5, 204, 176, 119, 120, 121, 122, 922, 923, 924, 925, 926, 927, 928, 929, 930, 931, 932, 933, 934, 935, 936, 937, 938, 939, 940, 941, 942, 943, 944, 945, 946, 947, 948, 949, 950, 951, 952, 953, 954, 955, 956, 957, 958, 959, 960, 961, 962, 963, 964, 965, 966, 967, 968, 969, 970, 971, 972] (by decide +kernel) (by decide +kernel)
set_option maxRecDepth 20000 in
theorem gL_law_X7_pair : GoodIn wsL_law (wsV RL 135 RX7 yX7_pair wsX7_pair) := goodIn_app (goodIn_of _ (by decide +kernel)) ggL_law_X7_pair
set_option maxRecDepth 20000 in
theorem ggL_law_L_trader : GoodIn wsL_law wsL_trader := goodIn_ca (goodIn_ca (goodIn_ca (goodIn_r _ [207, 79, 80, 154, 208, 209, 210, 2, 211, 86, 87, 159, 160, 212, 18, 213, 214, 215, 19, 20, 184, 185, 186, 187, 92, 93, 17, 216, 217, 218, 219, 12, 13, 220, 221, 222, 223, 224, 225, 226, 227, 228, 229, 230, 231, 232, 233, 234, 235, 236, 237, 238, 239, 240, 241, 242, 243, 244, 27, 245, 246, 247, 248, 249, 250, 251, 904, 905, 906, 907, 908, 909, 910, 911, 912, 913, 914, 915, 916, 917, 918, 919, 920, 921, 982, 983, 984, 985, 986, 987, 988, 989, 990, 991, 992, 993, 994, 995, 996, 997, 998, 999, 1000, 1001, 1002, 1003, 1004, 1005, 1006, 1007, 1008, 1009, 1010] (by decide +kernel) (by decide +kernel)) (goodIn_sub (fun _ h => List.mem_append_left _ (List.mem_append_left _ (List.mem_append_left _ (List.mem_append_right _ h)))) (by decide +kernel))) (goodIn_sub (fun _ h => List.mem_append_right _ h) (by decide +kernel))) (goodIn_sub (fun _ h => List.mem_append_left _ (List.mem_append_left _ (List.mem_append_right _ h))) (by decide +kernel))
set_option maxRecDepth 20000 in
theorem gL_law_L_trader : GoodIn wsL_law (va_wsS RL 136 yL_trader wsL_trader) := goodIn_app (goodIn_of _ (by decide +kernel)) ggL_law_L_trader
set_option maxRecDepth 20000 in
theorem ggL_law_X7_trader : GoodIn wsL_law wsX7_trader := goodIn_r _ [255, 114, 256, 43, 44, 45, 46, 257, 50, 68, 201, 202, 203, 5, 204, 176, 119, 120, 121, 122, 922, 923, 924, 925, 926, 927, 928, 929, 930, 931, 932, 933, 934, 935, 936, 937, 938, 939, 940, 941, 942, 943, 944, 945, 946, 947, 948, 949, 950, 951, 952, 953, 954, 955, 956, 957, 958, 959, 960, 961, 962, 963, 964, 965, 966, 967, 968, 969, 970, 971, 972] (by decide +kernel) (by decide +kernel)
set_option maxRecDepth 20000 in
theorem gL_law_X7_trader : GoodIn wsL_law (wsV RL 139 RX7 yX7_trader wsX7_trader) := goodIn_app (goodIn_of _ (by decide +kernel)) ggL_law_X7_trader
set_option maxRecDepth 20000 in
theorem ggL_law_L_pitch : GoodIn wsL_law wsL_pitch := goodIn_ca (goodIn_ca (goodIn_ca (goodIn_r _ [260, 79, 80, 81, 261, 262, 263, 2, 264, 86, 87, 265, 266, 267, 268, 269, 270, 92, 93, 19, 98, 99, 100, 101, 102, 103, 104, 271, 272, 273, 222, 274, 275, 276, 277, 982, 983, 984, 985, 986, 987, 988, 989, 990, 991, 992, 993, 994, 995, 904, 905, 906, 907, 908, 909, 910, 911, 912, 913, 914, 915, 916, 917, 918, 919, 920, 921, 996, 997, 998] (by decide +kernel) (by decide +kernel)) (goodIn_sub (fun _ h => List.mem_append_left _ (List.mem_append_left _ (List.mem_append_left _ (List.mem_append_right _ h)))) (by decide +kernel))) (goodIn_sub (fun _ h => List.mem_append_left _ (List.mem_append_left _ (List.mem_append_right _ h))) (by decide +kernel))) (goodIn_sub (fun _ h => List.mem_append_left _ (List.mem_append_right _ h)) (by decide +kernel))
set_option maxRecDepth 20000 in
theorem gL_law_L_pitch : GoodIn wsL_law (va_wsS RL 140 yL_pitch wsL_pitch) := goodIn_app (goodIn_of _ (by decide +kernel)) ggL_law_L_pitch
set_option maxRecDepth 20000 in
theorem ggL_law_X7_pitch : GoodIn wsL_law wsX7_pitch := goodIn_r _ [281, 114, 43, 115, 47, 48, 49, 282, 283, 284, 5, 285, 256, 119, 120, 121, 122, 922, 923, 924, 925, 926, 927, 928, 929, 930, 931, 932, 933, 934, 935, 936, 937, 938, 939, 940, 941, 942, 943, 944, 945, 946, 947, 948, 949, 950, 951, 952, 953, 954, 955, 956, 957, 958, 959, 960, 961, 962, 963, 964, 965, 966, 967, 968, 969, 970, 971, 972] (by decide +kernel) (by decide +kernel)
set_option maxRecDepth 20000 in
theorem gL_law_X7_pitch : GoodIn wsL_law (wsV RL 143 RX7 yX7_pitch wsX7_pitch) := goodIn_app (goodIn_of _ (by decide +kernel)) ggL_law_X7_pitch
set_option maxRecDepth 20000 in
theorem ggL_law_L_months : GoodIn wsL_law wsL_months := goodIn_ca (goodIn_ca (goodIn_ca (goodIn_r _ [288, 79, 80, 81, 289, 290, 291, 2, 292, 86, 87, 265, 293, 267, 268, 269, 270, 92, 93, 19, 98, 99, 100, 101, 102, 103, 104, 982, 983, 984, 985, 986, 987, 988, 989, 990, 991, 992, 993, 994, 995, 904, 905, 906, 907, 908, 909, 910, 911, 912, 913, 914, 915, 916, 917, 918, 919, 920, 921] (by decide +kernel) (by decide +kernel)) (goodIn_sub (fun _ h => List.mem_append_left _ (List.mem_append_left _ (List.mem_append_left _ (List.mem_append_right _ h)))) (by decide +kernel))) (goodIn_sub (fun _ h => List.mem_append_left _ (List.mem_append_left _ (List.mem_append_right _ h))) (by decide +kernel))) (goodIn_sub (fun _ h => List.mem_append_left _ (List.mem_append_right _ h)) (by decide +kernel))
set_option maxRecDepth 20000 in
theorem gL_law_L_months : GoodIn wsL_law (va_wsS RL 144 yL_months wsL_months) := goodIn_app (goodIn_of _ (by decide +kernel)) ggL_law_L_months
set_option maxRecDepth 20000 in
theorem ggL_law_X7_months : GoodIn wsL_law wsX7_months := goodIn_r _ [297, 114, 43, 115, 50, 282, 283, 284, 5, 285, 256, 119, 120, 121, 122, 922, 923, 924, 925, 926, 927, 928, 929, 930, 931, 932, 933, 934, 935, 936, 937, 938, 939, 940, 941, 942, 943, 944, 945, 946, 947, 948, 949, 950, 951, 952, 953, 954, 955, 956, 957, 958, 959, 960, 961, 962, 963, 964, 965, 966, 967, 968, 969, 970, 971, 972] (by decide +kernel) (by decide +kernel)
set_option maxRecDepth 20000 in
theorem gL_law_X7_months : GoodIn wsL_law (wsV RL 146 RX7 yX7_months wsX7_months) := goodIn_app (goodIn_of _ (by decide +kernel)) ggL_law_X7_months
set_option maxRecDepth 20000 in
theorem ggL_law_L_wish : GoodIn wsL_law wsL_wish := goodIn_ca (goodIn_r _ [300, 79, 301, 302, 303, 2, 304, 305, 267, 268, 269, 270, 92, 93, 19, 306, 307, 308, 226, 309, 310, 245, 246, 982, 983, 984, 985, 986, 987, 988, 989, 990, 991, 992, 993, 994, 995, 904, 905, 906, 907, 908, 909, 910, 911, 912, 913, 914, 915, 916, 917, 918, 919, 920, 921, 999, 1000, 1001, 1002] (by decide +kernel) (by decide +kernel)) (goodIn_sub (fun _ h => List.mem_append_left _ (List.mem_append_left _ (List.mem_append_right _ h))) (by decide +kernel))
set_option maxRecDepth 20000 in
theorem gL_law_L_wish : GoodIn wsL_law (va_wsS RL 147 yL_wish wsL_wish) := goodIn_app (goodIn_of _ (by decide +kernel)) ggL_law_L_wish
set_option maxRecDepth 20000 in
theorem ggL_law_X7_wish : GoodIn wsL_law wsX7_wish := goodIn_r _ [314, 114, 53, 51, 52, 282, 283, 284, 5, 285, 256, 119, 120, 121, 122, 922, 923, 924, 925, 926, 927, 928, 929, 930, 931, 932, 933, 934, 935, 936, 937, 938, 939, 940, 941, 942, 943, 944, 945, 946, 947, 948, 949, 950, 951, 952, 953, 954, 955, 956, 957, 958, 959, 960, 961, 962, 963, 964, 965, 966, 967, 968, 969, 970, 971, 972] (by decide +kernel) (by decide +kernel)
set_option maxRecDepth 20000 in
theorem gL_law_X7_wish : GoodIn wsL_law (wsV RL 149 RX7 yX7_wish wsX7_wish) := goodIn_app (goodIn_of _ (by decide +kernel)) ggL_law_X7_wish
set_option maxRecDepth 20000 in
theorem ggL_law_L_wishes : GoodIn wsL_law wsL_wishes := goodIn_ca (goodIn_r _ [317, 79, 318, 319, 320, 2, 321, 305, 267, 268, 269, 270, 92, 93, 19, 322, 323, 324, 226, 325, 310, 326, 982, 983, 984, 985, 986, 987, 988, 989, 990, 991, 992, 993, 994, 995, 904, 905, 906, 907, 908, 909, 910, 911, 912, 913, 914, 915, 916, 917, 918, 919, 920, 921, 999, 1000, 1001, 1002] (by decide +kernel) (by decide +kernel)) (goodIn_sub (fun _ h => List.mem_append_left _ (List.mem_append_left _ (List.mem_append_right _ h))) (by decide +kernel))
set_option maxRecDepth 20000 in
theorem gL_law_L_wishes : GoodIn wsL_law (va_wsS RL 150 yL_wishes wsL_wishes) := goodIn_app (goodIn_of _ (by decide +kernel)) ggL_law_L_wishes
set_option maxRecDepth 20000 in
theorem ggL_law_X7_wishes : GoodIn wsL_law wsX7_wishes := goodIn_r _ [330, 114, 53, 54, 282, 283, 284, 5, 285, 256, 119, 120, 121, 122, 922, 923, 924, 925, 926, 927, 928, 929, 930, 931, 932, 933, 934, 935, 936, 937, 938, 939, 940, 941, 942, 943, 944, 945, 946, 947, 948, 949, 950, 951, 952, 953, 954, 955, 956, 957, 958, 959, 960, 961, 962, 963, 964, 965, 966, 967, 968, 969, 970, 971, 972] (by decide +kernel) (by decide +kernel)
set_option maxRecDepth 20000 in
theorem gL_law_X7_wishes : GoodIn wsL_law (wsV RL 153 RX7 yX7_wishes wsX7_wishes) := goodIn_app (goodIn_of _ (by decide +kernel)) ggL_law_X7_wishes
set_option maxRecDepth 20000 in
theorem ggL_law_L_want : GoodIn wsL_law wsL_want := goodIn_ca (goodIn_r _ [333, 79, 334, 335, 336, 2, 337, 338, 267, 268, 269, 270, 92, 93, 19, 982, 983, 984, 985, 986, 987, 988, 989, 990, 991, 992, 993, 994, 995, 904, 905, 906, 907, 908, 909, 910, 911, 912, 913, 914, 915, 916, 917, 918, 919, 920, 921] (by decide +kernel) (by decide +kernel)) (goodIn_sub (fun _ h => List.mem_append_left _ (List.mem_append_left _ (List.mem_append_right _ h))) (by decide +kernel))
set_option maxRecDepth 20000 in
theorem gL_law_L_want : GoodIn wsL_law (va_wsS RL 154 yL_want wsL_want) := goodIn_app (goodIn_of _ (by decide +kernel)) ggL_law_L_want
set_option maxRecDepth 20000 in
theorem ggL_law_X7_want : GoodIn wsL_law wsX7_want := goodIn_r _ [342, 114, 55, 282, 283, 284, 5, 285, 256, 119, 120, 121, 122, 922, 923, 924, 925, 926, 927, 928, 929, 930, 931, 932, 933, 934, 935, 936, 937, 938, 939, 940, 941, 942, 943, 944, 945, 946, 947, 948, 949, 950, 951, 952, 953, 954, 955, 956, 957, 958, 959, 960, 961, 962, 963, 964, 965, 966, 967, 968, 969, 970, 971, 972] (by decide +kernel) (by decide +kernel)
set_option maxRecDepth 20000 in
theorem gL_law_X7_want : GoodIn wsL_law (wsV RL 156 RX7 yX7_want wsX7_want) := goodIn_app (goodIn_of _ (by decide +kernel)) ggL_law_X7_want
set_option maxRecDepth 20000 in
theorem ggL_law_L_day : GoodIn wsL_law wsL_day := goodIn_ca (goodIn_ca (goodIn_r _ [345, 80, 81, 346, 347, 348, 2, 349, 86, 87, 350, 351, 104, 352, 98, 99, 100, 101, 102, 103, 904, 905, 906, 907, 908, 909, 910, 911, 912, 913, 914, 915, 916, 917, 918, 919, 920, 921] (by decide +kernel) (by decide +kernel)) (goodIn_sub (fun _ h => List.mem_append_left _ (List.mem_append_left _ (List.mem_append_left _ (List.mem_append_right _ h)))) (by decide +kernel))) (goodIn_sub (fun _ h => List.mem_append_left _ (List.mem_append_right _ h)) (by decide +kernel))
set_option maxRecDepth 20000 in
theorem gL_law_L_day : GoodIn wsL_law (va_wsS RL 157 yL_day wsL_day) := goodIn_app (goodIn_of _ (by decide +kernel)) ggL_law_L_day
set_option maxRecDepth 20000 in
theorem ggL_law_X7_day : GoodIn wsL_law wsX7_day := goodIn_r _ [356, 114, 115, 357, 358, 359, 119, 120, 121, 5, 122, 360, 361, 362, 363, 56, 57, 58, 59, 60, 61, 922, 923, 924, 925, 926, 927, 928, 929, 930, 931, 932, 933, 934, 935, 936, 937, 938, 939, 940, 941, 942, 943, 944, 945, 946, 947, 948, 949, 950, 951, 952, 953, 954, 955, 956, 957, 958, 959, 960, 961, 962, 963, 964, 965, 966, 967, 968, 969, 970, 971, 972] (by decide +kernel) (by decide +kernel)
set_option maxRecDepth 20000 in
theorem gL_law_X7_day : GoodIn wsL_law (wsV RL 160 RX7 yX7_day wsX7_day) := goodIn_app (goodIn_of _ (by decide +kernel)) ggL_law_X7_day
set_option maxRecDepth 20000 in
theorem ggL_law_L_there : GoodIn wsL_law wsL_there := goodIn_ca (goodIn_ca (goodIn_r _ [366, 79, 81, 367, 368, 369, 2, 370, 371, 372, 373, 267, 268, 269, 270, 92, 93, 19, 98, 99, 100, 101, 102, 103, 104, 982, 983, 984, 985, 986, 987, 988, 989, 990, 991, 992, 993, 994, 995, 1003, 1004, 1005, 1006, 1007, 1008, 1009, 1010, 904, 905, 906, 907, 908, 909, 910, 911, 912, 913, 914, 915, 916, 917, 918, 919, 920, 921] (by decide +kernel) (by decide +kernel)) (goodIn_sub (fun _ h => List.mem_append_left _ (List.mem_append_left _ (List.mem_append_right _ h))) (by decide +kernel))) (goodIn_sub (fun _ h => List.mem_append_left _ (List.mem_append_right _ h)) (by decide +kernel))
set_option maxRecDepth 20000 in
theorem gL_law_L_there : GoodIn wsL_law (va_wsS RL 161 yL_there wsL_there) := goodIn_app (goodIn_of _ (by decide +kernel)) ggL_law_L_there
set_option maxRecDepth 20000 in
theorem ggL_law_X7_there : GoodIn wsL_law wsX7_there := goodIn_r _ [377, 114, 115, 56, 282, 283, 284, 5, 285, 256, 119, 120, 121, 122, 922, 923, 924, 925, 926, 927, 928, 929, 930, 931, 932, 933, 934, 935, 936, 937, 938, 939, 940, 941, 942, 943, 944, 945, 946, 947, 948, 949, 950, 951, 952, 953, 954, 955, 956, 957, 958, 959, 960, 961, 962, 963, 964, 965, 966, 967, 968, 969, 970, 971, 972] (by decide +kernel) (by decide +kernel)
set_option maxRecDepth 20000 in
theorem gL_law_X7_there : GoodIn wsL_law (wsV RL 163 RX7 yX7_there wsX7_there) := goodIn_app (goodIn_of _ (by decide +kernel)) ggL_law_X7_there
set_option maxRecDepth 20000 in
theorem ggL_law_L_word : GoodIn wsL_law wsL_word := goodIn_ca (goodIn_ca (goodIn_r _ [380, 79, 81, 381, 382, 383, 2, 384, 371, 372, 373, 267, 268, 269, 270, 92, 93, 19, 98, 99, 100, 101, 102, 103, 104, 982, 983, 984, 985, 986, 987, 988, 989, 990, 991, 992, 993, 994, 995, 1003, 1004, 1005, 1006, 1007, 1008, 1009, 1010, 904, 905, 906, 907, 908, 909, 910, 911, 912, 913, 914, 915, 916, 917, 918, 919, 920, 921] (by decide +kernel) (by decide +kernel)) (goodIn_sub (fun _ h => List.mem_append_left _ (List.mem_append_left _ (List.mem_append_right _ h))) (by decide +kernel))) (goodIn_sub (fun _ h => List.mem_append_left _ (List.mem_append_right _ h)) (by decide +kernel))
set_option maxRecDepth 20000 in
theorem gL_law_L_word : GoodIn wsL_law (va_wsS RL 164 yL_word wsL_word) := goodIn_app (goodIn_of _ (by decide +kernel)) ggL_law_L_word
set_option maxRecDepth 20000 in
theorem ggL_law_X7_word : GoodIn wsL_law wsX7_word := goodIn_r _ [388, 114, 115, 57, 56, 282, 283, 284, 5, 285, 256, 119, 120, 121, 122, 922, 923, 924, 925, 926, 927, 928, 929, 930, 931, 932, 933, 934, 935, 936, 937, 938, 939, 940, 941, 942, 943, 944, 945, 946, 947, 948, 949, 950, 951, 952, 953, 954, 955, 956, 957, 958, 959, 960, 961, 962, 963, 964, 965, 966, 967, 968, 969, 970, 971, 972] (by decide +kernel) (by decide +kernel)
set_option maxRecDepth 20000 in
theorem gL_law_X7_word : GoodIn wsL_law (wsV RL 166 RX7 yX7_word wsX7_word) := goodIn_app (goodIn_of _ (by decide +kernel)) ggL_law_X7_word
set_option maxRecDepth 20000 in
theorem ggL_law_L_bell : GoodIn wsL_law wsL_bell := goodIn_ca (goodIn_r _ [391, 81, 392, 393, 394, 2, 395, 104, 98, 99, 100, 101, 102, 103, 396, 397, 398, 399, 212, 20, 266, 400, 371, 372, 401, 402, 403, 404, 405, 406, 407, 408, 265, 94, 95, 96, 97, 15, 409, 410, 411, 23, 412, 109, 413, 414, 415, 416, 28, 142, 135, 136, 137, 417, 418, 419, 420, 421, 422, 423, 424, 425, 30, 426, 427, 428, 429, 430, 431, 432, 433, 434, 435, 436, 437, 438, 439, 440, 441, 442, 188, 189, 190, 163, 191, 192, 168, 443, 444, 445, 446, 447, 448, 449, 450, 451, 452, 453, 454, 455, 456, 350, 457, 458, 459, 214, 460, 232, 461, 462, 463, 464, 465, 466, 467, 468, 469, 351, 470, 471, 472, 473, 474, 475, 476, 477, 478, 479, 271, 272, 273, 222, 274, 275, 276, 277, 904, 905, 906, 907, 908, 909, 910, 911, 912, 913, 914, 915, 916, 917, 918, 919, 920, 921, 982, 983, 984, 985, 986, 987, 988, 989, 990, 991, 992, 993, 994, 995, 996, 997, 998, 1003, 1004, 1005, 1006, 1007, 1008, 1009, 1010, 973, 974, 975, 976, 977, 978, 979, 980, 981] (by decide +kernel) (by decide +kernel)) (goodIn_sub (fun _ h => List.mem_append_left _ (List.mem_append_right _ h)) (by decide +kernel))
set_option maxRecDepth 20000 in
theorem gL_law_L_bell : GoodIn wsL_law (va_wsS RL 167 yL_bell wsL_bell) := goodIn_app (goodIn_of _ (by decide +kernel)) ggL_law_L_bell
set_option maxRecDepth 20000 in
theorem ggL_law_X7_bell : GoodIn wsL_law wsX7_bell := goodIn_r _ [483, 114, 115, 256, 73, 47, 56, 48, 49, 58, 119, 120, 121, 5, 122, 484, 485, 486, 487, 46, 488, 489, 490, 491, 43, 492, 493, 494, 495, 45, 35, 147, 148, 149, 150, 116, 117, 118, 496, 497, 498, 499, 37, 500, 501, 502, 503, 62, 504, 505, 506, 507, 508, 509, 510, 511, 63, 64, 512, 513, 514, 515, 516, 517, 518, 519, 42, 44, 520, 521, 522, 523, 524, 525, 526, 527, 528, 529, 530, 531, 41, 532, 533, 534, 535, 536, 537, 538, 539, 39, 540, 541, 542, 543, 50, 357, 544, 545, 546, 547, 61, 65, 358, 922, 923, 924, 925, 926, 927, 928, 929, 930, 931, 932, 933, 934, 935, 936, 937, 938, 939, 940, 941, 942, 943, 944, 945, 946, 947, 948, 949, 950, 951, 952, 953, 954, 955, 956, 957, 958, 959, 960, 961, 962, 963, 964, 965, 966, 967, 968, 969, 970, 971, 972] (by decide +kernel) (by decide +kernel)
set_option maxRecDepth 20000 in
theorem gL_law_X7_bell : GoodIn wsL_law (wsV RL 170 RX7 yX7_bell wsX7_bell) := goodIn_app (goodIn_of _ (by decide +kernel)) ggL_law_X7_bell
set_option maxRecDepth 20000 in
theorem ggL_law_L_why : GoodIn wsL_law wsL_why := goodIn_ca (goodIn_r _ [550, 79, 551, 552, 553, 2, 554, 267, 268, 269, 270, 92, 93, 19, 404, 405, 406, 407, 408, 265, 94, 95, 96, 97, 15, 409, 410, 411, 23, 412, 109, 413, 414, 415, 416, 28, 142, 135, 136, 137, 417, 418, 419, 420, 421, 422, 423, 424, 425, 30, 426, 427, 428, 429, 430, 371, 431, 400, 432, 433, 434, 435, 436, 437, 438, 439, 440, 441, 442, 188, 189, 190, 163, 191, 192, 168, 443, 444, 445, 446, 447, 448, 449, 450, 451, 452, 453, 454, 455, 456, 350, 457, 458, 459, 214, 460, 232, 461, 462, 463, 464, 465, 904, 905, 906, 907, 908, 909, 910, 911, 912, 913, 914, 915, 916, 917, 918, 919, 920, 921, 982, 983, 984, 985, 986, 987, 988, 989, 990, 991, 992, 993, 994, 995, 973, 974, 975, 976, 977, 978, 979, 980, 981, 1003, 1004, 1005, 1006, 1007, 1008, 1009, 1010, 996, 997, 998] (by decide +kernel) (by decide +kernel)) (goodIn_sub (fun _ h => List.mem_append_left _ (List.mem_append_left _ (List.mem_append_right _ h))) (by decide +kernel))
set_option maxRecDepth 20000 in
theorem gL_law_L_why : GoodIn wsL_law (va_wsS RL 171 yL_why wsL_why) := goodIn_app (goodIn_of _ (by decide +kernel)) ggL_law_L_why
set_option maxRecDepth 20000 in
theorem ggL_law_X7_why : GoodIn wsL_law wsX7_why := goodIn_r _ [558, 114, 282, 283, 284, 5, 285, 256, 119, 120, 121, 122, 488, 489, 490, 491, 43, 492, 493, 494, 495, 45, 35, 147, 148, 149, 150, 116, 117, 118, 496, 497, 498, 499, 37, 500, 501, 502, 503, 62, 504, 505, 506, 507, 508, 509, 510, 511, 63, 64, 512, 513, 514, 515, 516, 517, 518, 519, 42, 44, 520, 521, 522, 523, 524, 525, 526, 527, 528, 529, 530, 531, 41, 532, 533, 534, 535, 536, 537, 538, 539, 39, 540, 541, 542, 543, 50, 357, 922, 923, 924, 925, 926, 927, 928, 929, 930, 931, 932, 933, 934, 935, 936, 937, 938, 939, 940, 941, 942, 943, 944, 945, 946, 947, 948, 949, 950, 951, 952, 953, 954, 955, 956, 957, 958, 959, 960, 961, 962, 963, 964, 965, 966, 967, 968, 969, 970, 971, 972] (by decide +kernel) (by decide +kernel)
set_option maxRecDepth 20000 in
theorem gL_law_X7_why : GoodIn wsL_law (wsV RL 173 RX7 yX7_why wsX7_why) := goodIn_app (goodIn_of _ (by decide +kernel)) ggL_law_X7_why
set_option maxRecDepth 20000 in
theorem ggL_law_L_good : GoodIn wsL_law wsL_good := goodIn_ca (goodIn_r _ [561, 79, 562, 563, 564, 2, 565, 267, 268, 269, 270, 92, 93, 19, 566, 567, 568, 569, 305, 570, 571, 572, 573, 426, 427, 428, 429, 430, 371, 431, 400, 432, 433, 434, 435, 453, 454, 455, 456, 265, 350, 457, 458, 459, 214, 460, 232, 461, 462, 463, 464, 465, 404, 405, 406, 407, 408, 94, 95, 96, 97, 15, 409, 410, 411, 23, 412, 109, 413, 414, 415, 416, 28, 142, 135, 136, 137, 417, 418, 419, 420, 421, 422, 423, 424, 425, 30, 436, 437, 438, 439, 440, 441, 442, 188, 189, 190, 163, 191, 192, 168, 443, 444, 445, 446, 447, 448, 449, 450, 451, 452, 574, 575, 576, 577, 578, 579, 580, 581, 582, 583, 904, 905, 906, 907, 908, 909, 910, 911, 912, 913, 914, 915, 916, 917, 918, 919, 920, 921, 982, 983, 984, 985, 986, 987, 988, 989, 990, 991, 992, 993, 994, 995, 999, 1000, 1001, 1002, 976, 977, 978, 979, 980, 981, 1003, 1004, 1005, 1006, 1007, 1008, 1009, 1010, 996, 997, 998, 973, 974, 975] (by decide +kernel) (by decide +kernel)) (goodIn_sub (fun _ h => List.mem_append_left _ (List.mem_append_left _ (List.mem_append_right _ h))) (by decide +kernel))
set_option maxRecDepth 20000 in
theorem gL_law_L_good : GoodIn wsL_law (va_wsS RL 174 yL_good wsL_good) := goodIn_app (goodIn_of _ (by decide +kernel)) ggL_law_L_good
set_option maxRecDepth 20000 in
theorem ggL_law_X7_good : GoodIn wsL_law wsX7_good := goodIn_r _ [587, 114, 282, 283, 284, 5, 285, 256, 119, 120, 121, 122, 588, 589, 590, 591, 53, 51, 52, 54, 488, 489, 490, 491, 43, 492, 493, 494, 495, 45, 35, 147, 148, 149, 150, 116, 117, 118, 496, 497, 498, 499, 37, 500, 501, 502, 503, 62, 504, 505, 506, 507, 508, 509, 510, 511, 63, 64, 512, 513, 514, 515, 516, 517, 518, 519, 42, 44, 520, 521, 522, 523, 524, 525, 526, 527, 528, 529, 530, 531, 41, 532, 533, 534, 535, 536, 537, 538, 539, 39, 540, 541, 542, 543, 50, 357, 592, 593, 594, 595, 70, 596, 597, 598, 599, 71, 922, 923, 924, 925, 926, 927, 928, 929, 930, 931, 932, 933, 934, 935, 936, 937, 938, 939, 940, 941, 942, 943, 944, 945, 946, 947, 948, 949, 950, 951, 952, 953, 954, 955, 956, 957, 958, 959, 960, 961, 962, 963, 964, 965, 966, 967, 968, 969, 970, 971, 972] (by decide +kernel) (by decide +kernel)
set_option maxRecDepth 20000 in
theorem gL_law_X7_good : GoodIn wsL_law (wsV RL 176 RX7 yX7_good wsX7_good) := goodIn_app (goodIn_of _ (by decide +kernel)) ggL_law_X7_good
set_option maxRecDepth 20000 in
theorem ggL_law_L_next : GoodIn wsL_law wsL_next := goodIn_ca (goodIn_r _ [602, 81, 603, 604, 605, 2, 606, 21, 607, 371, 608, 98, 99, 100, 101, 102, 103, 104, 609, 610, 611, 612, 212, 20, 613, 614, 615, 214, 616, 231, 617, 618, 619, 620, 621, 622, 623, 624, 625, 626, 627, 403, 628, 629, 630, 631, 632, 633, 634, 635, 636, 637, 638, 639, 640, 641, 642, 643, 644, 645, 646, 566, 567, 568, 569, 305, 570, 571, 572, 573, 426, 427, 428, 429, 430, 431, 400, 432, 433, 434, 435, 453, 454, 455, 456, 265, 350, 457, 458, 459, 460, 232, 461, 462, 463, 464, 465, 404, 405, 406, 407, 408, 94, 95, 96, 97, 15, 409, 410, 411, 23, 412, 109, 413, 414, 415, 416, 28, 142, 135, 136, 137, 417, 418, 419, 420, 421, 422, 423, 424, 425, 30, 436, 437, 438, 439, 440, 441, 442, 188, 189, 190, 163, 191, 192, 168, 443, 444, 445, 446, 447, 448, 449, 450, 451, 452, 574, 575, 576, 577, 578, 579, 580, 581, 582, 583, 466, 467, 468, 469, 351, 470, 471, 472, 473, 474, 475, 476, 477, 478, 479, 271, 272, 273, 222, 274, 275, 276, 277, 904, 905, 906, 907, 908, 909, 910, 911, 912, 913, 914, 915, 916, 917, 918, 919, 920, 921, 982, 983, 984, 985, 986, 987, 988, 989, 990, 991, 992, 993, 994, 995, 1003, 1004, 1005, 1006, 1007, 1008, 1009, 1010, 996, 997, 998, 999, 1000, 1001, 1002, 976, 977, 978, 979, 980, 981, 973, 974, 975] (by decide +kernel) (by decide +kernel)) (goodIn_sub (fun _ h => List.mem_append_left _ (List.mem_append_right _ h)) (by decide +kernel))
set_option maxRecDepth 20000 in
theorem gL_law_L_next : GoodIn wsL_law (va_wsS RL 177 yL_next wsL_next) := goodIn_app (goodIn_of _ (by decide +kernel)) ggL_law_L_next
set_option maxRecDepth 20000 in
theorem ggL_law_X7_next : GoodIn wsL_law wsX7_next := goodIn_r _ [650, 114, 115, 651, 72, 59, 119, 120, 121, 5, 122, 652, 653, 654, 655, 256, 56, 62, 60, 656, 657, 658, 659, 58, 46, 660, 661, 662, 663, 69, 664, 66, 68, 665, 666, 667, 588, 589, 590, 591, 53, 51, 52, 54, 488, 489, 490, 491, 43, 492, 493, 494, 495, 45, 35, 147, 148, 149, 150, 116, 117, 118, 496, 497, 498, 499, 37, 500, 501, 502, 503, 504, 505, 506, 507, 508, 509, 510, 511, 63, 64, 512, 513, 514, 515, 516, 517, 518, 519, 42, 44, 520, 521, 522, 523, 524, 525, 526, 527, 528, 529, 530, 531, 41, 532, 533, 534, 535, 536, 537, 538, 539, 39, 540, 541, 542, 543, 50, 357, 592, 593, 594, 595, 70, 596, 597, 598, 599, 71, 544, 545, 546, 547, 61, 65, 358, 922, 923, 924, 925, 926, 927, 928, 929, 930, 931, 932, 933, 934, 935, 936, 937, 938, 939, 940, 941, 942, 943, 944, 945, 946, 947, 948, 949, 950, 951, 952, 953, 954, 955, 956, 957, 958, 959, 960, 961, 962, 963, 964, 965, 966, 967, 968, 969, 970, 971, 972] (by decide +kernel) (by decide +kernel)
set_option maxRecDepth 20000 in
theorem gL_law_X7_next : GoodIn wsL_law (wsV RL 179 RX7 yX7_next wsX7_next) := goodIn_app (goodIn_of _ (by decide +kernel)) ggL_law_X7_next
set_option maxRecDepth 20000 in
theorem ggL_law_L_full : GoodIn wsL_law wsL_full := goodIn_ca (goodIn_r _ [670, 81, 671, 672, 673, 2, 674, 212, 19, 98, 99, 100, 101, 102, 103, 104, 613, 614, 615, 214, 616, 231, 617, 618, 619, 620, 566, 567, 568, 569, 305, 570, 571, 572, 573, 426, 427, 428, 429, 430, 371, 431, 400, 432, 433, 434, 435, 453, 454, 455, 456, 265, 350, 457, 458, 459, 460, 232, 461, 462, 463, 464, 465, 404, 405, 406, 407, 408, 94, 95, 96, 97, 15, 409, 410, 411, 23, 412, 109, 413, 414, 415, 416, 28, 142, 135, 136, 137, 417, 418, 419, 420, 421, 422, 423, 424, 425, 30, 436, 437, 438, 439, 440, 441, 442, 188, 189, 190, 163, 191, 192, 168, 443, 444, 445, 446, 447, 448, 449, 450, 451, 452, 574, 575, 576, 577, 578, 579, 580, 581, 582, 583, 904, 905, 906, 907, 908, 909, 910, 911, 912, 913, 914, 915, 916, 917, 918, 919, 920, 921, 982, 983, 984, 985, 986, 987, 988, 989, 990, 991, 992, 993, 994, 995, 1003, 1004, 1005, 1006, 1007, 1008, 1009, 1010, 996, 997, 998, 999, 1000, 1001, 1002, 976, 977, 978, 979, 980, 981, 973, 974, 975] (by decide +kernel) (by decide +kernel)) (goodIn_sub (fun _ h => List.mem_append_left _ (List.mem_append_right _ h)) (by decide +kernel))
set_option maxRecDepth 20000 in
theorem gL_law_L_full : GoodIn wsL_law (va_wsS RL 180 yL_full wsL_full) := goodIn_app (goodIn_of _ (by decide +kernel)) ggL_law_L_full
set_option maxRecDepth 20000 in
theorem ggL_law_X7_full : GoodIn wsL_law wsX7_full := goodIn_r _ [678, 114, 115, 651, 72, 119, 120, 121, 5, 122, 652, 653, 654, 655, 256, 56, 62, 60, 656, 657, 658, 659, 58, 46, 660, 661, 662, 663, 69, 664, 66, 68, 665, 666, 667, 588, 589, 590, 591, 53, 51, 52, 54, 488, 489, 490, 491, 43, 492, 493, 494, 495, 45, 35, 147, 148, 149, 150, 116, 117, 118, 496, 497, 498, 499, 37, 500, 501, 502, 503, 504, 505, 506, 507, 508, 509, 510, 511, 63, 64, 512, 513, 514, 515, 516, 517, 518, 519, 42, 44, 520, 521, 522, 523, 524, 525, 526, 527, 528, 529, 530, 531, 41, 532, 533, 534, 535, 536, 537, 538, 539, 39, 540, 541, 542, 543, 50, 357, 592, 593, 594, 595, 70, 596, 597, 598, 599, 71, 922, 923, 924, 925, 926, 927, 928, 929, 930, 931, 932, 933, 934, 935, 936, 937, 938, 939, 940, 941, 942, 943, 944, 945, 946, 947, 948, 949, 950, 951, 952, 953, 954, 955, 956, 957, 958, 959, 960, 961, 962, 963, 964, 965, 966, 967, 968, 969, 970, 971, 972] (by decide +kernel) (by decide +kernel)
set_option maxRecDepth 20000 in
theorem gL_law_X7_full : GoodIn wsL_law (wsV RL 182 RX7 yX7_full wsX7_full) := goodIn_app (goodIn_of _ (by decide +kernel)) ggL_law_X7_full
set_option maxRecDepth 20000 in
theorem ggL_law_X6_waiting : GoodIn wsL_law wsX6_waiting := goodIn_r _ [682, 104, 21, 607, 609, 610, 611, 2, 612, 212, 20, 613, 614, 615, 214, 616, 231, 617, 618, 619, 620, 621, 622, 623, 624, 625, 626, 627, 371, 403, 628, 629, 630, 631, 632, 633, 634, 635, 636, 637, 638, 639, 640, 641, 642, 643, 644, 645, 646, 904, 905, 906, 907, 908, 909, 910, 911, 912, 913, 914, 915, 916, 917, 918, 919, 920, 921, 982, 983, 984, 985, 986, 987, 988, 989, 990, 991, 992, 993, 994, 995, 1003, 1004, 1005, 1006, 1007, 1008, 1009, 1010, 996, 997, 998] (by decide +kernel) (by decide +kernel)
set_option maxRecDepth 20000 in
theorem gL_law_X6_waiting : GoodIn wsL_law (wsV RL 183 RX6 yX6_waiting wsX6_waiting) := goodIn_app (goodIn_of _ (by decide +kernel)) ggL_law_X6_waiting
set_option maxRecDepth 20000 in
theorem ggL_law_X7_waiting : GoodIn wsL_law wsX7_waiting := goodIn_r _ [686, 114, 651, 72, 652, 653, 654, 5, 655, 256, 115, 56, 62, 60, 656, 657, 658, 659, 58, 46, 660, 661, 662, 663, 69, 664, 66, 68, 665, 666, 667, 922, 923, 924, 925, 926, 927, 928, 929, 930, 931, 932, 933, 934, 935, 936, 937, 938, 939, 940, 941, 942, 943, 944, 945, 946, 947, 948, 949, 950, 951, 952, 953, 954, 955, 956, 957, 958, 959, 960, 961, 962, 963, 964, 965, 966, 967, 968, 969, 970, 971, 972] (by decide +kernel) (by decide +kernel)
set_option maxRecDepth 20000 in
theorem gL_law_X7_waiting : GoodIn wsL_law (wsV RL 186 RX7 yX7_waiting wsX7_waiting) := goodIn_app (goodIn_of _ (by decide +kernel)) ggL_law_X7_waiting
set_option maxRecDepth 20000 in
theorem ggL_law_L_move : GoodIn wsL_law wsL_move := goodIn_ca (goodIn_ca (goodIn_r _ [689, 79, 81, 690, 691, 692, 2, 693, 371, 431, 400, 267, 268, 269, 270, 92, 93, 19, 98, 99, 100, 101, 102, 103, 104, 404, 405, 406, 407, 408, 265, 94, 95, 96, 97, 15, 409, 410, 411, 23, 412, 109, 413, 414, 415, 416, 28, 142, 135, 136, 137, 417, 418, 419, 420, 421, 422, 423, 424, 425, 30, 426, 427, 428, 429, 430, 432, 433, 434, 435, 436, 437, 438, 439, 440, 441, 442, 188, 189, 190, 163, 191, 192, 168, 443, 444, 445, 446, 447, 448, 449, 450, 451, 452, 453, 454, 455, 456, 350, 457, 458, 459, 214, 460, 232, 461, 462, 463, 464, 465, 694, 695, 696, 697, 401, 402, 475, 476, 477, 478, 479, 698, 699, 700, 222, 701, 275, 471, 472, 473, 474, 271, 272, 273, 274, 276, 277, 982, 983, 984, 985, 986, 987, 988, 989, 990, 991, 992, 993, 994, 995, 1003, 1004, 1005, 1006, 1007, 1008, 1009, 1010, 996, 997, 998, 904, 905, 906, 907, 908, 909, 910, 911, 912, 913, 914, 915, 916, 917, 918, 919, 920, 921, 973, 974, 975, 976, 977, 978, 979, 980, 981] (by decide +kernel) (by decide +kernel)) (goodIn_sub (fun _ h => List.mem_append_left _ (List.mem_append_left _ (List.mem_append_right _ h))) (by decide +kernel))) (goodIn_sub (fun _ h => List.mem_append_left _ (List.mem_append_right _ h)) (by decide +kernel))
set_option maxRecDepth 20000 in
theorem gL_law_L_move : GoodIn wsL_law (va_wsS RL 187 yL_move wsL_move) := goodIn_app (goodIn_of _ (by decide +kernel)) ggL_law_L_move
set_option maxRecDepth 20000 in
theorem ggL_law_X7_move : GoodIn wsL_law wsX7_move := goodIn_r _ [705, 114, 115, 62, 63, 64, 282, 283, 284, 5, 285, 256, 119, 120, 121, 122, 488, 489, 490, 491, 43, 492, 493, 494, 495, 45, 35, 147, 148, 149, 150, 116, 117, 118, 496, 497, 498, 499, 37, 500, 501, 502, 503, 504, 505, 506, 507, 508, 509, 510, 511, 512, 513, 514, 515, 516, 517, 518, 519, 42, 44, 520, 521, 522, 523, 524, 525, 526, 527, 528, 529, 530, 531, 41, 532, 533, 534, 535, 536, 537, 538, 539, 39, 540, 541, 542, 543, 50, 357, 922, 923, 924, 925, 926, 927, 928, 929, 930, 931, 932, 933, 934, 935, 936, 937, 938, 939, 940, 941, 942, 943, 944, 945, 946, 947, 948, 949, 950, 951, 952, 953, 954, 955, 956, 957, 958, 959, 960, 961, 962, 963, 964, 965, 966, 967, 968, 969, 970, 971, 972] (by decide +kernel) (by decide +kernel)
set_option maxRecDepth 20000 in
theorem gL_law_X7_move : GoodIn wsL_law (wsV RL 189 RX7 yX7_move wsX7_move) := goodIn_app (goodIn_of _ (by decide +kernel)) ggL_law_X7_move
set_option maxRecDepth 20000 in
theorem ggL_law_L_change : GoodIn wsL_law wsL_change := goodIn_ca (goodIn_ca (goodIn_r _ [708, 79, 81, 709, 710, 711, 2, 712, 371, 431, 400, 267, 268, 269, 270, 92, 93, 19, 98, 99, 100, 101, 102, 103, 104, 713, 714, 715, 716, 401, 402, 694, 695, 696, 697, 408, 429, 430, 475, 465, 265, 94, 95, 96, 97, 15, 476, 477, 478, 23, 479, 30, 142, 135, 136, 137, 109, 698, 699, 700, 222, 701, 275, 433, 434, 435, 404, 405, 406, 407, 409, 410, 411, 412, 413, 414, 415, 416, 28, 417, 418, 419, 420, 421, 422, 423, 424, 425, 426, 427, 428, 432, 436, 437, 438, 439, 440, 441, 442, 188, 189, 190, 163, 191, 192, 168, 443, 444, 445, 446, 447, 448, 449, 450, 451, 452, 453, 454, 455, 456, 350, 457, 458, 459, 214, 460, 232, 461, 462, 463, 464, 471, 472, 473, 474, 271, 272, 273, 274, 276, 277, 982, 983, 984, 985, 986, 987, 988, 989, 990, 991, 992, 993, 994, 995, 1003, 1004, 1005, 1006, 1007, 1008, 1009, 1010, 996, 997, 998, 904, 905, 906, 907, 908, 909, 910, 911, 912, 913, 914, 915, 916, 917, 918, 919, 920, 921, 976, 977, 978, 979, 980, 981, 973, 974, 975] (by decide +kernel) (by decide +kernel)) (goodIn_sub (fun _ h => List.mem_append_left _ (List.mem_append_left _ (List.mem_append_right _ h))) (by decide +kernel))) (goodIn_sub (fun _ h => List.mem_append_left _ (List.mem_append_right _ h)) (by decide +kernel))
set_option maxRecDepth 20000 in
theorem gL_law_L_change : GoodIn wsL_law (va_wsS RL 190 yL_change wsL_change) := goodIn_app (goodIn_of _ (by decide +kernel)) ggL_law_L_change
set_option maxRecDepth 20000 in
theorem ggL_law_X7_change : GoodIn wsL_law wsX7_change := goodIn_r _ [720, 114, 115, 62, 63, 64, 282, 283, 284, 5, 285, 256, 119, 120, 121, 122, 488, 489, 490, 491, 43, 492, 493, 494, 495, 45, 35, 147, 148, 149, 150, 116, 117, 118, 496, 497, 498, 499, 37, 500, 501, 502, 503, 504, 505, 506, 507, 508, 509, 510, 511, 512, 513, 514, 515, 516, 517, 518, 519, 42, 44, 520, 521, 522, 523, 524, 525, 526, 527, 528, 529, 530, 531, 41, 532, 533, 534, 535, 536, 537, 538, 539, 39, 540, 541, 542, 543, 50, 357, 922, 923, 924, 925, 926, 927, 928, 929, 930, 931, 932, 933, 934, 935, 936, 937, 938, 939, 940, 941, 942, 943, 944, 945, 946, 947, 948, 949, 950, 951, 952, 953, 954, 955, 956, 957, 958, 959, 960, 961, 962, 963, 964, 965, 966, 967, 968, 969, 970, 971, 972] (by decide +kernel) (by decide +kernel)
set_option maxRecDepth 20000 in
theorem gL_law_X7_change : GoodIn wsL_law (wsV RL 193 RX7 yX7_change wsX7_change) := goodIn_app (goodIn_of _ (by decide +kernel)) ggL_law_X7_change
set_option maxRecDepth 20000 in
theorem ggL_law_L_leave : GoodIn wsL_law wsL_leave := goodIn_ca (goodIn_ca (goodIn_r _ [723, 79, 81, 724, 725, 726, 2, 727, 371, 431, 400, 728, 267, 268, 269, 270, 92, 93, 19, 98, 99, 100, 101, 102, 103, 104, 729, 730, 731, 732, 733, 734, 735, 736, 737, 738, 265, 408, 351, 470, 739, 740, 741, 742, 429, 743, 694, 695, 696, 697, 401, 402, 430, 475, 465, 94, 95, 96, 97, 15, 476, 477, 478, 23, 479, 30, 142, 135, 136, 137, 109, 698, 699, 700, 222, 701, 275, 433, 434, 435, 982, 983, 984, 985, 986, 987, 988, 989, 990, 991, 992, 993, 994, 995, 1003, 1004, 1005, 1006, 1007, 1008, 1009, 1010, 996, 997, 998, 904, 905, 906, 907, 908, 909, 910, 911, 912, 913, 914, 915, 916, 917, 918, 919, 920, 921, 976, 977, 978, 979, 980, 981, 973, 974, 975] (by decide +kernel) (by decide +kernel)) (goodIn_sub (fun _ h => List.mem_append_left _ (List.mem_append_left _ (List.mem_append_right _ h))) (by decide +kernel))) (goodIn_sub (fun _ h => List.mem_append_left _ (List.mem_append_right _ h)) (by decide +kernel))
set_option maxRecDepth 20000 in
theorem gL_law_L_leave : GoodIn wsL_law (va_wsS RL 194 yL_leave wsL_leave) := goodIn_app (goodIn_of _ (by decide +kernel)) ggL_law_L_leave
set_option maxRecDepth 20000 in
theorem ggL_law_X7_leave : GoodIn wsL_law wsX7_leave := goodIn_r _ [747, 114, 115, 62, 60, 282, 283, 284, 5, 285, 256, 119, 120, 121, 122, 748, 749, 750, 751, 358, 65, 43, 45, 38, 44, 69, 752, 922, 923, 924, 925, 926, 927, 928, 929, 930, 931, 932, 933, 934, 935, 936, 937, 938, 939, 940, 941, 942, 943, 944, 945, 946, 947, 948, 949, 950, 951, 952, 953, 954, 955, 956, 957, 958, 959, 960, 961, 962, 963, 964, 965, 966, 967, 968, 969, 970, 971, 972] (by decide +kernel) (by decide +kernel)
set_option maxRecDepth 20000 in
theorem gL_law_X7_leave : GoodIn wsL_law (wsV RL 196 RX7 yX7_leave wsX7_leave) := goodIn_app (goodIn_of _ (by decide +kernel)) ggL_law_X7_leave
set_option maxRecDepth 20000 in
theorem ggL_law_L_hour : GoodIn wsL_law wsL_hour := goodIn_ca (goodIn_ca (goodIn_r _ [755, 80, 81, 756, 757, 758, 2, 759, 86, 87, 351, 98, 99, 100, 101, 102, 103, 104, 904, 905, 906, 907, 908, 909, 910, 911, 912, 913, 914, 915, 916, 917, 918, 919, 920, 921] (by decide +kernel) (by decide +kernel)) (goodIn_sub (fun _ h => List.mem_append_left _ (List.mem_append_left _ (List.mem_append_left _ (List.mem_append_right _ h)))) (by decide +kernel))) (goodIn_sub (fun _ h => List.mem_append_left _ (List.mem_append_right _ h)) (by decide +kernel))
set_option maxRecDepth 20000 in
theorem gL_law_L_hour : GoodIn wsL_law (va_wsS RL 197 yL_hour wsL_hour) := goodIn_app (goodIn_of _ (by decide +kernel)) ggL_law_L_hour
set_option maxRecDepth 20000 in
theorem ggL_law_X7_hour : GoodIn wsL_law wsX7_hour := goodIn_r _ [763, 114, 358, 115, 119, 120, 121, 5, 122, 922, 923, 924, 925, 926, 927, 928, 929, 930, 931, 932, 933, 934, 935, 936, 937, 938, 939, 940, 941, 942, 943, 944, 945, 946, 947, 948, 949, 950, 951, 952, 953, 954, 955, 956, 957, 958, 959, 960, 961, 962, 963, 964, 965, 966, 967, 968, 969, 970, 971, 972] (by decide +kernel) (by decide +kernel)
set_option maxRecDepth 20000 in
theorem gL_law_X7_hour : GoodIn wsL_law (wsV RL 200 RX7 yX7_hour wsX7_hour) := goodIn_app (goodIn_of _ (by decide +kernel)) ggL_law_X7_hour
set_option maxRecDepth 20000 in
theorem ggL_law_L_close : GoodIn wsL_law wsL_close := goodIn_ca (goodIn_r _ [766, 81, 767, 768, 769, 2, 770, 212, 19, 21, 371, 104, 98, 99, 100, 101, 102, 103, 771, 772, 773, 774, 431, 400, 728, 352, 633, 632, 372, 373, 775, 776, 729, 730, 731, 732, 733, 734, 735, 736, 737, 738, 265, 408, 351, 470, 739, 740, 741, 742, 429, 743, 694, 695, 696, 697, 401, 402, 430, 475, 465, 94, 95, 96, 97, 15, 476, 477, 478, 23, 479, 30, 142, 135, 136, 137, 109, 698, 699, 700, 222, 701, 275, 433, 434, 435, 777, 778, 779, 780, 266, 578, 453, 454, 455, 456, 350, 457, 458, 459, 214, 460, 232, 781, 782, 783, 784, 20, 640, 641, 642, 643, 644, 645, 646, 785, 786, 787, 788, 789, 790, 791, 792, 793, 794, 338, 629, 630, 631, 628, 634, 635, 636, 637, 638, 639, 271, 272, 273, 274, 276, 277, 795, 796, 797, 798, 215, 799, 800, 801, 230, 802, 803, 804, 805, 806, 807, 808, 904, 905, 906, 907, 908, 909, 910, 911, 912, 913, 914, 915, 916, 917, 918, 919, 920, 921, 982, 983, 984, 985, 986, 987, 988, 989, 990, 991, 992, 993, 994, 995, 1003, 1004, 1005, 1006, 1007, 1008, 1009, 1010, 996, 997, 998, 976, 977, 978, 979, 980, 981, 973, 974, 975] (by decide +kernel) (by decide +kernel)) (goodIn_sub (fun _ h => List.mem_append_left _ (List.mem_append_right _ h)) (by decide +kernel))
set_option maxRecDepth 20000 in
theorem gL_law_L_close : GoodIn wsL_law (va_wsS RL 201 yL_close wsL_close) := goodIn_app (goodIn_of _ (by decide +kernel)) ggL_law_L_close
set_option maxRecDepth 20000 in
theorem ggL_law_X7_close : GoodIn wsL_law wsX7_close := goodIn_r _ [812, 114, 115, 256, 62, 61, 68, 359, 66, 56, 47, 57, 67, 74, 813, 73, 119, 120, 121, 5, 122, 748, 749, 750, 751, 358, 65, 43, 45, 38, 44, 69, 752, 814, 815, 816, 817, 48, 147, 148, 149, 150, 35, 116, 117, 118, 540, 541, 542, 543, 50, 357, 665, 666, 667, 484, 485, 486, 487, 46, 818, 819, 820, 821, 822, 49, 257, 823, 824, 825, 826, 55, 660, 661, 662, 663, 664, 360, 361, 362, 363, 58, 59, 60, 922, 923, 924, 925, 926, 927, 928, 929, 930, 931, 932, 933, 934, 935, 936, 937, 938, 939, 940, 941, 942, 943, 944, 945, 946, 947, 948, 949, 950, 951, 952, 953, 954, 955, 956, 957, 958, 959, 960, 961, 962, 963, 964, 965, 966, 967, 968, 969, 970, 971, 972] (by decide +kernel) (by decide +kernel)
set_option maxRecDepth 20000 in
theorem gL_law_X7_close : GoodIn wsL_law (wsV RL 203 RX7 yX7_close wsX7_close) := goodIn_app (goodIn_of _ (by decide +kernel)) ggL_law_X7_close
set_option maxRecDepth 20000 in
theorem ggL_law_L_pay : GoodIn wsL_law wsL_pay := goodIn_ca (goodIn_ca (goodIn_r _ [829, 79, 80, 830, 831, 832, 2, 833, 86, 87, 733, 834, 267, 268, 269, 270, 92, 93, 19, 982, 983, 984, 985, 986, 987, 988, 989, 990, 991, 992, 993, 994, 995, 904, 905, 906, 907, 908, 909, 910, 911, 912, 913, 914, 915, 916, 917, 918, 919, 920, 921] (by decide +kernel) (by decide +kernel)) (goodIn_sub (fun _ h => List.mem_append_left _ (List.mem_append_left _ (List.mem_append_left _ (List.mem_append_right _ h)))) (by decide +kernel))) (goodIn_sub (fun _ h => List.mem_append_left _ (List.mem_append_left _ (List.mem_append_right _ h))) (by decide +kernel))
set_option maxRecDepth 20000 in
theorem gL_law_L_pay : GoodIn wsL_law (va_wsS RL 206 yL_pay wsL_pay) := goodIn_app (goodIn_of _ (by decide +kernel)) ggL_law_L_pay
set_option maxRecDepth 20000 in
theorem ggL_law_X7_pay : GoodIn wsL_law wsX7_pay := goodIn_r _ [838, 114, 69, 839, 282, 283, 284, 5, 285, 256, 119, 120, 121, 122, 922, 923, 924, 925, 926, 927, 928, 929, 930, 931, 932, 933, 934, 935, 936, 937, 938, 939, 940, 941, 942, 943, 944, 945, 946, 947, 948, 949, 950, 951, 952, 953, 954, 955, 956, 957, 958, 959, 960, 961, 962, 963, 964, 965, 966, 967, 968, 969, 970, 971, 972] (by decide +kernel) (by decide +kernel)
set_option maxRecDepth 20000 in
theorem gL_law_X7_pay : GoodIn wsL_law (wsV RL 209 RX7 yX7_pay wsX7_pay) := goodIn_app (goodIn_of _ (by decide +kernel)) ggL_law_X7_pay
set_option maxRecDepth 20000 in
theorem ggL_law_L_look : GoodIn wsL_law wsL_look := goodIn_ca (goodIn_ca (goodIn_r _ [842, 79, 80, 843, 844, 845, 2, 846, 86, 87, 265, 429, 847, 408, 628, 266, 371, 431, 372, 373, 403, 608, 728, 632, 633, 776, 305, 570, 573, 338, 267, 268, 269, 270, 92, 93, 19, 848, 849, 850, 222, 851, 275, 276, 277, 433, 434, 435, 640, 641, 642, 643, 644, 645, 646, 982, 983, 984, 985, 986, 987, 988, 989, 990, 991, 992, 993, 994, 995, 976, 977, 978, 979, 980, 981, 1003, 1004, 1005, 1006, 1007, 1008, 1009, 1010, 999, 1000, 1001, 1002, 904, 905, 906, 907, 908, 909, 910, 911, 912, 913, 914, 915, 916, 917, 918, 919, 920, 921, 996, 997, 998] (by decide +kernel) (by decide +kernel)) (goodIn_sub (fun _ h => List.mem_append_left _ (List.mem_append_left _ (List.mem_append_left _ (List.mem_append_right _ h)))) (by decide +kernel))) (goodIn_sub (fun _ h => List.mem_append_left _ (List.mem_append_left _ (List.mem_append_right _ h))) (by decide +kernel))
set_option maxRecDepth 20000 in
theorem gL_law_L_look : GoodIn wsL_law (va_wsS RL 210 yL_look wsL_look) := goodIn_app (goodIn_of _ (by decide +kernel)) ggL_law_L_look
set_option maxRecDepth 20000 in
theorem ggL_law_X7_look : GoodIn wsL_law wsX7_look := goodIn_r _ [855, 114, 43, 44, 45, 46, 47, 48, 49, 62, 63, 64, 56, 57, 58, 59, 60, 66, 68, 67, 53, 54, 55, 282, 283, 284, 5, 285, 256, 119, 120, 121, 122, 856, 857, 858, 665, 666, 667, 922, 923, 924, 925, 926, 927, 928, 929, 930, 931, 932, 933, 934, 935, 936, 937, 938, 939, 940, 941, 942, 943, 944, 945, 946, 947, 948, 949, 950, 951, 952, 953, 954, 955, 956, 957, 958, 959, 960, 961, 962, 963, 964, 965, 966, 967, 968, 969, 970, 971, 972] (by decide +kernel) (by decide +kernel)
set_option maxRecDepth 20000 in
theorem gL_law_X7_look : GoodIn wsL_law (wsV RL 212 RX7 yX7_look wsX7_look) := goodIn_app (goodIn_of _ (by decide +kernel)) ggL_law_X7_look
set_option maxRecDepth 20000 in
theorem ggL_law_L_owed : GoodIn wsL_law wsL_owed := goodIn_ca (goodIn_r _ [861, 79, 862, 863, 864, 2, 865, 733, 267, 268, 269, 270, 92, 93, 19, 982, 983, 984, 985, 986, 987, 988, 989, 990, 991, 992, 993, 994, 995, 904, 905, 906, 907, 908, 909, 910, 911, 912, 913, 914, 915, 916, 917, 918, 919, 920, 921] (by decide +kernel) (by decide +kernel)) (goodIn_sub (fun _ h => List.mem_append_left _ (List.mem_append_left _ (List.mem_append_right _ h))) (by decide +kernel))
set_option maxRecDepth 20000 in
theorem gL_law_L_owed : GoodIn wsL_law (va_wsS RL 213 yL_owed wsL_owed) := goodIn_app (goodIn_of _ (by decide +kernel)) ggL_law_L_owed
set_option maxRecDepth 20000 in
theorem ggL_law_X7_owed : GoodIn wsL_law wsX7_owed := goodIn_r _ [869, 114, 69, 282, 283, 284, 5, 285, 256, 119, 120, 121, 122, 922, 923, 924, 925, 926, 927, 928, 929, 930, 931, 932, 933, 934, 935, 936, 937, 938, 939, 940, 941, 942, 943, 944, 945, 946, 947, 948, 949, 950, 951, 952, 953, 954, 955, 956, 957, 958, 959, 960, 961, 962, 963, 964, 965, 966, 967, 968, 969, 970, 971, 972] (by decide +kernel) (by decide +kernel)
set_option maxRecDepth 20000 in
theorem gL_law_X7_owed : GoodIn wsL_law (wsV RL 215 RX7 yX7_owed wsX7_owed) := goodIn_app (goodIn_of _ (by decide +kernel)) ggL_law_X7_owed
set_option maxRecDepth 20000 in
theorem ggL_law_X6_stall : GoodIn wsL_law wsX6_stall := goodIn_r _ [873, 607, 94, 95, 96, 2, 97, 15, 439, 423, 424, 23, 425, 30, 142, 135, 136, 137, 109, 982, 983, 984, 985, 986, 987, 988, 989, 990, 991, 992, 993, 994, 995, 904, 905, 906, 907, 908, 909, 910, 911, 912, 913, 914, 915, 916, 917, 918, 919, 920, 921, 973, 974, 975] (by decide +kernel) (by decide +kernel)
set_option maxRecDepth 20000 in
theorem gL_law_X6_stall : GoodIn wsL_law (wsV RL 216 RX6 yX6_stall wsX6_stall) := goodIn_app (goodIn_of _ (by decide +kernel)) ggL_law_X6_stall
set_option maxRecDepth 20000 in
theorem ggL_law_X7_stall : GoodIn wsL_law wsX7_stall := goodIn_r _ [877, 114, 256, 62, 63, 64, 512, 513, 514, 5, 515, 45, 922, 923, 924, 925, 926, 927, 928, 929, 930, 931, 932, 933, 934, 935, 936, 937, 938, 939, 940, 941, 942, 943, 944, 945, 946, 947, 948, 949, 950, 951, 952, 953, 954, 955, 956, 957, 958, 959, 960, 961, 962, 963, 964, 965, 966, 967, 968, 969, 970, 971, 972] (by decide +kernel) (by decide +kernel)
set_option maxRecDepth 20000 in
theorem gL_law_X7_stall : GoodIn wsL_law (wsV RL 219 RX7 yX7_stall wsX7_stall) := goodIn_app (goodIn_of _ (by decide +kernel)) ggL_law_X7_stall
set_option maxRecDepth 20000 in
theorem ggL_law_X6_square : GoodIn wsL_law wsX6_square := goodIn_r _ [881, 578, 94, 95, 96, 2, 97, 15, 882, 883, 884, 23, 885, 109, 28, 434, 435, 886, 887, 888, 889, 30, 973, 974, 975, 904, 905, 906, 907, 908, 909, 910, 911, 912, 913, 914, 915, 916, 917, 918, 919, 920, 921] (by decide +kernel) (by decide +kernel)
set_option maxRecDepth 20000 in
theorem gL_law_X6_square : GoodIn wsL_law (wsV RL 220 RX6 yX6_square wsX6_square) := goodIn_app (goodIn_of _ (by decide +kernel)) ggL_law_X6_square
set_option maxRecDepth 20000 in
theorem ggL_law_X7_square : GoodIn wsL_law wsX7_square := goodIn_r _ [893, 114, 35, 37, 256, 62, 63, 45, 116, 117, 5, 118, 922, 923, 924, 925, 926, 927, 928, 929, 930, 931, 932, 933, 934, 935, 936, 937, 938, 939, 940, 941, 942, 943, 944, 945, 946, 947, 948, 949, 950, 951, 952, 953, 954, 955, 956, 957, 958, 959, 960, 961, 962, 963, 964, 965, 966, 967, 968, 969, 970, 971, 972] (by decide +kernel) (by decide +kernel)
set_option maxRecDepth 20000 in
theorem gL_law_X7_square : GoodIn wsL_law (wsV RL 223 RX7 yX7_square wsX7_square) := goodIn_app (goodIn_of _ (by decide +kernel)) ggL_law_X7_square
set_option maxRecDepth 20000 in
theorem ggL_law_X6_count : GoodIn wsL_law wsX6_count := goodIn_r _ [897, 161, 212, 104, 352, 351, 475, 734, 834, 789, 790, 898, 904, 905, 906, 907, 908, 909, 910, 911, 912, 913, 914, 915, 916, 917, 918, 919, 920, 921] (by decide +kernel) (by decide +kernel)
set_option maxRecDepth 20000 in
theorem gL_law_X6_count : GoodIn wsL_law (wsV RL 224 RX6 yX6_count wsX6_count) := goodIn_app (goodIn_of _ (by decide +kernel)) ggL_law_X6_count
set_option maxRecDepth 20000 in
theorem ggL_law_X7_count : GoodIn wsL_law wsX7_count := goodIn_r _ [902, 114, 176, 256, 115, 359, 358, 62, 752, 839, 813, 822, 903, 856, 857, 5, 858, 922, 923, 924, 925, 926, 927, 928, 929, 930, 931, 932, 933, 934, 935, 936, 937, 938, 939, 940, 941, 942, 943, 944, 945, 946, 947, 948, 949, 950, 951, 952, 953, 954, 955, 956, 957, 958, 959, 960, 961, 962, 963, 964, 965, 966, 967, 968, 969, 970, 971, 972] (by decide +kernel) (by decide +kernel)
set_option maxRecDepth 20000 in
theorem gL_law_X7_count : GoodIn wsL_law (wsV RL 227 RX7 yX7_count wsX7_count) := goodIn_app (goodIn_of _ (by decide +kernel)) ggL_law_X7_count
