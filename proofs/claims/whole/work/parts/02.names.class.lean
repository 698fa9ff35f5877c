theorem dX0_init_0 : decode cX0_init 0 = .ok (.aload_n 0, 1) := by decide +kernel
theorem dX0_init_1 : decode cX0_init 1 = .ok (.invokespecial 3, 3) := by decide +kernel
theorem dX0_init_4 : decode cX0_init 4 = .ok (.aload_n 0, 1) := by decide +kernel
theorem dX0_init_5 : decode cX0_init 5 = .ok (.sipush 200, 3) := by decide +kernel
theorem dX0_init_8 : decode cX0_init 8 = .ok (.newarray .int, 2) := by decide +kernel
theorem dX0_init_10 : decode cX0_init 10 = .ok (.putfield 9, 3) := by decide +kernel
theorem dX0_init_13 : decode cX0_init 13 = .ok (.aload_n 0, 1) := by decide +kernel
theorem dX0_init_14 : decode cX0_init 14 = .ok (.sipush 200, 3) := by decide +kernel
theorem dX0_init_17 : decode cX0_init 17 = .ok (.anewarray 15, 3) := by decide +kernel
theorem dX0_init_20 : decode cX0_init 20 = .ok (.putfield 17, 3) := by decide +kernel
theorem dX0_init_23 : decode cX0_init 23 = .ok (.return_, 1) := by decide +kernel
theorem dX0_lay_0 : decode cX0_lay 0 = .ok (.aload_n 0, 1) := by decide +kernel
theorem dX0_lay_1 : decode cX0_lay 1 = .ok (.iload_n 1, 1) := by decide +kernel
theorem dX0_lay_2 : decode cX0_lay 2 = .ok (.putfield 21, 3) := by decide +kernel
theorem dX0_lay_5 : decode cX0_lay 5 = .ok (.iconst 0, 1) := by decide +kernel
theorem dX0_lay_6 : decode cX0_lay 6 = .ok (.istore_n 2, 1) := by decide +kernel
theorem dX0_lay_7 : decode cX0_lay 7 = .ok (.iload_n 2, 1) := by decide +kernel
theorem dX0_lay_8 : decode cX0_lay 8 = .ok (.sipush 200, 3) := by decide +kernel
theorem dX0_lay_11 : decode cX0_lay 11 = .ok (.if_icmp .ge 16, 3) := by decide +kernel
theorem dX0_lay_14 : decode cX0_lay 14 = .ok (.aload_n 0, 1) := by decide +kernel
theorem dX0_lay_15 : decode cX0_lay 15 = .ok (.getfield 9, 3) := by decide +kernel
theorem dX0_lay_18 : decode cX0_lay 18 = .ok (.iload_n 2, 1) := by decide +kernel
theorem dX0_lay_19 : decode cX0_lay 19 = .ok (.iconst 0, 1) := by decide +kernel
theorem dX0_lay_20 : decode cX0_lay 20 = .ok (.iastore, 1) := by decide +kernel
theorem dX0_lay_21 : decode cX0_lay 21 = .ok (.iinc 2 1, 3) := by decide +kernel
theorem dX0_lay_24 : decode cX0_lay 24 = .ok (.goto (-17), 3) := by decide +kernel
theorem dX0_lay_27 : decode cX0_lay 27 = .ok (.return_, 1) := by decide +kernel
theorem dX0_has_0 : decode cX0_has 0 = .ok (.iload_n 1, 1) := by decide +kernel
theorem dX0_has_1 : decode cX0_has 1 = .ok (.ifCond .lt 15, 3) := by decide +kernel
theorem dX0_has_4 : decode cX0_has 4 = .ok (.iload_n 1, 1) := by decide +kernel
theorem dX0_has_5 : decode cX0_has 5 = .ok (.aload_n 0, 1) := by decide +kernel
theorem dX0_has_6 : decode cX0_has 6 = .ok (.getfield 21, 3) := by decide +kernel
theorem dX0_has_9 : decode cX0_has 9 = .ok (.if_icmp .ge 7, 3) := by decide +kernel
theorem dX0_has_12 : decode cX0_has 12 = .ok (.iconst 1, 1) := by decide +kernel
theorem dX0_has_13 : decode cX0_has 13 = .ok (.goto 4, 3) := by decide +kernel
theorem dX0_has_16 : decode cX0_has 16 = .ok (.iconst 0, 1) := by decide +kernel
theorem dX0_has_17 : decode cX0_has 17 = .ok (.ireturn, 1) := by decide +kernel
theorem dX0_hasAll_0 : decode cX0_hasAll 0 = .ok (.iload_n 1, 1) := by decide +kernel
theorem dX0_hasAll_1 : decode cX0_hasAll 1 = .ok (.ifCond .lt 17, 3) := by decide +kernel
theorem dX0_hasAll_4 : decode cX0_hasAll 4 = .ok (.iload_n 1, 1) := by decide +kernel
theorem dX0_hasAll_5 : decode cX0_hasAll 5 = .ok (.aload_n 0, 1) := by decide +kernel
theorem dX0_hasAll_6 : decode cX0_hasAll 6 = .ok (.getfield 21, 3) := by decide +kernel
theorem dX0_hasAll_9 : decode cX0_hasAll 9 = .ok (.iload_n 2, 1) := by decide +kernel
theorem dX0_hasAll_10 : decode cX0_hasAll 10 = .ok (.isub, 1) := by decide +kernel
theorem dX0_hasAll_11 : decode cX0_hasAll 11 = .ok (.if_icmp .gt 7, 3) := by decide +kernel
theorem dX0_hasAll_14 : decode cX0_hasAll 14 = .ok (.iconst 1, 1) := by decide +kernel
theorem dX0_hasAll_15 : decode cX0_hasAll 15 = .ok (.goto 4, 3) := by decide +kernel
theorem dX0_hasAll_18 : decode cX0_hasAll 18 = .ok (.iconst 0, 1) := by decide +kernel
theorem dX0_hasAll_19 : decode cX0_hasAll 19 = .ok (.ireturn, 1) := by decide +kernel
set_option maxRecDepth 20000 in
theorem ggX0_setMark_X0_has : GoodIn wsX0_setMark wsX0_has := goodIn_r _ [6, 7, 8, 9, 10] (by decide +kernel) (by decide +kernel)
set_option maxRecDepth 20000 in
theorem gX0_setMark_X0_has : GoodIn wsX0_setMark (wsV RX0 25 RX0 yX0_has wsX0_has) := goodIn_app (goodIn_of _ (by decide +kernel)) ggX0_setMark_X0_has
theorem dX0_setMark_0 : decode cX0_setMark 0 = .ok (.aload_n 0, 1) := by decide +kernel
theorem dX0_setMark_1 : decode cX0_setMark 1 = .ok (.iload_n 1, 1) := by decide +kernel
theorem dX0_setMark_2 : decode cX0_setMark 2 = .ok (.invokevirtual 25, 3) := by decide +kernel
theorem dX0_setMark_5 : decode cX0_setMark 5 = .ok (.ifCond .eq 23, 3) := by decide +kernel
theorem dX0_setMark_8 : decode cX0_setMark 8 = .ok (.aload_n 0, 1) := by decide +kernel
theorem dX0_setMark_9 : decode cX0_setMark 9 = .ok (.getfield 9, 3) := by decide +kernel
theorem dX0_setMark_12 : decode cX0_setMark 12 = .ok (.iload_n 1, 1) := by decide +kernel
theorem dX0_setMark_13 : decode cX0_setMark 13 = .ok (.iaload, 1) := by decide +kernel
theorem dX0_setMark_14 : decode cX0_setMark 14 = .ok (.iload_n 2, 1) := by decide +kernel
theorem dX0_setMark_15 : decode cX0_setMark 15 = .ok (.iand, 1) := by decide +kernel
theorem dX0_setMark_16 : decode cX0_setMark 16 = .ok (.ifCond .eq 7, 3) := by decide +kernel
theorem dX0_setMark_19 : decode cX0_setMark 19 = .ok (.iconst 1, 1) := by decide +kernel
theorem dX0_setMark_20 : decode cX0_setMark 20 = .ok (.goto 4, 3) := by decide +kernel
theorem dX0_setMark_23 : decode cX0_setMark 23 = .ok (.iconst 0, 1) := by decide +kernel
theorem dX0_setMark_24 : decode cX0_setMark 24 = .ok (.iload_n 3, 1) := by decide +kernel
theorem dX0_setMark_25 : decode cX0_setMark 25 = .ok (.if_icmp .ne 5, 3) := by decide +kernel
theorem dX0_setMark_28 : decode cX0_setMark 28 = .ok (.iconst 0, 1) := by decide +kernel
theorem dX0_setMark_29 : decode cX0_setMark 29 = .ok (.ireturn, 1) := by decide +kernel
theorem dX0_setMark_30 : decode cX0_setMark 30 = .ok (.aload_n 0, 1) := by decide +kernel
theorem dX0_setMark_31 : decode cX0_setMark 31 = .ok (.getfield 9, 3) := by decide +kernel
theorem dX0_setMark_34 : decode cX0_setMark 34 = .ok (.iload_n 1, 1) := by decide +kernel
theorem dX0_setMark_35 : decode cX0_setMark 35 = .ok (.dup2, 1) := by decide +kernel
theorem dX0_setMark_36 : decode cX0_setMark 36 = .ok (.iaload, 1) := by decide +kernel
theorem dX0_setMark_37 : decode cX0_setMark 37 = .ok (.iload_n 2, 1) := by decide +kernel
theorem dX0_setMark_38 : decode cX0_setMark 38 = .ok (.ixor, 1) := by decide +kernel
theorem dX0_setMark_39 : decode cX0_setMark 39 = .ok (.iastore, 1) := by decide +kernel
theorem dX0_setMark_40 : decode cX0_setMark 40 = .ok (.iconst 1, 1) := by decide +kernel
theorem dX0_setMark_41 : decode cX0_setMark 41 = .ok (.ireturn, 1) := by decide +kernel
set_option maxRecDepth 20000 in
theorem ggX0_isMarked_X0_has : GoodIn wsX0_isMarked wsX0_has := goodIn_r _ [6, 7, 8, 9, 10] (by decide +kernel) (by decide +kernel)
set_option maxRecDepth 20000 in
theorem gX0_isMarked_X0_has : GoodIn wsX0_isMarked (wsV RX0 25 RX0 yX0_has wsX0_has) := goodIn_app (goodIn_of _ (by decide +kernel)) ggX0_isMarked_X0_has
theorem dX0_isMarked_0 : decode cX0_isMarked 0 = .ok (.iconst 0, 1) := by decide +kernel
theorem dX0_isMarked_1 : decode cX0_isMarked 1 = .ok (.istore 4, 2) := by decide +kernel
theorem dX0_isMarked_3 : decode cX0_isMarked 3 = .ok (.iload 4, 2) := by decide +kernel
theorem dX0_isMarked_5 : decode cX0_isMarked 5 = .ok (.iload_n 2, 1) := by decide +kernel
theorem dX0_isMarked_6 : decode cX0_isMarked 6 = .ok (.if_icmp .ge 36, 3) := by decide +kernel
theorem dX0_isMarked_9 : decode cX0_isMarked 9 = .ok (.aload_n 0, 1) := by decide +kernel
theorem dX0_isMarked_10 : decode cX0_isMarked 10 = .ok (.iload_n 1, 1) := by decide +kernel
theorem dX0_isMarked_11 : decode cX0_isMarked 11 = .ok (.iload 4, 2) := by decide +kernel
theorem dX0_isMarked_13 : decode cX0_isMarked 13 = .ok (.iadd, 1) := by decide +kernel
theorem dX0_isMarked_14 : decode cX0_isMarked 14 = .ok (.invokevirtual 25, 3) := by decide +kernel
theorem dX0_isMarked_17 : decode cX0_isMarked 17 = .ok (.ifCond .eq 19, 3) := by decide +kernel
theorem dX0_isMarked_20 : decode cX0_isMarked 20 = .ok (.aload_n 0, 1) := by decide +kernel
theorem dX0_isMarked_21 : decode cX0_isMarked 21 = .ok (.getfield 9, 3) := by decide +kernel
theorem dX0_isMarked_24 : decode cX0_isMarked 24 = .ok (.iload_n 1, 1) := by decide +kernel
theorem dX0_isMarked_25 : decode cX0_isMarked 25 = .ok (.iload 4, 2) := by decide +kernel
theorem dX0_isMarked_27 : decode cX0_isMarked 27 = .ok (.iadd, 1) := by decide +kernel
theorem dX0_isMarked_28 : decode cX0_isMarked 28 = .ok (.iaload, 1) := by decide +kernel
theorem dX0_isMarked_29 : decode cX0_isMarked 29 = .ok (.iload_n 3, 1) := by decide +kernel
theorem dX0_isMarked_30 : decode cX0_isMarked 30 = .ok (.iand, 1) := by decide +kernel
theorem dX0_isMarked_31 : decode cX0_isMarked 31 = .ok (.ifCond .eq 5, 3) := by decide +kernel
theorem dX0_isMarked_34 : decode cX0_isMarked 34 = .ok (.iconst 1, 1) := by decide +kernel
theorem dX0_isMarked_35 : decode cX0_isMarked 35 = .ok (.ireturn, 1) := by decide +kernel
theorem dX0_isMarked_36 : decode cX0_isMarked 36 = .ok (.iinc 4 1, 3) := by decide +kernel
theorem dX0_isMarked_39 : decode cX0_isMarked 39 = .ok (.goto (-36), 3) := by decide +kernel
theorem dX0_isMarked_42 : decode cX0_isMarked 42 = .ok (.iconst 0, 1) := by decide +kernel
theorem dX0_isMarked_43 : decode cX0_isMarked 43 = .ok (.ireturn, 1) := by decide +kernel
set_option maxRecDepth 20000 in
theorem ggX0_holderAt_X0_has : GoodIn wsX0_holderAt wsX0_has := goodIn_r _ [6, 7, 8, 9, 10] (by decide +kernel) (by decide +kernel)
set_option maxRecDepth 20000 in
theorem gX0_holderAt_X0_has : GoodIn wsX0_holderAt (wsV RX0 25 RX0 yX0_has wsX0_has) := goodIn_app (goodIn_of _ (by decide +kernel)) ggX0_holderAt_X0_has
theorem dX0_holderAt_0 : decode cX0_holderAt 0 = .ok (.aload_n 0, 1) := by decide +kernel
theorem dX0_holderAt_1 : decode cX0_holderAt 1 = .ok (.iload_n 1, 1) := by decide +kernel
theorem dX0_holderAt_2 : decode cX0_holderAt 2 = .ok (.invokevirtual 25, 3) := by decide +kernel
theorem dX0_holderAt_5 : decode cX0_holderAt 5 = .ok (.ifCond .eq 12, 3) := by decide +kernel
theorem dX0_holderAt_8 : decode cX0_holderAt 8 = .ok (.aload_n 0, 1) := by decide +kernel
theorem dX0_holderAt_9 : decode cX0_holderAt 9 = .ok (.getfield 17, 3) := by decide +kernel
theorem dX0_holderAt_12 : decode cX0_holderAt 12 = .ok (.iload_n 1, 1) := by decide +kernel
theorem dX0_holderAt_13 : decode cX0_holderAt 13 = .ok (.aaload, 1) := by decide +kernel
theorem dX0_holderAt_14 : decode cX0_holderAt 14 = .ok (.goto 4, 3) := by decide +kernel
theorem dX0_holderAt_17 : decode cX0_holderAt 17 = .ok (.aconst_null, 1) := by decide +kernel
theorem dX0_holderAt_18 : decode cX0_holderAt 18 = .ok (.areturn, 1) := by decide +kernel
set_option maxRecDepth 20000 in
theorem ggX0_setHolder_X0_has : GoodIn wsX0_setHolder wsX0_has := goodIn_r _ [6, 7, 8, 9, 10] (by decide +kernel) (by decide +kernel)
set_option maxRecDepth 20000 in
theorem gX0_setHolder_X0_has : GoodIn wsX0_setHolder (wsV RX0 25 RX0 yX0_has wsX0_has) := goodIn_app (goodIn_of _ (by decide +kernel)) ggX0_setHolder_X0_has
theorem dX0_setHolder_0 : decode cX0_setHolder 0 = .ok (.iconst 0, 1) := by decide +kernel
theorem dX0_setHolder_1 : decode cX0_setHolder 1 = .ok (.istore 4, 2) := by decide +kernel
theorem dX0_setHolder_3 : decode cX0_setHolder 3 = .ok (.iload 4, 2) := by decide +kernel
theorem dX0_setHolder_5 : decode cX0_setHolder 5 = .ok (.iload_n 2, 1) := by decide +kernel
theorem dX0_setHolder_6 : decode cX0_setHolder 6 = .ok (.if_icmp .ge 30, 3) := by decide +kernel
theorem dX0_setHolder_9 : decode cX0_setHolder 9 = .ok (.aload_n 0, 1) := by decide +kernel
theorem dX0_setHolder_10 : decode cX0_setHolder 10 = .ok (.iload_n 1, 1) := by decide +kernel
theorem dX0_setHolder_11 : decode cX0_setHolder 11 = .ok (.iload 4, 2) := by decide +kernel
theorem dX0_setHolder_13 : decode cX0_setHolder 13 = .ok (.iadd, 1) := by decide +kernel
theorem dX0_setHolder_14 : decode cX0_setHolder 14 = .ok (.invokevirtual 25, 3) := by decide +kernel
theorem dX0_setHolder_17 : decode cX0_setHolder 17 = .ok (.ifCond .eq 13, 3) := by decide +kernel
theorem dX0_setHolder_20 : decode cX0_setHolder 20 = .ok (.aload_n 0, 1) := by decide +kernel
theorem dX0_setHolder_21 : decode cX0_setHolder 21 = .ok (.getfield 17, 3) := by decide +kernel
theorem dX0_setHolder_24 : decode cX0_setHolder 24 = .ok (.iload_n 1, 1) := by decide +kernel
theorem dX0_setHolder_25 : decode cX0_setHolder 25 = .ok (.iload 4, 2) := by decide +kernel
theorem dX0_setHolder_27 : decode cX0_setHolder 27 = .ok (.iadd, 1) := by decide +kernel
theorem dX0_setHolder_28 : decode cX0_setHolder 28 = .ok (.aload_n 3, 1) := by decide +kernel
theorem dX0_setHolder_29 : decode cX0_setHolder 29 = .ok (.aastore, 1) := by decide +kernel
theorem dX0_setHolder_30 : decode cX0_setHolder 30 = .ok (.iinc 4 1, 3) := by decide +kernel
theorem dX0_setHolder_33 : decode cX0_setHolder 33 = .ok (.goto (-30), 3) := by decide +kernel
theorem dX0_setHolder_36 : decode cX0_setHolder 36 = .ok (.return_, 1) := by decide +kernel
set_option maxRecDepth 20000 in
theorem ggX0_isTakenByOther_X0_holderAt : GoodIn wsX0_isTakenByOther wsX0_holderAt := goodIn_r _ [6, 7, 8, 9, 10, 5, 11, 12, 27, 28, 29] (by decide +kernel) (by decide +kernel)
set_option maxRecDepth 20000 in
theorem gX0_isTakenByOther_X0_holderAt : GoodIn wsX0_isTakenByOther (wsV RX0 32 RX0 yX0_holderAt wsX0_holderAt) := goodIn_app (goodIn_of _ (by decide +kernel)) ggX0_isTakenByOther_X0_holderAt
theorem dX0_isTakenByOther_0 : decode cX0_isTakenByOther 0 = .ok (.iconst 0, 1) := by decide +kernel
theorem dX0_isTakenByOther_1 : decode cX0_isTakenByOther 1 = .ok (.istore_n 3, 1) := by decide +kernel
theorem dX0_isTakenByOther_2 : decode cX0_isTakenByOther 2 = .ok (.iload_n 3, 1) := by decide +kernel
theorem dX0_isTakenByOther_3 : decode cX0_isTakenByOther 3 = .ok (.aload_n 1, 1) := by decide +kernel
theorem dX0_isTakenByOther_4 : decode cX0_isTakenByOther 4 = .ok (.getfield 29, 3) := by decide +kernel
theorem dX0_isTakenByOther_7 : decode cX0_isTakenByOther 7 = .ok (.if_icmp .ge 31, 3) := by decide +kernel
theorem dX0_isTakenByOther_10 : decode cX0_isTakenByOther 10 = .ok (.aload_n 0, 1) := by decide +kernel
theorem dX0_isTakenByOther_11 : decode cX0_isTakenByOther 11 = .ok (.iload_n 2, 1) := by decide +kernel
theorem dX0_isTakenByOther_12 : decode cX0_isTakenByOther 12 = .ok (.iload_n 3, 1) := by decide +kernel
theorem dX0_isTakenByOther_13 : decode cX0_isTakenByOther 13 = .ok (.iadd, 1) := by decide +kernel
theorem dX0_isTakenByOther_14 : decode cX0_isTakenByOther 14 = .ok (.invokevirtual 32, 3) := by decide +kernel
theorem dX0_isTakenByOther_17 : decode cX0_isTakenByOther 17 = .ok (.astore 4, 2) := by decide +kernel
theorem dX0_isTakenByOther_19 : decode cX0_isTakenByOther 19 = .ok (.aload 4, 2) := by decide +kernel
theorem dX0_isTakenByOther_21 : decode cX0_isTakenByOther 21 = .ok (.ifnull 11, 3) := by decide +kernel
theorem dX0_isTakenByOther_24 : decode cX0_isTakenByOther 24 = .ok (.aload 4, 2) := by decide +kernel
theorem dX0_isTakenByOther_26 : decode cX0_isTakenByOther 26 = .ok (.aload_n 1, 1) := by decide +kernel
theorem dX0_isTakenByOther_27 : decode cX0_isTakenByOther 27 = .ok (.if_acmp .eq 5, 3) := by decide +kernel
theorem dX0_isTakenByOther_30 : decode cX0_isTakenByOther 30 = .ok (.iconst 1, 1) := by decide +kernel
theorem dX0_isTakenByOther_31 : decode cX0_isTakenByOther 31 = .ok (.ireturn, 1) := by decide +kernel
theorem dX0_isTakenByOther_32 : decode cX0_isTakenByOther 32 = .ok (.iinc 3 1, 3) := by decide +kernel
theorem dX0_isTakenByOther_35 : decode cX0_isTakenByOther 35 = .ok (.goto (-33), 3) := by decide +kernel
theorem dX0_isTakenByOther_38 : decode cX0_isTakenByOther 38 = .ok (.iconst 0, 1) := by decide +kernel
theorem dX0_isTakenByOther_39 : decode cX0_isTakenByOther 39 = .ok (.ireturn, 1) := by decide +kernel
set_option maxRecDepth 20000 in
theorem ggX0_isOpenFor_X0_holderAt : GoodIn wsX0_isOpenFor wsX0_holderAt := goodIn_r _ [5, 6, 7, 8, 9, 4, 10, 11, 17, 18, 19] (by decide +kernel) (by decide +kernel)
set_option maxRecDepth 20000 in
theorem gX0_isOpenFor_X0_holderAt : GoodIn wsX0_isOpenFor (wsV RX0 32 RX0 yX0_holderAt wsX0_holderAt) := goodIn_app (goodIn_of _ (by decide +kernel)) ggX0_isOpenFor_X0_holderAt
set_option maxRecDepth 20000 in
theorem ggX0_isOpenFor_X0_isMarked : GoodIn wsX0_isOpenFor wsX0_isMarked := goodIn_r _ [15, 16, 7, 8, 9, 4, 10, 11, 17, 18, 19] (by decide +kernel) (by decide +kernel)
set_option maxRecDepth 20000 in
theorem gX0_isOpenFor_X0_isMarked : GoodIn wsX0_isOpenFor (wsV RX0 36 RX0 yX0_isMarked wsX0_isMarked) := goodIn_app (goodIn_of _ (by decide +kernel)) ggX0_isOpenFor_X0_isMarked
theorem dX0_isOpenFor_0 : decode cX0_isOpenFor 0 = .ok (.aload_n 0, 1) := by decide +kernel
theorem dX0_isOpenFor_1 : decode cX0_isOpenFor 1 = .ok (.iload_n 2, 1) := by decide +kernel
theorem dX0_isOpenFor_2 : decode cX0_isOpenFor 2 = .ok (.invokevirtual 32, 3) := by decide +kernel
theorem dX0_isOpenFor_5 : decode cX0_isOpenFor 5 = .ok (.astore_n 3, 1) := by decide +kernel
theorem dX0_isOpenFor_6 : decode cX0_isOpenFor 6 = .ok (.aload_n 3, 1) := by decide +kernel
theorem dX0_isOpenFor_7 : decode cX0_isOpenFor 7 = .ok (.ifnull 8, 3) := by decide +kernel
theorem dX0_isOpenFor_10 : decode cX0_isOpenFor 10 = .ok (.aload_n 3, 1) := by decide +kernel
theorem dX0_isOpenFor_11 : decode cX0_isOpenFor 11 = .ok (.aload_n 1, 1) := by decide +kernel
theorem dX0_isOpenFor_12 : decode cX0_isOpenFor 12 = .ok (.if_acmp .ne 17, 3) := by decide +kernel
theorem dX0_isOpenFor_15 : decode cX0_isOpenFor 15 = .ok (.aload_n 0, 1) := by decide +kernel
theorem dX0_isOpenFor_16 : decode cX0_isOpenFor 16 = .ok (.iload_n 2, 1) := by decide +kernel
theorem dX0_isOpenFor_17 : decode cX0_isOpenFor 17 = .ok (.iconst 1, 1) := by decide +kernel
theorem dX0_isOpenFor_18 : decode cX0_isOpenFor 18 = .ok (.iconst 3, 1) := by decide +kernel
theorem dX0_isOpenFor_19 : decode cX0_isOpenFor 19 = .ok (.invokevirtual 36, 3) := by decide +kernel
theorem dX0_isOpenFor_22 : decode cX0_isOpenFor 22 = .ok (.ifCond .ne 7, 3) := by decide +kernel
theorem dX0_isOpenFor_25 : decode cX0_isOpenFor 25 = .ok (.iconst 1, 1) := by decide +kernel
theorem dX0_isOpenFor_26 : decode cX0_isOpenFor 26 = .ok (.goto 4, 3) := by decide +kernel
theorem dX0_isOpenFor_29 : decode cX0_isOpenFor 29 = .ok (.iconst 0, 1) := by decide +kernel
theorem dX0_isOpenFor_30 : decode cX0_isOpenFor 30 = .ok (.ireturn, 1) := by decide +kernel
set_option maxRecDepth 20000 in
theorem ggX0_countMarked_X6_oneIf : GoodIn wsX0_countMarked wsX6_oneIf := goodIn_r _ [5] (by decide +kernel) (by decide +kernel)
set_option maxRecDepth 20000 in
theorem gX0_countMarked_X6_oneIf_n40 : GoodIn wsX0_countMarked (wsX6_oneIf) := ggX0_countMarked_X6_oneIf
theorem dX0_countMarked_0 : decode cX0_countMarked 0 = .ok (.iconst 0, 1) := by decide +kernel
theorem dX0_countMarked_1 : decode cX0_countMarked 1 = .ok (.istore_n 2, 1) := by decide +kernel
theorem dX0_countMarked_2 : decode cX0_countMarked 2 = .ok (.iconst 0, 1) := by decide +kernel
theorem dX0_countMarked_3 : decode cX0_countMarked 3 = .ok (.istore_n 3, 1) := by decide +kernel
theorem dX0_countMarked_4 : decode cX0_countMarked 4 = .ok (.iload_n 3, 1) := by decide +kernel
theorem dX0_countMarked_5 : decode cX0_countMarked 5 = .ok (.aload_n 0, 1) := by decide +kernel
theorem dX0_countMarked_6 : decode cX0_countMarked 6 = .ok (.getfield 21, 3) := by decide +kernel
theorem dX0_countMarked_9 : decode cX0_countMarked 9 = .ok (.if_icmp .ge 31, 3) := by decide +kernel
theorem dX0_countMarked_12 : decode cX0_countMarked 12 = .ok (.iload_n 2, 1) := by decide +kernel
theorem dX0_countMarked_13 : decode cX0_countMarked 13 = .ok (.aload_n 0, 1) := by decide +kernel
theorem dX0_countMarked_14 : decode cX0_countMarked 14 = .ok (.getfield 9, 3) := by decide +kernel
theorem dX0_countMarked_17 : decode cX0_countMarked 17 = .ok (.iload_n 3, 1) := by decide +kernel
theorem dX0_countMarked_18 : decode cX0_countMarked 18 = .ok (.iaload, 1) := by decide +kernel
theorem dX0_countMarked_19 : decode cX0_countMarked 19 = .ok (.iload_n 1, 1) := by decide +kernel
theorem dX0_countMarked_20 : decode cX0_countMarked 20 = .ok (.iand, 1) := by decide +kernel
theorem dX0_countMarked_21 : decode cX0_countMarked 21 = .ok (.ifCond .eq 7, 3) := by decide +kernel
theorem dX0_countMarked_24 : decode cX0_countMarked 24 = .ok (.iconst 1, 1) := by decide +kernel
theorem dX0_countMarked_25 : decode cX0_countMarked 25 = .ok (.goto 4, 3) := by decide +kernel
theorem dX0_countMarked_28 : decode cX0_countMarked 28 = .ok (.iconst 0, 1) := by decide +kernel
theorem dX0_countMarked_29 : decode cX0_countMarked 29 = .ok (.invokestatic 40, 3) := by decide +kernel
theorem dX0_countMarked_32 : decode cX0_countMarked 32 = .ok (.iadd, 1) := by decide +kernel
theorem dX0_countMarked_33 : decode cX0_countMarked 33 = .ok (.istore_n 2, 1) := by decide +kernel
theorem dX0_countMarked_34 : decode cX0_countMarked 34 = .ok (.iinc 3 1, 3) := by decide +kernel
theorem dX0_countMarked_37 : decode cX0_countMarked 37 = .ok (.goto (-33), 3) := by decide +kernel
theorem dX0_countMarked_40 : decode cX0_countMarked 40 = .ok (.iload_n 2, 1) := by decide +kernel
theorem dX0_countMarked_41 : decode cX0_countMarked 41 = .ok (.ireturn, 1) := by decide +kernel
set_option maxRecDepth 20000 in
theorem ggX0_countTaken_X6_oneIf : GoodIn wsX0_countTaken wsX6_oneIf := goodIn_r _ [5] (by decide +kernel) (by decide +kernel)
set_option maxRecDepth 20000 in
theorem gX0_countTaken_X6_oneIf_n40 : GoodIn wsX0_countTaken (wsX6_oneIf) := ggX0_countTaken_X6_oneIf
theorem dX0_countTaken_0 : decode cX0_countTaken 0 = .ok (.iconst 0, 1) := by decide +kernel
theorem dX0_countTaken_1 : decode cX0_countTaken 1 = .ok (.istore_n 1, 1) := by decide +kernel
theorem dX0_countTaken_2 : decode cX0_countTaken 2 = .ok (.iconst 0, 1) := by decide +kernel
theorem dX0_countTaken_3 : decode cX0_countTaken 3 = .ok (.istore_n 2, 1) := by decide +kernel
theorem dX0_countTaken_4 : decode cX0_countTaken 4 = .ok (.iload_n 2, 1) := by decide +kernel
theorem dX0_countTaken_5 : decode cX0_countTaken 5 = .ok (.aload_n 0, 1) := by decide +kernel
theorem dX0_countTaken_6 : decode cX0_countTaken 6 = .ok (.getfield 21, 3) := by decide +kernel
theorem dX0_countTaken_9 : decode cX0_countTaken 9 = .ok (.if_icmp .ge 29, 3) := by decide +kernel
theorem dX0_countTaken_12 : decode cX0_countTaken 12 = .ok (.iload_n 1, 1) := by decide +kernel
theorem dX0_countTaken_13 : decode cX0_countTaken 13 = .ok (.aload_n 0, 1) := by decide +kernel
theorem dX0_countTaken_14 : decode cX0_countTaken 14 = .ok (.getfield 17, 3) := by decide +kernel
theorem dX0_countTaken_17 : decode cX0_countTaken 17 = .ok (.iload_n 2, 1) := by decide +kernel
theorem dX0_countTaken_18 : decode cX0_countTaken 18 = .ok (.aaload, 1) := by decide +kernel
theorem dX0_countTaken_19 : decode cX0_countTaken 19 = .ok (.ifnull 7, 3) := by decide +kernel
theorem dX0_countTaken_22 : decode cX0_countTaken 22 = .ok (.iconst 1, 1) := by decide +kernel
theorem dX0_countTaken_23 : decode cX0_countTaken 23 = .ok (.goto 4, 3) := by decide +kernel
theorem dX0_countTaken_26 : decode cX0_countTaken 26 = .ok (.iconst 0, 1) := by decide +kernel
theorem dX0_countTaken_27 : decode cX0_countTaken 27 = .ok (.invokestatic 40, 3) := by decide +kernel
theorem dX0_countTaken_30 : decode cX0_countTaken 30 = .ok (.iadd, 1) := by decide +kernel
theorem dX0_countTaken_31 : decode cX0_countTaken 31 = .ok (.istore_n 1, 1) := by decide +kernel
theorem dX0_countTaken_32 : decode cX0_countTaken 32 = .ok (.iinc 2 1, 3) := by decide +kernel
theorem dX0_countTaken_35 : decode cX0_countTaken 35 = .ok (.goto (-31), 3) := by decide +kernel
theorem dX0_countTaken_38 : decode cX0_countTaken 38 = .ok (.iload_n 1, 1) := by decide +kernel
theorem dX0_countTaken_39 : decode cX0_countTaken 39 = .ok (.ireturn, 1) := by decide +kernel
theorem dX1_init_0 : decode cX1_init 0 = .ok (.aload_n 0, 1) := by decide +kernel
theorem dX1_init_1 : decode cX1_init 1 = .ok (.invokespecial 3, 3) := by decide +kernel
theorem dX1_init_4 : decode cX1_init 4 = .ok (.return_, 1) := by decide +kernel
theorem dX1_put_0 : decode cX1_put 0 = .ok (.aload_n 0, 1) := by decide +kernel
theorem dX1_put_1 : decode cX1_put 1 = .ok (.iconst 1, 1) := by decide +kernel
theorem dX1_put_2 : decode cX1_put 2 = .ok (.putfield 9, 3) := by decide +kernel
theorem dX1_put_5 : decode cX1_put 5 = .ok (.aload_n 0, 1) := by decide +kernel
theorem dX1_put_6 : decode cX1_put 6 = .ok (.iload_n 1, 1) := by decide +kernel
theorem dX1_put_7 : decode cX1_put 7 = .ok (.putfield 15, 3) := by decide +kernel
theorem dX1_put_10 : decode cX1_put 10 = .ok (.aload_n 0, 1) := by decide +kernel
theorem dX1_put_11 : decode cX1_put 11 = .ok (.iload_n 2, 1) := by decide +kernel
theorem dX1_put_12 : decode cX1_put 12 = .ok (.putfield 19, 3) := by decide +kernel
theorem dX1_put_15 : decode cX1_put 15 = .ok (.return_, 1) := by decide +kernel
theorem dX1_remove_0 : decode cX1_remove 0 = .ok (.aload_n 0, 1) := by decide +kernel
theorem dX1_remove_1 : decode cX1_remove 1 = .ok (.iconst 0, 1) := by decide +kernel
theorem dX1_remove_2 : decode cX1_remove 2 = .ok (.putfield 9, 3) := by decide +kernel
theorem dX1_remove_5 : decode cX1_remove 5 = .ok (.return_, 1) := by decide +kernel
theorem dX1_code_0 : decode cX1_code 0 = .ok (.aload_n 0, 1) := by decide +kernel
theorem dX1_code_1 : decode cX1_code 1 = .ok (.getfield 9, 3) := by decide +kernel
theorem dX1_code_4 : decode cX1_code 4 = .ok (.ifCond .eq 19, 3) := by decide +kernel
theorem dX1_code_7 : decode cX1_code 7 = .ok (.aload_n 0, 1) := by decide +kernel
theorem dX1_code_8 : decode cX1_code 8 = .ok (.getfield 15, 3) := by decide +kernel
theorem dX1_code_11 : decode cX1_code 11 = .ok (.sipush 200, 3) := by decide +kernel
theorem dX1_code_14 : decode cX1_code 14 = .ok (.imul, 1) := by decide +kernel
theorem dX1_code_15 : decode cX1_code 15 = .ok (.aload_n 0, 1) := by decide +kernel
theorem dX1_code_16 : decode cX1_code 16 = .ok (.getfield 19, 3) := by decide +kernel
theorem dX1_code_19 : decode cX1_code 19 = .ok (.iadd, 1) := by decide +kernel
theorem dX1_code_20 : decode cX1_code 20 = .ok (.goto 4, 3) := by decide +kernel
theorem dX1_code_23 : decode cX1_code 23 = .ok (.iconst (-1), 1) := by decide +kernel
theorem dX1_code_24 : decode cX1_code 24 = .ok (.ireturn, 1) := by decide +kernel
set_option maxRecDepth 20000 in
theorem ggX2_init_X1_init : GoodIn wsX2_init wsX1_init := goodIn_r _ [9, 10, 2, 3] (by decide +kernel) (by decide +kernel)
set_option maxRecDepth 20000 in
theorem gX2_init_X1_init_n9 : GoodIn wsX2_init (wsX1_init) := ggX2_init_X1_init
theorem dX2_init_0 : decode cX2_init 0 = .ok (.aload_n 0, 1) := by decide +kernel
theorem dX2_init_1 : decode cX2_init 1 = .ok (.invokespecial 1, 3) := by decide +kernel
theorem dX2_init_4 : decode cX2_init 4 = .ok (.aload_n 0, 1) := by decide +kernel
theorem dX2_init_5 : decode cX2_init 5 = .ok (.new 7, 3) := by decide +kernel
theorem dX2_init_8 : decode cX2_init 8 = .ok (.dup, 1) := by decide +kernel
theorem dX2_init_9 : decode cX2_init 9 = .ok (.invokespecial 9, 3) := by decide +kernel
theorem dX2_init_12 : decode cX2_init 12 = .ok (.putfield 10, 3) := by decide +kernel
theorem dX2_init_15 : decode cX2_init 15 = .ok (.return_, 1) := by decide +kernel
theorem dX2_clear_0 : decode cX2_clear 0 = .ok (.aload_n 0, 1) := by decide +kernel
theorem dX2_clear_1 : decode cX2_clear 1 = .ok (.iconst 0, 1) := by decide +kernel
theorem dX2_clear_2 : decode cX2_clear 2 = .ok (.putfield 16, 3) := by decide +kernel
theorem dX2_clear_5 : decode cX2_clear 5 = .ok (.aload_n 0, 1) := by decide +kernel
theorem dX2_clear_6 : decode cX2_clear 6 = .ok (.iconst 0, 1) := by decide +kernel
theorem dX2_clear_7 : decode cX2_clear 7 = .ok (.putfield 20, 3) := by decide +kernel
theorem dX2_clear_10 : decode cX2_clear 10 = .ok (.aload_n 0, 1) := by decide +kernel
theorem dX2_clear_11 : decode cX2_clear 11 = .ok (.iconst 0, 1) := by decide +kernel
theorem dX2_clear_12 : decode cX2_clear 12 = .ok (.putfield 23, 3) := by decide +kernel
theorem dX2_clear_15 : decode cX2_clear 15 = .ok (.aload_n 0, 1) := by decide +kernel
theorem dX2_clear_16 : decode cX2_clear 16 = .ok (.iconst 0, 1) := by decide +kernel
theorem dX2_clear_17 : decode cX2_clear 17 = .ok (.putfield 26, 3) := by decide +kernel
theorem dX2_clear_20 : decode cX2_clear 20 = .ok (.aload_n 0, 1) := by decide +kernel
theorem dX2_clear_21 : decode cX2_clear 21 = .ok (.iconst 0, 1) := by decide +kernel
theorem dX2_clear_22 : decode cX2_clear 22 = .ok (.putfield 29, 3) := by decide +kernel
theorem dX2_clear_25 : decode cX2_clear 25 = .ok (.aload_n 0, 1) := by decide +kernel
theorem dX2_clear_26 : decode cX2_clear 26 = .ok (.iconst 0, 1) := by decide +kernel
theorem dX2_clear_27 : decode cX2_clear 27 = .ok (.putfield 32, 3) := by decide +kernel
theorem dX2_clear_30 : decode cX2_clear 30 = .ok (.return_, 1) := by decide +kernel
theorem dX3_init_0 : decode cX3_init 0 = .ok (.aload_n 0, 1) := by decide +kernel
theorem dX3_init_1 : decode cX3_init 1 = .ok (.invokespecial 1, 3) := by decide +kernel
theorem dX3_init_4 : decode cX3_init 4 = .ok (.aload_n 0, 1) := by decide +kernel
theorem dX3_init_5 : decode cX3_init 5 = .ok (.iload_n 1, 1) := by decide +kernel
theorem dX3_init_6 : decode cX3_init 6 = .ok (.putfield 7, 3) := by decide +kernel
theorem dX3_init_9 : decode cX3_init 9 = .ok (.aload_n 0, 1) := by decide +kernel
theorem dX3_init_10 : decode cX3_init 10 = .ok (.iload_n 2, 1) := by decide +kernel
theorem dX3_init_11 : decode cX3_init 11 = .ok (.putfield 13, 3) := by decide +kernel
theorem dX3_init_14 : decode cX3_init 14 = .ok (.aload_n 0, 1) := by decide +kernel
theorem dX3_init_15 : decode cX3_init 15 = .ok (.iload_n 3, 1) := by decide +kernel
theorem dX3_init_16 : decode cX3_init 16 = .ok (.putfield 16, 3) := by decide +kernel
theorem dX3_init_19 : decode cX3_init 19 = .ok (.aload_n 0, 1) := by decide +kernel
theorem dX3_init_20 : decode cX3_init 20 = .ok (.iload 4, 2) := by decide +kernel
theorem dX3_init_22 : decode cX3_init 22 = .ok (.putfield 19, 3) := by decide +kernel
theorem dX3_init_25 : decode cX3_init 25 = .ok (.return_, 1) := by decide +kernel
theorem dX3_isPairedWith_0 : decode cX3_isPairedWith 0 = .ok (.aload_n 0, 1) := by decide +kernel
theorem dX3_isPairedWith_1 : decode cX3_isPairedWith 1 = .ok (.getfield 23, 3) := by decide +kernel
theorem dX3_isPairedWith_4 : decode cX3_isPairedWith 4 = .ok (.aload_n 1, 1) := by decide +kernel
theorem dX3_isPairedWith_5 : decode cX3_isPairedWith 5 = .ok (.getfield 7, 3) := by decide +kernel
theorem dX3_isPairedWith_8 : decode cX3_isPairedWith 8 = .ok (.ishr, 1) := by decide +kernel
theorem dX3_isPairedWith_9 : decode cX3_isPairedWith 9 = .ok (.iconst 1, 1) := by decide +kernel
theorem dX3_isPairedWith_10 : decode cX3_isPairedWith 10 = .ok (.iand, 1) := by decide +kernel
theorem dX3_isPairedWith_11 : decode cX3_isPairedWith 11 = .ok (.iconst 1, 1) := by decide +kernel
theorem dX3_isPairedWith_12 : decode cX3_isPairedWith 12 = .ok (.if_icmp .ne 7, 3) := by decide +kernel
theorem dX3_isPairedWith_15 : decode cX3_isPairedWith 15 = .ok (.iconst 1, 1) := by decide +kernel
theorem dX3_isPairedWith_16 : decode cX3_isPairedWith 16 = .ok (.goto 4, 3) := by decide +kernel
theorem dX3_isPairedWith_19 : decode cX3_isPairedWith 19 = .ok (.iconst 0, 1) := by decide +kernel
theorem dX3_isPairedWith_20 : decode cX3_isPairedWith 20 = .ok (.ireturn, 1) := by decide +kernel
theorem dX3_setPaired_0 : decode cX3_setPaired 0 = .ok (.iconst 1, 1) := by decide +kernel
theorem dX3_setPaired_1 : decode cX3_setPaired 1 = .ok (.aload_n 1, 1) := by decide +kernel
theorem dX3_setPaired_2 : decode cX3_setPaired 2 = .ok (.getfield 7, 3) := by decide +kernel
theorem dX3_setPaired_5 : decode cX3_setPaired 5 = .ok (.ishl, 1) := by decide +kernel
theorem dX3_setPaired_6 : decode cX3_setPaired 6 = .ok (.istore_n 3, 1) := by decide +kernel
theorem dX3_setPaired_7 : decode cX3_setPaired 7 = .ok (.aload_n 0, 1) := by decide +kernel
theorem dX3_setPaired_8 : decode cX3_setPaired 8 = .ok (.iload_n 2, 1) := by decide +kernel
theorem dX3_setPaired_9 : decode cX3_setPaired 9 = .ok (.ifCond .eq 12, 3) := by decide +kernel
theorem dX3_setPaired_12 : decode cX3_setPaired 12 = .ok (.aload_n 0, 1) := by decide +kernel
theorem dX3_setPaired_13 : decode cX3_setPaired 13 = .ok (.getfield 23, 3) := by decide +kernel
theorem dX3_setPaired_16 : decode cX3_setPaired 16 = .ok (.iload_n 3, 1) := by decide +kernel
theorem dX3_setPaired_17 : decode cX3_setPaired 17 = .ok (.ior, 1) := by decide +kernel
theorem dX3_setPaired_18 : decode cX3_setPaired 18 = .ok (.goto 11, 3) := by decide +kernel
theorem dX3_setPaired_21 : decode cX3_setPaired 21 = .ok (.aload_n 0, 1) := by decide +kernel
theorem dX3_setPaired_22 : decode cX3_setPaired 22 = .ok (.getfield 23, 3) := by decide +kernel
theorem dX3_setPaired_25 : decode cX3_setPaired 25 = .ok (.iload_n 3, 1) := by decide +kernel
theorem dX3_setPaired_26 : decode cX3_setPaired 26 = .ok (.iconst (-1), 1) := by decide +kernel
theorem dX3_setPaired_27 : decode cX3_setPaired 27 = .ok (.ixor, 1) := by decide +kernel
theorem dX3_setPaired_28 : decode cX3_setPaired 28 = .ok (.iand, 1) := by decide +kernel
theorem dX3_setPaired_29 : decode cX3_setPaired 29 = .ok (.putfield 23, 3) := by decide +kernel
theorem dX3_setPaired_32 : decode cX3_setPaired 32 = .ok (.return_, 1) := by decide +kernel
set_option maxRecDepth 20000 in
theorem ggX4_init_X1_init : GoodIn wsX4_init wsX1_init := goodIn_r _ [24, 25, 2, 3] (by decide +kernel) (by decide +kernel)
set_option maxRecDepth 20000 in
theorem gX4_init_X1_init_n11 : GoodIn wsX4_init (wsX1_init) := ggX4_init_X1_init
set_option maxRecDepth 20000 in
theorem ggX4_init_X5_init : GoodIn wsX4_init wsX5_init := goodIn_r _ [27, 28, 2, 3, 29, 30, 31, 54, 55, 56, 57] (by decide +kernel) (by decide +kernel)
set_option maxRecDepth 20000 in
theorem gX4_init_X5_init_n20 : GoodIn wsX4_init (wsX5_init) := ggX4_init_X5_init
set_option maxRecDepth 20000 in
theorem ggX4_init_X2_init : GoodIn wsX4_init wsX2_init := goodIn_r _ [33, 34, 2, 3, 35, 5, 6, 36, 23, 24, 25, 37, 38, 39, 58, 59, 60, 61, 62, 63, 64, 65] (by decide +kernel) (by decide +kernel)
set_option maxRecDepth 20000 in
theorem gX4_init_X2_init_n27 : GoodIn wsX4_init (wsX2_init) := ggX4_init_X2_init
theorem dX4_init_0 : decode cX4_init 0 = .ok (.aload_n 0, 1) := by decide +kernel
theorem dX4_init_1 : decode cX4_init 1 = .ok (.invokespecial 3, 3) := by decide +kernel
theorem dX4_init_4 : decode cX4_init 4 = .ok (.aload_n 0, 1) := by decide +kernel
theorem dX4_init_5 : decode cX4_init 5 = .ok (.new 9, 3) := by decide +kernel
theorem dX4_init_8 : decode cX4_init 8 = .ok (.dup, 1) := by decide +kernel
theorem dX4_init_9 : decode cX4_init 9 = .ok (.invokespecial 11, 3) := by decide +kernel
theorem dX4_init_12 : decode cX4_init 12 = .ok (.putfield 12, 3) := by decide +kernel
theorem dX4_init_15 : decode cX4_init 15 = .ok (.aload_n 0, 1) := by decide +kernel
theorem dX4_init_16 : decode cX4_init 16 = .ok (.new 18, 3) := by decide +kernel
theorem dX4_init_19 : decode cX4_init 19 = .ok (.dup, 1) := by decide +kernel
theorem dX4_init_20 : decode cX4_init 20 = .ok (.invokespecial 20, 3) := by decide +kernel
theorem dX4_init_23 : decode cX4_init 23 = .ok (.putfield 21, 3) := by decide +kernel
theorem dX4_init_26 : decode cX4_init 26 = .ok (.aload_n 0, 1) := by decide +kernel
theorem dX4_init_27 : decode cX4_init 27 = .ok (.new 25, 3) := by decide +kernel
theorem dX4_init_30 : decode cX4_init 30 = .ok (.dup, 1) := by decide +kernel
theorem dX4_init_31 : decode cX4_init 31 = .ok (.invokespecial 27, 3) := by decide +kernel
theorem dX4_init_34 : decode cX4_init 34 = .ok (.putfield 28, 3) := by decide +kernel
theorem dX4_init_37 : decode cX4_init 37 = .ok (.aload_n 0, 1) := by decide +kernel
theorem dX4_init_38 : decode cX4_init 38 = .ok (.sipush 4095, 3) := by decide +kernel
theorem dX4_init_41 : decode cX4_init 41 = .ok (.putfield 32, 3) := by decide +kernel
theorem dX4_init_44 : decode cX4_init 44 = .ok (.aload_n 0, 1) := by decide +kernel
theorem dX4_init_45 : decode cX4_init 45 = .ok (.iconst (-1), 1) := by decide +kernel
theorem dX4_init_46 : decode cX4_init 46 = .ok (.putfield 36, 3) := by decide +kernel
theorem dX4_init_49 : decode cX4_init 49 = .ok (.aload_n 0, 1) := by decide +kernel
theorem dX4_init_50 : decode cX4_init 50 = .ok (.iload_n 1, 1) := by decide +kernel
theorem dX4_init_51 : decode cX4_init 51 = .ok (.putfield 39, 3) := by decide +kernel
theorem dX4_init_54 : decode cX4_init 54 = .ok (.aload_n 0, 1) := by decide +kernel
theorem dX4_init_55 : decode cX4_init 55 = .ok (.iload_n 2, 1) := by decide +kernel
theorem dX4_init_56 : decode cX4_init 56 = .ok (.putfield 42, 3) := by decide +kernel
theorem dX4_init_59 : decode cX4_init 59 = .ok (.aload_n 0, 1) := by decide +kernel
theorem dX4_init_60 : decode cX4_init 60 = .ok (.aload_n 3, 1) := by decide +kernel
theorem dX4_init_61 : decode cX4_init 61 = .ok (.putfield 45, 3) := by decide +kernel
theorem dX4_init_64 : decode cX4_init 64 = .ok (.aload_n 0, 1) := by decide +kernel
theorem dX4_init_65 : decode cX4_init 65 = .ok (.iload 4, 2) := by decide +kernel
theorem dX4_init_67 : decode cX4_init 67 = .ok (.putfield 49, 3) := by decide +kernel
theorem dX4_init_70 : decode cX4_init 70 = .ok (.aload_n 0, 1) := by decide +kernel
theorem dX4_init_71 : decode cX4_init 71 = .ok (.iload 5, 2) := by decide +kernel
theorem dX4_init_73 : decode cX4_init 73 = .ok (.putfield 52, 3) := by decide +kernel
theorem dX4_init_76 : decode cX4_init 76 = .ok (.return_, 1) := by decide +kernel
theorem dX4_isWaiting_0 : decode cX4_isWaiting 0 = .ok (.aload_n 0, 1) := by decide +kernel
theorem dX4_isWaiting_1 : decode cX4_isWaiting 1 = .ok (.getfield 28, 3) := by decide +kernel
theorem dX4_isWaiting_4 : decode cX4_isWaiting 4 = .ok (.getfield 55, 3) := by decide +kernel
theorem dX4_isWaiting_7 : decode cX4_isWaiting 7 = .ok (.ifCond .eq 30, 3) := by decide +kernel
theorem dX4_isWaiting_10 : decode cX4_isWaiting 10 = .ok (.aload_n 0, 1) := by decide +kernel
theorem dX4_isWaiting_11 : decode cX4_isWaiting 11 = .ok (.getfield 28, 3) := by decide +kernel
theorem dX4_isWaiting_14 : decode cX4_isWaiting 14 = .ok (.getfield 59, 3) := by decide +kernel
theorem dX4_isWaiting_17 : decode cX4_isWaiting 17 = .ok (.getfield 62, 3) := by decide +kernel
theorem dX4_isWaiting_20 : decode cX4_isWaiting 20 = .ok (.ifCond .ne 17, 3) := by decide +kernel
theorem dX4_isWaiting_23 : decode cX4_isWaiting 23 = .ok (.aload_n 0, 1) := by decide +kernel
theorem dX4_isWaiting_24 : decode cX4_isWaiting 24 = .ok (.getfield 28, 3) := by decide +kernel
theorem dX4_isWaiting_27 : decode cX4_isWaiting 27 = .ok (.getfield 65, 3) := by decide +kernel
theorem dX4_isWaiting_30 : decode cX4_isWaiting 30 = .ok (.ifCond .ne 7, 3) := by decide +kernel
theorem dX4_isWaiting_33 : decode cX4_isWaiting 33 = .ok (.iconst 1, 1) := by decide +kernel
theorem dX4_isWaiting_34 : decode cX4_isWaiting 34 = .ok (.goto 4, 3) := by decide +kernel
theorem dX4_isWaiting_37 : decode cX4_isWaiting 37 = .ok (.iconst 0, 1) := by decide +kernel
theorem dX4_isWaiting_38 : decode cX4_isWaiting 38 = .ok (.ireturn, 1) := by decide +kernel
theorem dX4_isInDebt_0 : decode cX4_isInDebt 0 = .ok (.aload_n 0, 1) := by decide +kernel
theorem dX4_isInDebt_1 : decode cX4_isInDebt 1 = .ok (.getfield 68, 3) := by decide +kernel
theorem dX4_isInDebt_4 : decode cX4_isInDebt 4 = .ok (.ldc2_w 72, 3) := by decide +kernel
theorem dX4_isInDebt_7 : decode cX4_isInDebt 7 = .ok (.lcmp, 1) := by decide +kernel
theorem dX4_isInDebt_8 : decode cX4_isInDebt 8 = .ok (.ifCond .le 7, 3) := by decide +kernel
theorem dX4_isInDebt_11 : decode cX4_isInDebt 11 = .ok (.iconst 1, 1) := by decide +kernel
theorem dX4_isInDebt_12 : decode cX4_isInDebt 12 = .ok (.goto 4, 3) := by decide +kernel
theorem dX4_isInDebt_15 : decode cX4_isInDebt 15 = .ok (.iconst 0, 1) := by decide +kernel
theorem dX4_isInDebt_16 : decode cX4_isInDebt 16 = .ok (.ireturn, 1) := by decide +kernel
theorem dX4_isOfMonth_0 : decode cX4_isOfMonth 0 = .ok (.aload_n 0, 1) := by decide +kernel
theorem dX4_isOfMonth_1 : decode cX4_isOfMonth 1 = .ok (.getfield 32, 3) := by decide +kernel
theorem dX4_isOfMonth_4 : decode cX4_isOfMonth 4 = .ok (.iload_n 1, 1) := by decide +kernel
theorem dX4_isOfMonth_5 : decode cX4_isOfMonth 5 = .ok (.ishr, 1) := by decide +kernel
theorem dX4_isOfMonth_6 : decode cX4_isOfMonth 6 = .ok (.iconst 1, 1) := by decide +kernel
theorem dX4_isOfMonth_7 : decode cX4_isOfMonth 7 = .ok (.iand, 1) := by decide +kernel
theorem dX4_isOfMonth_8 : decode cX4_isOfMonth 8 = .ok (.iconst 1, 1) := by decide +kernel
theorem dX4_isOfMonth_9 : decode cX4_isOfMonth 9 = .ok (.if_icmp .ne 7, 3) := by decide +kernel
theorem dX4_isOfMonth_12 : decode cX4_isOfMonth 12 = .ok (.iconst 1, 1) := by decide +kernel
theorem dX4_isOfMonth_13 : decode cX4_isOfMonth 13 = .ok (.goto 4, 3) := by decide +kernel
theorem dX4_isOfMonth_16 : decode cX4_isOfMonth 16 = .ok (.iconst 0, 1) := by decide +kernel
theorem dX4_isOfMonth_17 : decode cX4_isOfMonth 17 = .ok (.ireturn, 1) := by decide +kernel
theorem dX5_init_0 : decode cX5_init 0 = .ok (.aload_n 0, 1) := by decide +kernel
theorem dX5_init_1 : decode cX5_init 1 = .ok (.invokespecial 3, 3) := by decide +kernel
theorem dX5_init_4 : decode cX5_init 4 = .ok (.aload_n 0, 1) := by decide +kernel
theorem dX5_init_5 : decode cX5_init 5 = .ok (.bipush 12, 2) := by decide +kernel
theorem dX5_init_7 : decode cX5_init 7 = .ok (.newarray .int, 2) := by decide +kernel
theorem dX5_init_9 : decode cX5_init 9 = .ok (.putfield 9, 3) := by decide +kernel
theorem dX5_init_12 : decode cX5_init 12 = .ok (.aload_n 0, 1) := by decide +kernel
theorem dX5_init_13 : decode cX5_init 13 = .ok (.bipush 12, 2) := by decide +kernel
theorem dX5_init_15 : decode cX5_init 15 = .ok (.newarray .int, 2) := by decide +kernel
theorem dX5_init_17 : decode cX5_init 17 = .ok (.putfield 15, 3) := by decide +kernel
theorem dX5_init_20 : decode cX5_init 20 = .ok (.return_, 1) := by decide +kernel
theorem dX5_add_0 : decode cX5_add 0 = .ok (.aload_n 0, 1) := by decide +kernel
theorem dX5_add_1 : decode cX5_add 1 = .ok (.getfield 18, 3) := by decide +kernel
theorem dX5_add_4 : decode cX5_add 4 = .ok (.bipush 12, 2) := by decide +kernel
theorem dX5_add_6 : decode cX5_add 6 = .ok (.if_icmp .lt 5, 3) := by decide +kernel
theorem dX5_add_9 : decode cX5_add 9 = .ok (.iconst (-1), 1) := by decide +kernel
theorem dX5_add_10 : decode cX5_add 10 = .ok (.ireturn, 1) := by decide +kernel
theorem dX5_add_11 : decode cX5_add 11 = .ok (.aload_n 0, 1) := by decide +kernel
theorem dX5_add_12 : decode cX5_add 12 = .ok (.getfield 9, 3) := by decide +kernel
theorem dX5_add_15 : decode cX5_add 15 = .ok (.aload_n 0, 1) := by decide +kernel
theorem dX5_add_16 : decode cX5_add 16 = .ok (.getfield 18, 3) := by decide +kernel
theorem dX5_add_19 : decode cX5_add 19 = .ok (.iload_n 1, 1) := by decide +kernel
theorem dX5_add_20 : decode cX5_add 20 = .ok (.iastore, 1) := by decide +kernel
theorem dX5_add_21 : decode cX5_add 21 = .ok (.aload_n 0, 1) := by decide +kernel
theorem dX5_add_22 : decode cX5_add 22 = .ok (.getfield 15, 3) := by decide +kernel
theorem dX5_add_25 : decode cX5_add 25 = .ok (.aload_n 0, 1) := by decide +kernel
theorem dX5_add_26 : decode cX5_add 26 = .ok (.getfield 18, 3) := by decide +kernel
theorem dX5_add_29 : decode cX5_add 29 = .ok (.iload_n 2, 1) := by decide +kernel
theorem dX5_add_30 : decode cX5_add 30 = .ok (.iastore, 1) := by decide +kernel
theorem dX5_add_31 : decode cX5_add 31 = .ok (.aload_n 0, 1) := by decide +kernel
theorem dX5_add_32 : decode cX5_add 32 = .ok (.dup, 1) := by decide +kernel
theorem dX5_add_33 : decode cX5_add 33 = .ok (.getfield 18, 3) := by decide +kernel
theorem dX5_add_36 : decode cX5_add 36 = .ok (.iconst 1, 1) := by decide +kernel
theorem dX5_add_37 : decode cX5_add 37 = .ok (.iadd, 1) := by decide +kernel
theorem dX5_add_38 : decode cX5_add 38 = .ok (.putfield 18, 3) := by decide +kernel
theorem dX5_add_41 : decode cX5_add 41 = .ok (.aload_n 0, 1) := by decide +kernel
theorem dX5_add_42 : decode cX5_add 42 = .ok (.getfield 18, 3) := by decide +kernel
theorem dX5_add_45 : decode cX5_add 45 = .ok (.ireturn, 1) := by decide +kernel
theorem dX5_empty_0 : decode cX5_empty 0 = .ok (.aload_n 0, 1) := by decide +kernel
theorem dX5_empty_1 : decode cX5_empty 1 = .ok (.iconst 0, 1) := by decide +kernel
theorem dX5_empty_2 : decode cX5_empty 2 = .ok (.putfield 18, 3) := by decide +kernel
theorem dX5_empty_5 : decode cX5_empty 5 = .ok (.aload_n 0, 1) := by decide +kernel
theorem dX5_empty_6 : decode cX5_empty 6 = .ok (.iload_n 1, 1) := by decide +kernel
theorem dX5_empty_7 : decode cX5_empty 7 = .ok (.putfield 22, 3) := by decide +kernel
theorem dX5_empty_10 : decode cX5_empty 10 = .ok (.return_, 1) := by decide +kernel
set_option maxRecDepth 20000 in
theorem ggX6_init_X0_init : GoodIn wsX6_init wsX0_init := goodIn_r _ [15, 16, 2, 3, 17, 18, 19, 20, 39, 40, 41] (by decide +kernel) (by decide +kernel)
set_option maxRecDepth 20000 in
theorem gX6_init_X0_init_n33 : GoodIn wsX6_init (wsX0_init) := ggX6_init_X0_init
theorem dX6_init_0 : decode cX6_init 0 = .ok (.aload_n 0, 1) := by decide +kernel
theorem dX6_init_1 : decode cX6_init 1 = .ok (.invokespecial 3, 3) := by decide +kernel
theorem dX6_init_4 : decode cX6_init 4 = .ok (.aload_n 0, 1) := by decide +kernel
theorem dX6_init_5 : decode cX6_init 5 = .ok (.bipush 40, 2) := by decide +kernel
theorem dX6_init_7 : decode cX6_init 7 = .ok (.anewarray 9, 3) := by decide +kernel
theorem dX6_init_10 : decode cX6_init 10 = .ok (.putfield 11, 3) := by decide +kernel
theorem dX6_init_13 : decode cX6_init 13 = .ok (.aload_n 0, 1) := by decide +kernel
theorem dX6_init_14 : decode cX6_init 14 = .ok (.bipush 20, 2) := by decide +kernel
theorem dX6_init_16 : decode cX6_init 16 = .ok (.anewarray 15, 3) := by decide +kernel
theorem dX6_init_19 : decode cX6_init 19 = .ok (.putfield 17, 3) := by decide +kernel
theorem dX6_init_22 : decode cX6_init 22 = .ok (.aload_n 0, 1) := by decide +kernel
theorem dX6_init_23 : decode cX6_init 23 = .ok (.sipush 200, 3) := by decide +kernel
theorem dX6_init_26 : decode cX6_init 26 = .ok (.anewarray 21, 3) := by decide +kernel
theorem dX6_init_29 : decode cX6_init 29 = .ok (.putfield 23, 3) := by decide +kernel
theorem dX6_init_32 : decode cX6_init 32 = .ok (.aload_n 0, 1) := by decide +kernel
theorem dX6_init_33 : decode cX6_init 33 = .ok (.sipush 200, 3) := by decide +kernel
theorem dX6_init_36 : decode cX6_init 36 = .ok (.anewarray 21, 3) := by decide +kernel
theorem dX6_init_39 : decode cX6_init 39 = .ok (.putfield 27, 3) := by decide +kernel
theorem dX6_init_42 : decode cX6_init 42 = .ok (.aload_n 0, 1) := by decide +kernel
theorem dX6_init_43 : decode cX6_init 43 = .ok (.sipush 200, 3) := by decide +kernel
theorem dX6_init_46 : decode cX6_init 46 = .ok (.anewarray 21, 3) := by decide +kernel
theorem dX6_init_49 : decode cX6_init 49 = .ok (.putfield 30, 3) := by decide +kernel
theorem dX6_init_52 : decode cX6_init 52 = .ok (.iconst 0, 1) := by decide +kernel
theorem dX6_init_53 : decode cX6_init 53 = .ok (.istore_n 1, 1) := by decide +kernel
theorem dX6_init_54 : decode cX6_init 54 = .ok (.iload_n 1, 1) := by decide +kernel
theorem dX6_init_55 : decode cX6_init 55 = .ok (.bipush 40, 2) := by decide +kernel
theorem dX6_init_57 : decode cX6_init 57 = .ok (.if_icmp .ge 22, 3) := by decide +kernel
theorem dX6_init_60 : decode cX6_init 60 = .ok (.aload_n 0, 1) := by decide +kernel
theorem dX6_init_61 : decode cX6_init 61 = .ok (.getfield 11, 3) := by decide +kernel
theorem dX6_init_64 : decode cX6_init 64 = .ok (.iload_n 1, 1) := by decide +kernel
theorem dX6_init_65 : decode cX6_init 65 = .ok (.new 9, 3) := by decide +kernel
theorem dX6_init_68 : decode cX6_init 68 = .ok (.dup, 1) := by decide +kernel
theorem dX6_init_69 : decode cX6_init 69 = .ok (.invokespecial 33, 3) := by decide +kernel
theorem dX6_init_72 : decode cX6_init 72 = .ok (.aastore, 1) := by decide +kernel
theorem dX6_init_73 : decode cX6_init 73 = .ok (.iinc 1 1, 3) := by decide +kernel
theorem dX6_init_76 : decode cX6_init 76 = .ok (.goto (-22), 3) := by decide +kernel
theorem dX6_init_79 : decode cX6_init 79 = .ok (.return_, 1) := by decide +kernel
set_option maxRecDepth 20000 in
theorem ggX6_row_X6_knownRow : GoodIn wsX6_row wsX6_knownRow := goodIn_ca (goodIn_r _ [7, 8, 9, 10, 11, 12, 6, 13, 14, 29, 30, 31, 32, 33, 34, 35, 36, 37, 38, 39, 40, 41, 42, 43, 44, 45, 46] (by decide +kernel) (by decide +kernel)) (goodIn_sub (fun _ h => List.mem_cons_of_mem _ (List.mem_append_left _ (List.mem_append_right _ h))) (by decide +kernel))
set_option maxRecDepth 20000 in
theorem gX6_row_X6_knownRow : GoodIn wsX6_row (wsV RX6 34 RX6 yX6_knownRow wsX6_knownRow) := goodIn_app (goodIn_of _ (by decide +kernel)) ggX6_row_X6_knownRow
set_option maxRecDepth 20000 in
theorem ggX6_row_X6_needTime : GoodIn wsX6_row wsX6_needTime := goodIn_ca (goodIn_r _ [18, 19, 20, 21, 29, 30, 31, 32, 33, 34, 35, 36, 37, 38, 39, 40, 41, 42, 43, 44, 45, 46] (by decide +kernel) (by decide +kernel)) (goodIn_sub (fun _ h => List.mem_cons_of_mem _ (List.mem_append_right _ h)) (by decide +kernel))
set_option maxRecDepth 20000 in
theorem gX6_row_X6_needTime : GoodIn wsX6_row (wsV RX6 45 RX6 yX6_needTime wsX6_needTime) := goodIn_app (goodIn_of _ (by decide +kernel)) ggX6_row_X6_needTime
set_option maxRecDepth 20000 in
theorem ggX6_row_X0_lay : GoodIn wsX6_row wsX0_lay := goodIn_r _ [26, 27, 28, 47, 48, 49] (by decide +kernel) (by decide +kernel)
set_option maxRecDepth 20000 in
theorem gX6_row_X0_lay : GoodIn wsX6_row (wsV RX6 49 RX0 yX0_lay wsX0_lay) := goodIn_app (goodIn_of _ (by decide +kernel)) ggX6_row_X0_lay
theorem dX6_row_0 : decode cX6_row 0 = .ok (.aload_n 0, 1) := by decide +kernel
theorem dX6_row_1 : decode cX6_row 1 = .ok (.iload_n 1, 1) := by decide +kernel
theorem dX6_row_2 : decode cX6_row 2 = .ok (.invokevirtual 34, 3) := by decide +kernel
theorem dX6_row_5 : decode cX6_row 5 = .ok (.astore_n 3, 1) := by decide +kernel
theorem dX6_row_6 : decode cX6_row 6 = .ok (.iload_n 2, 1) := by decide +kernel
theorem dX6_row_7 : decode cX6_row 7 = .ok (.ifCond .lt 10, 3) := by decide +kernel
theorem dX6_row_10 : decode cX6_row 10 = .ok (.iload_n 2, 1) := by decide +kernel
theorem dX6_row_11 : decode cX6_row 11 = .ok (.sipush 200, 3) := by decide +kernel
theorem dX6_row_14 : decode cX6_row 14 = .ok (.if_icmp .le 13, 3) := by decide +kernel
theorem dX6_row_17 : decode cX6_row 17 = .ok (.new 38, 3) := by decide +kernel
theorem dX6_row_20 : decode cX6_row 20 = .ok (.dup, 1) := by decide +kernel
theorem dX6_row_21 : decode cX6_row 21 = .ok (.ldc 40, 2) := by decide +kernel
theorem dX6_row_23 : decode cX6_row 23 = .ok (.invokespecial 42, 3) := by decide +kernel
theorem dX6_row_26 : decode cX6_row 26 = .ok (.athrow, 1) := by decide +kernel
theorem dX6_row_27 : decode cX6_row 27 = .ok (.aload_n 0, 1) := by decide +kernel
theorem dX6_row_28 : decode cX6_row 28 = .ok (.iconst 0, 1) := by decide +kernel
theorem dX6_row_29 : decode cX6_row 29 = .ok (.iconst 0, 1) := by decide +kernel
theorem dX6_row_30 : decode cX6_row 30 = .ok (.invokevirtual 45, 3) := by decide +kernel
theorem dX6_row_33 : decode cX6_row 33 = .ok (.aload_n 3, 1) := by decide +kernel
theorem dX6_row_34 : decode cX6_row 34 = .ok (.iload_n 2, 1) := by decide +kernel
theorem dX6_row_35 : decode cX6_row 35 = .ok (.invokevirtual 49, 3) := by decide +kernel
theorem dX6_row_38 : decode cX6_row 38 = .ok (.return_, 1) := by decide +kernel
set_option maxRecDepth 20000 in
theorem ggX6_mark_X6_knownRow : GoodIn wsX6_mark wsX6_knownRow := goodIn_ca (goodIn_r _ [9, 1, 2, 10, 11, 12, 8, 13, 14, 34, 35, 36, 37, 38, 39, 40, 41, 42, 43, 44, 45, 46, 47, 48, 49, 50, 51] (by decide +kernel) (by decide +kernel)) (goodIn_sub (fun _ h => List.mem_cons_of_mem _ (List.mem_append_left _ (List.mem_append_left _ (List.mem_append_right _ h)))) (by decide +kernel))
set_option maxRecDepth 20000 in
theorem gX6_mark_X6_knownRow : GoodIn wsX6_mark (wsV RX6 34 RX6 yX6_knownRow wsX6_knownRow) := goodIn_app (goodIn_of _ (by decide +kernel)) ggX6_mark_X6_knownRow
set_option maxRecDepth 20000 in
theorem ggX6_mark_X0_has : GoodIn wsX6_mark wsX0_has := goodIn_r _ [19, 20, 52, 53, 54] (by decide +kernel) (by decide +kernel)
set_option maxRecDepth 20000 in
theorem gX6_mark_X0_has : GoodIn wsX6_mark (wsV RX6 53 RX0 yX0_has wsX0_has) := goodIn_app (goodIn_of _ (by decide +kernel)) ggX6_mark_X0_has
set_option maxRecDepth 20000 in
theorem ggX6_mark_X6_needTime : GoodIn wsX6_mark wsX6_needTime := goodIn_ca (goodIn_r _ [24, 25, 26, 27, 34, 35, 36, 37, 38, 39, 40, 41, 42, 43, 44, 45, 46, 47, 48, 49, 50, 51] (by decide +kernel) (by decide +kernel)) (goodIn_sub (fun _ h => List.mem_cons_of_mem _ (List.mem_append_right _ h)) (by decide +kernel))
set_option maxRecDepth 20000 in
theorem gX6_mark_X6_needTime : GoodIn wsX6_mark (wsV RX6 45 RX6 yX6_needTime wsX6_needTime) := goodIn_app (goodIn_of _ (by decide +kernel)) ggX6_mark_X6_needTime
set_option maxRecDepth 20000 in
theorem ggX6_mark_X0_setMark : GoodIn wsX6_mark wsX0_setMark := goodIn_r _ [31, 32, 33, 16, 17, 18, 19, 20, 52, 53, 54] (by decide +kernel) (by decide +kernel)
set_option maxRecDepth 20000 in
theorem gX6_mark_X0_setMark : GoodIn wsX6_mark (wsV RX6 64 RX0 yX0_setMark wsX0_setMark) := goodIn_app (goodIn_of _ (by decide +kernel)) ggX6_mark_X0_setMark
theorem dX6_mark_0 : decode cX6_mark 0 = .ok (.aload_n 0, 1) := by decide +kernel
theorem dX6_mark_1 : decode cX6_mark 1 = .ok (.iload_n 1, 1) := by decide +kernel
theorem dX6_mark_2 : decode cX6_mark 2 = .ok (.invokevirtual 34, 3) := by decide +kernel
theorem dX6_mark_5 : decode cX6_mark 5 = .ok (.astore 5, 2) := by decide +kernel
theorem dX6_mark_7 : decode cX6_mark 7 = .ok (.aload 5, 2) := by decide +kernel
theorem dX6_mark_9 : decode cX6_mark 9 = .ok (.iload_n 2, 1) := by decide +kernel
theorem dX6_mark_10 : decode cX6_mark 10 = .ok (.invokevirtual 53, 3) := by decide +kernel
theorem dX6_mark_13 : decode cX6_mark 13 = .ok (.ifCond .ne 13, 3) := by decide +kernel
theorem dX6_mark_16 : decode cX6_mark 16 = .ok (.new 57, 3) := by decide +kernel
theorem dX6_mark_19 : decode cX6_mark 19 = .ok (.dup, 1) := by decide +kernel
theorem dX6_mark_20 : decode cX6_mark 20 = .ok (.ldc 59, 2) := by decide +kernel
theorem dX6_mark_22 : decode cX6_mark 22 = .ok (.invokespecial 61, 3) := by decide +kernel
theorem dX6_mark_25 : decode cX6_mark 25 = .ok (.athrow, 1) := by decide +kernel
theorem dX6_mark_26 : decode cX6_mark 26 = .ok (.iload_n 3, 1) := by decide +kernel
theorem dX6_mark_27 : decode cX6_mark 27 = .ok (.ifCond .lt 8, 3) := by decide +kernel
theorem dX6_mark_30 : decode cX6_mark 30 = .ok (.iload_n 3, 1) := by decide +kernel
theorem dX6_mark_31 : decode cX6_mark 31 = .ok (.iconst 2, 1) := by decide +kernel
theorem dX6_mark_32 : decode cX6_mark 32 = .ok (.if_icmp .le 13, 3) := by decide +kernel
theorem dX6_mark_35 : decode cX6_mark 35 = .ok (.new 38, 3) := by decide +kernel
theorem dX6_mark_38 : decode cX6_mark 38 = .ok (.dup, 1) := by decide +kernel
theorem dX6_mark_39 : decode cX6_mark 39 = .ok (.ldc 62, 2) := by decide +kernel
theorem dX6_mark_41 : decode cX6_mark 41 = .ok (.invokespecial 42, 3) := by decide +kernel
theorem dX6_mark_44 : decode cX6_mark 44 = .ok (.athrow, 1) := by decide +kernel
theorem dX6_mark_45 : decode cX6_mark 45 = .ok (.aload_n 0, 1) := by decide +kernel
theorem dX6_mark_46 : decode cX6_mark 46 = .ok (.iconst 0, 1) := by decide +kernel
theorem dX6_mark_47 : decode cX6_mark 47 = .ok (.iconst 0, 1) := by decide +kernel
theorem dX6_mark_48 : decode cX6_mark 48 = .ok (.invokevirtual 45, 3) := by decide +kernel
theorem dX6_mark_51 : decode cX6_mark 51 = .ok (.aload 5, 2) := by decide +kernel
theorem dX6_mark_53 : decode cX6_mark 53 = .ok (.iload_n 2, 1) := by decide +kernel
theorem dX6_mark_54 : decode cX6_mark 54 = .ok (.iconst 1, 1) := by decide +kernel
theorem dX6_mark_55 : decode cX6_mark 55 = .ok (.iload_n 3, 1) := by decide +kernel
theorem dX6_mark_56 : decode cX6_mark 56 = .ok (.ishl, 1) := by decide +kernel
theorem dX6_mark_57 : decode cX6_mark 57 = .ok (.iload 4, 2) := by decide +kernel
theorem dX6_mark_59 : decode cX6_mark 59 = .ok (.invokevirtual 64, 3) := by decide +kernel
theorem dX6_mark_62 : decode cX6_mark 62 = .ok (.ireturn, 1) := by decide +kernel
set_option maxRecDepth 20000 in
theorem ggX6_trade_X3_init : GoodIn wsX6_trade wsX3_init := goodIn_r _ [12, 13, 14, 15, 16, 17, 18, 19, 38, 39, 40, 41, 42, 43] (by decide +kernel) (by decide +kernel)
set_option maxRecDepth 20000 in
theorem gX6_trade_X3_init : GoodIn wsX6_trade (wsX3_init) := ggX6_trade_X3_init
theorem dX6_trade_0 : decode cX6_trade 0 = .ok (.iload_n 1, 1) := by decide +kernel
theorem dX6_trade_1 : decode cX6_trade 1 = .ok (.ifCond .lt 10, 3) := by decide +kernel
theorem dX6_trade_4 : decode cX6_trade 4 = .ok (.iload_n 1, 1) := by decide +kernel
theorem dX6_trade_5 : decode cX6_trade 5 = .ok (.sipush 1000, 3) := by decide +kernel
theorem dX6_trade_8 : decode cX6_trade 8 = .ok (.if_icmp .le 13, 3) := by decide +kernel
theorem dX6_trade_11 : decode cX6_trade 11 = .ok (.new 38, 3) := by decide +kernel
theorem dX6_trade_14 : decode cX6_trade 14 = .ok (.dup, 1) := by decide +kernel
theorem dX6_trade_15 : decode cX6_trade 15 = .ok (.ldc 68, 2) := by decide +kernel
theorem dX6_trade_17 : decode cX6_trade 17 = .ok (.invokespecial 42, 3) := by decide +kernel
theorem dX6_trade_20 : decode cX6_trade 20 = .ok (.athrow, 1) := by decide +kernel
theorem dX6_trade_21 : decode cX6_trade 21 = .ok (.iload_n 2, 1) := by decide +kernel
theorem dX6_trade_22 : decode cX6_trade 22 = .ok (.iconst 1, 1) := by decide +kernel
theorem dX6_trade_23 : decode cX6_trade 23 = .ok (.if_icmp .lt 10, 3) := by decide +kernel
theorem dX6_trade_26 : decode cX6_trade 26 = .ok (.iload_n 2, 1) := by decide +kernel
theorem dX6_trade_27 : decode cX6_trade 27 = .ok (.sipush 200, 3) := by decide +kernel
theorem dX6_trade_30 : decode cX6_trade 30 = .ok (.if_icmp .le 13, 3) := by decide +kernel
theorem dX6_trade_33 : decode cX6_trade 33 = .ok (.new 38, 3) := by decide +kernel
theorem dX6_trade_36 : decode cX6_trade 36 = .ok (.dup, 1) := by decide +kernel
theorem dX6_trade_37 : decode cX6_trade 37 = .ok (.ldc 70, 2) := by decide +kernel
theorem dX6_trade_39 : decode cX6_trade 39 = .ok (.invokespecial 42, 3) := by decide +kernel
theorem dX6_trade_42 : decode cX6_trade 42 = .ok (.athrow, 1) := by decide +kernel
theorem dX6_trade_43 : decode cX6_trade 43 = .ok (.aload_n 0, 1) := by decide +kernel
theorem dX6_trade_44 : decode cX6_trade 44 = .ok (.getfield 72, 3) := by decide +kernel
theorem dX6_trade_47 : decode cX6_trade 47 = .ok (.bipush 20, 2) := by decide +kernel
theorem dX6_trade_49 : decode cX6_trade 49 = .ok (.if_icmp .lt 13, 3) := by decide +kernel
theorem dX6_trade_52 : decode cX6_trade 52 = .ok (.new 76, 3) := by decide +kernel
theorem dX6_trade_55 : decode cX6_trade 55 = .ok (.dup, 1) := by decide +kernel
theorem dX6_trade_56 : decode cX6_trade 56 = .ok (.ldc 78, 2) := by decide +kernel
theorem dX6_trade_58 : decode cX6_trade 58 = .ok (.invokespecial 80, 3) := by decide +kernel
theorem dX6_trade_61 : decode cX6_trade 61 = .ok (.athrow, 1) := by decide +kernel
theorem dX6_trade_62 : decode cX6_trade 62 = .ok (.aload_n 0, 1) := by decide +kernel
theorem dX6_trade_63 : decode cX6_trade 63 = .ok (.getfield 72, 3) := by decide +kernel
theorem dX6_trade_66 : decode cX6_trade 66 = .ok (.istore 4, 2) := by decide +kernel
theorem dX6_trade_68 : decode cX6_trade 68 = .ok (.aload_n 0, 1) := by decide +kernel
theorem dX6_trade_69 : decode cX6_trade 69 = .ok (.getfield 17, 3) := by decide +kernel
theorem dX6_trade_72 : decode cX6_trade 72 = .ok (.iload 4, 2) := by decide +kernel
theorem dX6_trade_74 : decode cX6_trade 74 = .ok (.new 15, 3) := by decide +kernel
theorem dX6_trade_77 : decode cX6_trade 77 = .ok (.dup, 1) := by decide +kernel
theorem dX6_trade_78 : decode cX6_trade 78 = .ok (.iload 4, 2) := by decide +kernel
theorem dX6_trade_80 : decode cX6_trade 80 = .ok (.iload_n 1, 1) := by decide +kernel
theorem dX6_trade_81 : decode cX6_trade 81 = .ok (.iload_n 2, 1) := by decide +kernel
theorem dX6_trade_82 : decode cX6_trade 82 = .ok (.iload_n 3, 1) := by decide +kernel
theorem dX6_trade_83 : decode cX6_trade 83 = .ok (.invokespecial 81, 3) := by decide +kernel
theorem dX6_trade_86 : decode cX6_trade 86 = .ok (.aastore, 1) := by decide +kernel
theorem dX6_trade_87 : decode cX6_trade 87 = .ok (.aload_n 0, 1) := by decide +kernel
theorem dX6_trade_88 : decode cX6_trade 88 = .ok (.dup, 1) := by decide +kernel
theorem dX6_trade_89 : decode cX6_trade 89 = .ok (.getfield 72, 3) := by decide +kernel
theorem dX6_trade_92 : decode cX6_trade 92 = .ok (.iconst 1, 1) := by decide +kernel
theorem dX6_trade_93 : decode cX6_trade 93 = .ok (.iadd, 1) := by decide +kernel
theorem dX6_trade_94 : decode cX6_trade 94 = .ok (.putfield 72, 3) := by decide +kernel
theorem dX6_trade_97 : decode cX6_trade 97 = .ok (.iload 4, 2) := by decide +kernel
theorem dX6_trade_99 : decode cX6_trade 99 = .ok (.ireturn, 1) := by decide +kernel
set_option maxRecDepth 20000 in
theorem ggX6_pair_X6_knownTrade : GoodIn wsX6_pair wsX6_knownTrade := goodIn_ca (goodIn_r _ [5, 6, 7, 8, 27, 28, 29, 30, 31, 32, 33, 34, 35, 36, 37, 38, 39, 40, 41, 42, 43, 44] (by decide +kernel) (by decide +kernel)) (goodIn_sub (fun _ h => List.mem_cons_of_mem _ (List.mem_append_left _ (List.mem_append_right _ h))) (by decide +kernel))
set_option maxRecDepth 20000 in
theorem gX6_pair_X6_knownTrade : GoodIn wsX6_pair (wsV RX6 84 RX6 yX6_knownTrade wsX6_knownTrade) := goodIn_app (goodIn_of _ (by decide +kernel)) ggX6_pair_X6_knownTrade
set_option maxRecDepth 20000 in
theorem ggX6_pair_X6_needTime : GoodIn wsX6_pair wsX6_needTime := goodIn_ca (goodIn_r _ [12, 13, 14, 15, 27, 28, 29, 30, 31, 32, 33, 34, 35, 36, 37, 38, 39, 40, 41, 42, 43, 44] (by decide +kernel) (by decide +kernel)) (goodIn_sub (fun _ h => List.mem_cons_of_mem _ (List.mem_append_right _ h)) (by decide +kernel))
set_option maxRecDepth 20000 in
theorem gX6_pair_X6_needTime : GoodIn wsX6_pair (wsV RX6 45 RX6 yX6_needTime wsX6_needTime) := goodIn_app (goodIn_of _ (by decide +kernel)) ggX6_pair_X6_needTime
set_option maxRecDepth 20000 in
theorem ggX6_pair_X3_isPairedWith : GoodIn wsX6_pair wsX3_isPairedWith := goodIn_r _ [20, 21, 22, 45, 46, 47, 48, 49, 50] (by decide +kernel) (by decide +kernel)
set_option maxRecDepth 20000 in
theorem gX6_pair_X3_isPairedWith : GoodIn wsX6_pair (wsV RX6 88 RX3 yX3_isPairedWith wsX3_isPairedWith) := goodIn_app (goodIn_of _ (by decide +kernel)) ggX6_pair_X3_isPairedWith
set_option maxRecDepth 20000 in
theorem ggX6_pair_X3_setPaired : GoodIn wsX6_pair wsX3_setPaired := goodIn_r _ [26, 22, 21, 45, 46, 47, 48, 49, 50] (by decide +kernel) (by decide +kernel)
set_option maxRecDepth 20000 in
theorem gX6_pair_X3_setPaired : GoodIn wsX6_pair (wsV RX6 92 RX3 yX3_setPaired wsX3_setPaired) := goodIn_app (goodIn_of _ (by decide +kernel)) ggX6_pair_X3_setPaired
theorem dX6_pair_0 : decode cX6_pair 0 = .ok (.aload_n 0, 1) := by decide +kernel
theorem dX6_pair_1 : decode cX6_pair 1 = .ok (.iload_n 1, 1) := by decide +kernel
theorem dX6_pair_2 : decode cX6_pair 2 = .ok (.invokevirtual 84, 3) := by decide +kernel
theorem dX6_pair_5 : decode cX6_pair 5 = .ok (.astore 4, 2) := by decide +kernel
theorem dX6_pair_7 : decode cX6_pair 7 = .ok (.aload_n 0, 1) := by decide +kernel
theorem dX6_pair_8 : decode cX6_pair 8 = .ok (.iload_n 2, 1) := by decide +kernel
theorem dX6_pair_9 : decode cX6_pair 9 = .ok (.invokevirtual 84, 3) := by decide +kernel
theorem dX6_pair_12 : decode cX6_pair 12 = .ok (.astore 5, 2) := by decide +kernel
theorem dX6_pair_14 : decode cX6_pair 14 = .ok (.aload_n 0, 1) := by decide +kernel
theorem dX6_pair_15 : decode cX6_pair 15 = .ok (.iconst 0, 1) := by decide +kernel
theorem dX6_pair_16 : decode cX6_pair 16 = .ok (.iconst 0, 1) := by decide +kernel
theorem dX6_pair_17 : decode cX6_pair 17 = .ok (.invokevirtual 45, 3) := by decide +kernel
theorem dX6_pair_20 : decode cX6_pair 20 = .ok (.aload 4, 2) := by decide +kernel
theorem dX6_pair_22 : decode cX6_pair 22 = .ok (.aload 5, 2) := by decide +kernel
theorem dX6_pair_24 : decode cX6_pair 24 = .ok (.invokevirtual 88, 3) := by decide +kernel
theorem dX6_pair_27 : decode cX6_pair 27 = .ok (.iload_n 3, 1) := by decide +kernel
theorem dX6_pair_28 : decode cX6_pair 28 = .ok (.if_icmp .ne 5, 3) := by decide +kernel
theorem dX6_pair_31 : decode cX6_pair 31 = .ok (.iconst 0, 1) := by decide +kernel
theorem dX6_pair_32 : decode cX6_pair 32 = .ok (.ireturn, 1) := by decide +kernel
theorem dX6_pair_33 : decode cX6_pair 33 = .ok (.aload 4, 2) := by decide +kernel
theorem dX6_pair_35 : decode cX6_pair 35 = .ok (.aload 5, 2) := by decide +kernel
theorem dX6_pair_37 : decode cX6_pair 37 = .ok (.iload_n 3, 1) := by decide +kernel
theorem dX6_pair_38 : decode cX6_pair 38 = .ok (.invokevirtual 92, 3) := by decide +kernel
theorem dX6_pair_41 : decode cX6_pair 41 = .ok (.aload 5, 2) := by decide +kernel
theorem dX6_pair_43 : decode cX6_pair 43 = .ok (.aload 4, 2) := by decide +kernel
theorem dX6_pair_45 : decode cX6_pair 45 = .ok (.iload_n 3, 1) := by decide +kernel
theorem dX6_pair_46 : decode cX6_pair 46 = .ok (.invokevirtual 92, 3) := by decide +kernel
theorem dX6_pair_49 : decode cX6_pair 49 = .ok (.iconst 1, 1) := by decide +kernel
theorem dX6_pair_50 : decode cX6_pair 50 = .ok (.ireturn, 1) := by decide +kernel
set_option maxRecDepth 20000 in
theorem ggX6_trader_X6_knownTrade : GoodIn wsX6_trader wsX6_knownTrade := goodIn_ca (goodIn_r _ [16, 17, 18, 19, 59, 60, 61, 62, 63, 64, 65, 66, 67, 68, 69, 70, 71, 72, 73, 74, 75, 76] (by decide +kernel) (by decide +kernel)) (goodIn_sub (fun _ h => List.mem_cons_of_mem _ (List.mem_append_right _ h)) (by decide +kernel))
set_option maxRecDepth 20000 in
theorem gX6_trader_X6_knownTrade : GoodIn wsX6_trader (wsV RX6 84 RX6 yX6_knownTrade wsX6_knownTrade) := goodIn_app (goodIn_of _ (by decide +kernel)) ggX6_trader_X6_knownTrade
set_option maxRecDepth 20000 in
theorem ggX6_trader_X4_init : GoodIn wsX6_trader wsX4_init := goodIn_r _ [22, 23, 24, 25, 26, 27, 28, 29, 30, 31, 32, 33, 34, 35, 36, 37, 38, 39, 40, 41, 42, 43, 44, 45, 46, 47, 48, 49, 50, 51, 52, 53, 54, 55, 56, 57, 58, 91, 92, 93, 77, 78, 79, 80, 81, 82, 83, 84, 85, 86, 87, 88, 89, 90, 94, 95, 96, 97, 98, 99, 100, 101, 102, 103, 104, 105] (by decide +kernel) (by decide +kernel)
set_option maxRecDepth 20000 in
theorem gX6_trader_X4_init : GoodIn wsX6_trader (wsX4_init) := ggX6_trader_X4_init
theorem dX6_trader_0 : decode cX6_trader 0 = .ok (.aload_n 0, 1) := by decide +kernel
theorem dX6_trader_1 : decode cX6_trader 1 = .ok (.iload_n 2, 1) := by decide +kernel
theorem dX6_trader_2 : decode cX6_trader 2 = .ok (.invokevirtual 84, 3) := by decide +kernel
theorem dX6_trader_5 : decode cX6_trader 5 = .ok (.astore 4, 2) := by decide +kernel
theorem dX6_trader_7 : decode cX6_trader 7 = .ok (.iload_n 1, 1) := by decide +kernel
theorem dX6_trader_8 : decode cX6_trader 8 = .ok (.ifCond .lt 8, 3) := by decide +kernel
theorem dX6_trader_11 : decode cX6_trader 11 = .ok (.iload_n 1, 1) := by decide +kernel
theorem dX6_trader_12 : decode cX6_trader 12 = .ok (.iconst 4, 1) := by decide +kernel
theorem dX6_trader_13 : decode cX6_trader 13 = .ok (.if_icmp .le 13, 3) := by decide +kernel
theorem dX6_trader_16 : decode cX6_trader 16 = .ok (.new 38, 3) := by decide +kernel
theorem dX6_trader_19 : decode cX6_trader 19 = .ok (.dup, 1) := by decide +kernel
theorem dX6_trader_20 : decode cX6_trader 20 = .ok (.ldc 96, 2) := by decide +kernel
theorem dX6_trader_22 : decode cX6_trader 22 = .ok (.invokespecial 42, 3) := by decide +kernel
theorem dX6_trader_25 : decode cX6_trader 25 = .ok (.athrow, 1) := by decide +kernel
theorem dX6_trader_26 : decode cX6_trader 26 = .ok (.iload_n 3, 1) := by decide +kernel
theorem dX6_trader_27 : decode cX6_trader 27 = .ok (.iconst 1, 1) := by decide +kernel
theorem dX6_trader_28 : decode cX6_trader 28 = .ok (.if_icmp .lt 9, 3) := by decide +kernel
theorem dX6_trader_31 : decode cX6_trader 31 = .ok (.iload_n 3, 1) := by decide +kernel
theorem dX6_trader_32 : decode cX6_trader 32 = .ok (.bipush 20, 2) := by decide +kernel
theorem dX6_trader_34 : decode cX6_trader 34 = .ok (.if_icmp .le 13, 3) := by decide +kernel
theorem dX6_trader_37 : decode cX6_trader 37 = .ok (.new 38, 3) := by decide +kernel
theorem dX6_trader_40 : decode cX6_trader 40 = .ok (.dup, 1) := by decide +kernel
theorem dX6_trader_41 : decode cX6_trader 41 = .ok (.ldc 98, 2) := by decide +kernel
theorem dX6_trader_43 : decode cX6_trader 43 = .ok (.invokespecial 42, 3) := by decide +kernel
theorem dX6_trader_46 : decode cX6_trader 46 = .ok (.athrow, 1) := by decide +kernel
theorem dX6_trader_47 : decode cX6_trader 47 = .ok (.aload_n 0, 1) := by decide +kernel
theorem dX6_trader_48 : decode cX6_trader 48 = .ok (.getfield 100, 3) := by decide +kernel
theorem dX6_trader_51 : decode cX6_trader 51 = .ok (.sipush 200, 3) := by decide +kernel
theorem dX6_trader_54 : decode cX6_trader 54 = .ok (.if_icmp .lt 13, 3) := by decide +kernel
theorem dX6_trader_57 : decode cX6_trader 57 = .ok (.new 76, 3) := by decide +kernel
theorem dX6_trader_60 : decode cX6_trader 60 = .ok (.dup, 1) := by decide +kernel
theorem dX6_trader_61 : decode cX6_trader 61 = .ok (.ldc 103, 2) := by decide +kernel
theorem dX6_trader_63 : decode cX6_trader 63 = .ok (.invokespecial 80, 3) := by decide +kernel
theorem dX6_trader_66 : decode cX6_trader 66 = .ok (.athrow, 1) := by decide +kernel
theorem dX6_trader_67 : decode cX6_trader 67 = .ok (.aload_n 0, 1) := by decide +kernel
theorem dX6_trader_68 : decode cX6_trader 68 = .ok (.getfield 100, 3) := by decide +kernel
theorem dX6_trader_71 : decode cX6_trader 71 = .ok (.istore 5, 2) := by decide +kernel
theorem dX6_trader_73 : decode cX6_trader 73 = .ok (.new 21, 3) := by decide +kernel
theorem dX6_trader_76 : decode cX6_trader 76 = .ok (.dup, 1) := by decide +kernel
theorem dX6_trader_77 : decode cX6_trader 77 = .ok (.iload 5, 2) := by decide +kernel
theorem dX6_trader_79 : decode cX6_trader 79 = .ok (.iload_n 1, 1) := by decide +kernel
theorem dX6_trader_80 : decode cX6_trader 80 = .ok (.aload 4, 2) := by decide +kernel
theorem dX6_trader_82 : decode cX6_trader 82 = .ok (.iload_n 3, 1) := by decide +kernel
theorem dX6_trader_83 : decode cX6_trader 83 = .ok (.aload_n 0, 1) := by decide +kernel
theorem dX6_trader_84 : decode cX6_trader 84 = .ok (.getfield 105, 3) := by decide +kernel
theorem dX6_trader_87 : decode cX6_trader 87 = .ok (.invokespecial 108, 3) := by decide +kernel
theorem dX6_trader_90 : decode cX6_trader 90 = .ok (.astore 6, 2) := by decide +kernel
theorem dX6_trader_92 : decode cX6_trader 92 = .ok (.aload_n 0, 1) := by decide +kernel
theorem dX6_trader_93 : decode cX6_trader 93 = .ok (.getfield 23, 3) := by decide +kernel
theorem dX6_trader_96 : decode cX6_trader 96 = .ok (.iload 5, 2) := by decide +kernel
theorem dX6_trader_98 : decode cX6_trader 98 = .ok (.aload 6, 2) := by decide +kernel
theorem dX6_trader_100 : decode cX6_trader 100 = .ok (.aastore, 1) := by decide +kernel
theorem dX6_trader_101 : decode cX6_trader 101 = .ok (.aload_n 0, 1) := by decide +kernel
theorem dX6_trader_102 : decode cX6_trader 102 = .ok (.getfield 27, 3) := by decide +kernel
theorem dX6_trader_105 : decode cX6_trader 105 = .ok (.iload 5, 2) := by decide +kernel
theorem dX6_trader_107 : decode cX6_trader 107 = .ok (.aload 6, 2) := by decide +kernel
theorem dX6_trader_109 : decode cX6_trader 109 = .ok (.aastore, 1) := by decide +kernel
theorem dX6_trader_110 : decode cX6_trader 110 = .ok (.aload_n 0, 1) := by decide +kernel
theorem dX6_trader_111 : decode cX6_trader 111 = .ok (.dup, 1) := by decide +kernel
theorem dX6_trader_112 : decode cX6_trader 112 = .ok (.getfield 100, 3) := by decide +kernel
theorem dX6_trader_115 : decode cX6_trader 115 = .ok (.iconst 1, 1) := by decide +kernel
theorem dX6_trader_116 : decode cX6_trader 116 = .ok (.iadd, 1) := by decide +kernel
theorem dX6_trader_117 : decode cX6_trader 117 = .ok (.putfield 100, 3) := by decide +kernel
theorem dX6_trader_120 : decode cX6_trader 120 = .ok (.aload_n 0, 1) := by decide +kernel
theorem dX6_trader_121 : decode cX6_trader 121 = .ok (.dup, 1) := by decide +kernel
theorem dX6_trader_122 : decode cX6_trader 122 = .ok (.getfield 105, 3) := by decide +kernel
theorem dX6_trader_125 : decode cX6_trader 125 = .ok (.iconst 1, 1) := by decide +kernel
theorem dX6_trader_126 : decode cX6_trader 126 = .ok (.iadd, 1) := by decide +kernel
theorem dX6_trader_127 : decode cX6_trader 127 = .ok (.putfield 105, 3) := by decide +kernel
theorem dX6_trader_130 : decode cX6_trader 130 = .ok (.iload 5, 2) := by decide +kernel
theorem dX6_trader_132 : decode cX6_trader 132 = .ok (.ireturn, 1) := by decide +kernel
set_option maxRecDepth 20000 in
theorem ggX6_pitch_X6_knownTrader : GoodIn wsX6_pitch wsX6_knownTrader := goodIn_ca (goodIn_r _ [9, 10, 11, 12, 42, 43, 44, 45, 46, 47, 48, 49, 50, 51, 52, 53, 54, 55, 56, 57, 58, 59] (by decide +kernel) (by decide +kernel)) (goodIn_sub (fun _ h => List.mem_cons_of_mem _ (List.mem_append_left _ (List.mem_append_right _ h))) (by decide +kernel))
set_option maxRecDepth 20000 in
theorem gX6_pitch_X6_knownTrader : GoodIn wsX6_pitch (wsV RX6 111 RX6 yX6_knownTrader wsX6_knownTrader) := goodIn_app (goodIn_of _ (by decide +kernel)) ggX6_pitch_X6_knownTrader
set_option maxRecDepth 20000 in
theorem ggX6_pitch_X6_needTime : GoodIn wsX6_pitch wsX6_needTime := goodIn_ca (goodIn_r _ [16, 17, 18, 19, 42, 43, 44, 45, 46, 47, 48, 49, 50, 51, 52, 53, 54, 55, 56, 57, 58, 59] (by decide +kernel) (by decide +kernel)) (goodIn_sub (fun _ h => List.mem_cons_of_mem _ (List.mem_append_right _ h)) (by decide +kernel))
set_option maxRecDepth 20000 in
theorem gX6_pitch_X6_needTime : GoodIn wsX6_pitch (wsV RX6 45 RX6 yX6_needTime wsX6_needTime) := goodIn_app (goodIn_of _ (by decide +kernel)) ggX6_pitch_X6_needTime
set_option maxRecDepth 20000 in
theorem ggX6_pitch_X1_put : GoodIn wsX6_pitch wsX1_put := goodIn_r _ [24, 25, 26, 27, 60, 61, 62] (by decide +kernel) (by decide +kernel)
set_option maxRecDepth 20000 in
theorem gX6_pitch_X1_put : GoodIn wsX6_pitch (wsV RX6 124 RX1 yX1_put wsX1_put) := goodIn_app (goodIn_of _ (by decide +kernel)) ggX6_pitch_X1_put
theorem dX6_pitch_0 : decode cX6_pitch 0 = .ok (.aload_n 0, 1) := by decide +kernel
theorem dX6_pitch_1 : decode cX6_pitch 1 = .ok (.iload_n 1, 1) := by decide +kernel
theorem dX6_pitch_2 : decode cX6_pitch 2 = .ok (.invokevirtual 111, 3) := by decide +kernel
theorem dX6_pitch_5 : decode cX6_pitch 5 = .ok (.astore 4, 2) := by decide +kernel
theorem dX6_pitch_7 : decode cX6_pitch 7 = .ok (.aload 4, 2) := by decide +kernel
theorem dX6_pitch_9 : decode cX6_pitch 9 = .ok (.getfield 115, 3) := by decide +kernel
theorem dX6_pitch_12 : decode cX6_pitch 12 = .ok (.ifCond .eq 22, 3) := by decide +kernel
theorem dX6_pitch_15 : decode cX6_pitch 15 = .ok (.aload 4, 2) := by decide +kernel
theorem dX6_pitch_17 : decode cX6_pitch 17 = .ok (.getfield 115, 3) := by decide +kernel
theorem dX6_pitch_20 : decode cX6_pitch 20 = .ok (.iconst 2, 1) := by decide +kernel
theorem dX6_pitch_21 : decode cX6_pitch 21 = .ok (.if_icmp .eq 13, 3) := by decide +kernel
theorem dX6_pitch_24 : decode cX6_pitch 24 = .ok (.new 38, 3) := by decide +kernel
theorem dX6_pitch_27 : decode cX6_pitch 27 = .ok (.dup, 1) := by decide +kernel
theorem dX6_pitch_28 : decode cX6_pitch 28 = .ok (.ldc 118, 2) := by decide +kernel
theorem dX6_pitch_30 : decode cX6_pitch 30 = .ok (.invokespecial 42, 3) := by decide +kernel
theorem dX6_pitch_33 : decode cX6_pitch 33 = .ok (.athrow, 1) := by decide +kernel
theorem dX6_pitch_34 : decode cX6_pitch 34 = .ok (.aload_n 0, 1) := by decide +kernel
theorem dX6_pitch_35 : decode cX6_pitch 35 = .ok (.iconst 0, 1) := by decide +kernel
theorem dX6_pitch_36 : decode cX6_pitch 36 = .ok (.iconst 0, 1) := by decide +kernel
theorem dX6_pitch_37 : decode cX6_pitch 37 = .ok (.invokevirtual 45, 3) := by decide +kernel
theorem dX6_pitch_40 : decode cX6_pitch 40 = .ok (.aload 4, 2) := by decide +kernel
theorem dX6_pitch_42 : decode cX6_pitch 42 = .ok (.getfield 120, 3) := by decide +kernel
theorem dX6_pitch_45 : decode cX6_pitch 45 = .ok (.iload_n 2, 1) := by decide +kernel
theorem dX6_pitch_46 : decode cX6_pitch 46 = .ok (.iload_n 3, 1) := by decide +kernel
theorem dX6_pitch_47 : decode cX6_pitch 47 = .ok (.invokevirtual 124, 3) := by decide +kernel
theorem dX6_pitch_50 : decode cX6_pitch 50 = .ok (.return_, 1) := by decide +kernel
set_option maxRecDepth 20000 in
theorem ggX6_months_X6_knownTrader : GoodIn wsX6_months wsX6_knownTrader := goodIn_ca (goodIn_r _ [9, 10, 11, 12, 34, 35, 36, 37, 38, 39, 40, 41, 42, 43, 44, 45, 46, 47, 48, 49, 50, 51] (by decide +kernel) (by decide +kernel)) (goodIn_sub (fun _ h => List.mem_cons_of_mem _ (List.mem_append_left _ (List.mem_append_right _ h))) (by decide +kernel))
set_option maxRecDepth 20000 in
theorem gX6_months_X6_knownTrader : GoodIn wsX6_months (wsV RX6 111 RX6 yX6_knownTrader wsX6_knownTrader) := goodIn_app (goodIn_of _ (by decide +kernel)) ggX6_months_X6_knownTrader
set_option maxRecDepth 20000 in
theorem ggX6_months_X6_needTime : GoodIn wsX6_months wsX6_needTime := goodIn_ca (goodIn_r _ [16, 17, 18, 19, 34, 35, 36, 37, 38, 39, 40, 41, 42, 43, 44, 45, 46, 47, 48, 49, 50, 51] (by decide +kernel) (by decide +kernel)) (goodIn_sub (fun _ h => List.mem_cons_of_mem _ (List.mem_append_right _ h)) (by decide +kernel))
set_option maxRecDepth 20000 in
theorem gX6_months_X6_needTime : GoodIn wsX6_months (wsV RX6 45 RX6 yX6_needTime wsX6_needTime) := goodIn_app (goodIn_of _ (by decide +kernel)) ggX6_months_X6_needTime
theorem dX6_months_0 : decode cX6_months 0 = .ok (.aload_n 0, 1) := by decide +kernel
theorem dX6_months_1 : decode cX6_months 1 = .ok (.iload_n 1, 1) := by decide +kernel
theorem dX6_months_2 : decode cX6_months 2 = .ok (.invokevirtual 111, 3) := by decide +kernel
theorem dX6_months_5 : decode cX6_months 5 = .ok (.astore_n 3, 1) := by decide +kernel
theorem dX6_months_6 : decode cX6_months 6 = .ok (.aload_n 3, 1) := by decide +kernel
theorem dX6_months_7 : decode cX6_months 7 = .ok (.getfield 115, 3) := by decide +kernel
theorem dX6_months_10 : decode cX6_months 10 = .ok (.iconst 2, 1) := by decide +kernel
theorem dX6_months_11 : decode cX6_months 11 = .ok (.if_icmp .eq 13, 3) := by decide +kernel
theorem dX6_months_14 : decode cX6_months 14 = .ok (.new 38, 3) := by decide +kernel
theorem dX6_months_17 : decode cX6_months 17 = .ok (.dup, 1) := by decide +kernel
theorem dX6_months_18 : decode cX6_months 18 = .ok (.ldc 129, 2) := by decide +kernel
theorem dX6_months_20 : decode cX6_months 20 = .ok (.invokespecial 42, 3) := by decide +kernel
theorem dX6_months_23 : decode cX6_months 23 = .ok (.athrow, 1) := by decide +kernel
theorem dX6_months_24 : decode cX6_months 24 = .ok (.iload_n 2, 1) := by decide +kernel
theorem dX6_months_25 : decode cX6_months 25 = .ok (.ifCond .lt 10, 3) := by decide +kernel
theorem dX6_months_28 : decode cX6_months 28 = .ok (.iload_n 2, 1) := by decide +kernel
theorem dX6_months_29 : decode cX6_months 29 = .ok (.sipush 4095, 3) := by decide +kernel
theorem dX6_months_32 : decode cX6_months 32 = .ok (.if_icmp .le 13, 3) := by decide +kernel
theorem dX6_months_35 : decode cX6_months 35 = .ok (.new 38, 3) := by decide +kernel
theorem dX6_months_38 : decode cX6_months 38 = .ok (.dup, 1) := by decide +kernel
theorem dX6_months_39 : decode cX6_months 39 = .ok (.ldc 131, 2) := by decide +kernel
theorem dX6_months_41 : decode cX6_months 41 = .ok (.invokespecial 42, 3) := by decide +kernel
theorem dX6_months_44 : decode cX6_months 44 = .ok (.athrow, 1) := by decide +kernel
theorem dX6_months_45 : decode cX6_months 45 = .ok (.aload_n 0, 1) := by decide +kernel
theorem dX6_months_46 : decode cX6_months 46 = .ok (.iconst 0, 1) := by decide +kernel
theorem dX6_months_47 : decode cX6_months 47 = .ok (.iconst 0, 1) := by decide +kernel
theorem dX6_months_48 : decode cX6_months 48 = .ok (.invokevirtual 45, 3) := by decide +kernel
theorem dX6_months_51 : decode cX6_months 51 = .ok (.aload_n 3, 1) := by decide +kernel
theorem dX6_months_52 : decode cX6_months 52 = .ok (.iload_n 2, 1) := by decide +kernel
theorem dX6_months_53 : decode cX6_months 53 = .ok (.putfield 133, 3) := by decide +kernel
theorem dX6_months_56 : decode cX6_months 56 = .ok (.return_, 1) := by decide +kernel
set_option maxRecDepth 20000 in
theorem ggX6_wish_X6_knownTrader : GoodIn wsX6_wish wsX6_knownTrader := goodIn_ca (goodIn_r _ [6, 7, 8, 9, 32, 33, 34, 35, 36, 37, 38, 39, 40, 41, 42, 43, 44, 45, 46, 47, 48, 49] (by decide +kernel) (by decide +kernel)) (goodIn_sub (fun _ h => List.mem_cons_of_mem _ (List.mem_append_right _ h)) (by decide +kernel))
set_option maxRecDepth 20000 in
theorem gX6_wish_X6_knownTrader : GoodIn wsX6_wish (wsV RX6 111 RX6 yX6_knownTrader wsX6_knownTrader) := goodIn_app (goodIn_of _ (by decide +kernel)) ggX6_wish_X6_knownTrader
set_option maxRecDepth 20000 in
theorem ggX6_wish_X5_add : GoodIn wsX6_wish wsX5_add := goodIn_r _ [14, 15, 16, 17, 50, 51, 52, 53] (by decide +kernel) (by decide +kernel)
set_option maxRecDepth 20000 in
theorem gX6_wish_X5_add : GoodIn wsX6_wish (wsV RX6 140 RX5 yX5_add wsX5_add) := goodIn_app (goodIn_of _ (by decide +kernel)) ggX6_wish_X5_add
theorem dX6_wish_0 : decode cX6_wish 0 = .ok (.aload_n 0, 1) := by decide +kernel
theorem dX6_wish_1 : decode cX6_wish 1 = .ok (.iload_n 1, 1) := by decide +kernel
theorem dX6_wish_2 : decode cX6_wish 2 = .ok (.invokevirtual 111, 3) := by decide +kernel
theorem dX6_wish_5 : decode cX6_wish 5 = .ok (.getfield 136, 3) := by decide +kernel
theorem dX6_wish_8 : decode cX6_wish 8 = .ok (.iload_n 2, 1) := by decide +kernel
theorem dX6_wish_9 : decode cX6_wish 9 = .ok (.iload_n 3, 1) := by decide +kernel
theorem dX6_wish_10 : decode cX6_wish 10 = .ok (.invokevirtual 140, 3) := by decide +kernel
theorem dX6_wish_13 : decode cX6_wish 13 = .ok (.ireturn, 1) := by decide +kernel
set_option maxRecDepth 20000 in
theorem ggX6_wishes_X6_knownTrader : GoodIn wsX6_wishes wsX6_knownTrader := goodIn_ca (goodIn_r _ [6, 7, 8, 9, 31, 32, 33, 34, 35, 36, 37, 38, 39, 40, 41, 42, 43, 44, 45, 46, 47, 48] (by decide +kernel) (by decide +kernel)) (goodIn_sub (fun _ h => List.mem_cons_of_mem _ (List.mem_append_right _ h)) (by decide +kernel))
set_option maxRecDepth 20000 in
theorem gX6_wishes_X6_knownTrader : GoodIn wsX6_wishes (wsV RX6 111 RX6 yX6_knownTrader wsX6_knownTrader) := goodIn_app (goodIn_of _ (by decide +kernel)) ggX6_wishes_X6_knownTrader
set_option maxRecDepth 20000 in
theorem ggX6_wishes_X5_empty : GoodIn wsX6_wishes wsX5_empty := goodIn_r _ [14, 15, 16, 49, 50, 51, 52] (by decide +kernel) (by decide +kernel)
set_option maxRecDepth 20000 in
theorem gX6_wishes_X5_empty : GoodIn wsX6_wishes (wsV RX6 146 RX5 yX5_empty wsX5_empty) := goodIn_app (goodIn_of _ (by decide +kernel)) ggX6_wishes_X5_empty
theorem dX6_wishes_0 : decode cX6_wishes 0 = .ok (.aload_n 0, 1) := by decide +kernel
theorem dX6_wishes_1 : decode cX6_wishes 1 = .ok (.iload_n 1, 1) := by decide +kernel
theorem dX6_wishes_2 : decode cX6_wishes 2 = .ok (.invokevirtual 111, 3) := by decide +kernel
theorem dX6_wishes_5 : decode cX6_wishes 5 = .ok (.getfield 136, 3) := by decide +kernel
theorem dX6_wishes_8 : decode cX6_wishes 8 = .ok (.iload_n 2, 1) := by decide +kernel
theorem dX6_wishes_9 : decode cX6_wishes 9 = .ok (.invokevirtual 146, 3) := by decide +kernel
theorem dX6_wishes_12 : decode cX6_wishes 12 = .ok (.return_, 1) := by decide +kernel
set_option maxRecDepth 20000 in
theorem ggX6_want_X6_knownTrader : GoodIn wsX6_want wsX6_knownTrader := goodIn_ca (goodIn_r _ [6, 7, 8, 9, 24, 25, 26, 27, 28, 29, 30, 31, 32, 33, 34, 35, 36, 37, 38, 39, 40, 41] (by decide +kernel) (by decide +kernel)) (goodIn_sub (fun _ h => List.mem_cons_of_mem _ (List.mem_append_right _ h)) (by decide +kernel))
set_option maxRecDepth 20000 in
theorem gX6_want_X6_knownTrader : GoodIn wsX6_want (wsV RX6 111 RX6 yX6_knownTrader wsX6_knownTrader) := goodIn_app (goodIn_of _ (by decide +kernel)) ggX6_want_X6_knownTrader
theorem dX6_want_0 : decode cX6_want 0 = .ok (.aload_n 0, 1) := by decide +kernel
theorem dX6_want_1 : decode cX6_want 1 = .ok (.iload_n 1, 1) := by decide +kernel
theorem dX6_want_2 : decode cX6_want 2 = .ok (.invokevirtual 111, 3) := by decide +kernel
theorem dX6_want_5 : decode cX6_want 5 = .ok (.iload_n 2, 1) := by decide +kernel
theorem dX6_want_6 : decode cX6_want 6 = .ok (.putfield 150, 3) := by decide +kernel
theorem dX6_want_9 : decode cX6_want 9 = .ok (.return_, 1) := by decide +kernel
set_option maxRecDepth 20000 in
theorem ggX6_day_X6_needTime : GoodIn wsX6_day wsX6_needTime := goodIn_ca (goodIn_r _ [11, 12, 13, 5, 14, 15, 16, 17, 18, 19, 20, 21, 22, 23, 24, 25, 26, 27, 28, 29, 30, 31] (by decide +kernel) (by decide +kernel)) (goodIn_sub (fun _ h => List.mem_cons_of_mem _ (List.mem_append_right _ h)) (by decide +kernel))
set_option maxRecDepth 20000 in
theorem gX6_day_X6_needTime : GoodIn wsX6_day (wsV RX6 45 RX6 yX6_needTime wsX6_needTime) := goodIn_app (goodIn_of _ (by decide +kernel)) ggX6_day_X6_needTime
theorem dX6_day_0 : decode cX6_day 0 = .ok (.iload_n 1, 1) := by decide +kernel
theorem dX6_day_1 : decode cX6_day 1 = .ok (.ifCond .lt 9, 3) := by decide +kernel
theorem dX6_day_4 : decode cX6_day 4 = .ok (.iload_n 1, 1) := by decide +kernel
theorem dX6_day_5 : decode cX6_day 5 = .ok (.bipush 12, 2) := by decide +kernel
theorem dX6_day_7 : decode cX6_day 7 = .ok (.if_icmp .lt 13, 3) := by decide +kernel
theorem dX6_day_10 : decode cX6_day 10 = .ok (.new 38, 3) := by decide +kernel
theorem dX6_day_13 : decode cX6_day 13 = .ok (.dup, 1) := by decide +kernel
theorem dX6_day_14 : decode cX6_day 14 = .ok (.ldc 154, 2) := by decide +kernel
theorem dX6_day_16 : decode cX6_day 16 = .ok (.invokespecial 42, 3) := by decide +kernel
theorem dX6_day_19 : decode cX6_day 19 = .ok (.athrow, 1) := by decide +kernel
theorem dX6_day_20 : decode cX6_day 20 = .ok (.aload_n 0, 1) := by decide +kernel
theorem dX6_day_21 : decode cX6_day 21 = .ok (.iconst 0, 1) := by decide +kernel
theorem dX6_day_22 : decode cX6_day 22 = .ok (.iconst 0, 1) := by decide +kernel
theorem dX6_day_23 : decode cX6_day 23 = .ok (.invokevirtual 45, 3) := by decide +kernel
theorem dX6_day_26 : decode cX6_day 26 = .ok (.aload_n 0, 1) := by decide +kernel
theorem dX6_day_27 : decode cX6_day 27 = .ok (.iload_n 1, 1) := by decide +kernel
theorem dX6_day_28 : decode cX6_day 28 = .ok (.putfield 156, 3) := by decide +kernel
theorem dX6_day_31 : decode cX6_day 31 = .ok (.aload_n 0, 1) := by decide +kernel
theorem dX6_day_32 : decode cX6_day 32 = .ok (.iconst 0, 1) := by decide +kernel
theorem dX6_day_33 : decode cX6_day 33 = .ok (.putfield 159, 3) := by decide +kernel
theorem dX6_day_36 : decode cX6_day 36 = .ok (.aload_n 0, 1) := by decide +kernel
theorem dX6_day_37 : decode cX6_day 37 = .ok (.iconst 1, 1) := by decide +kernel
theorem dX6_day_38 : decode cX6_day 38 = .ok (.putfield 162, 3) := by decide +kernel
theorem dX6_day_41 : decode cX6_day 41 = .ok (.aload_n 0, 1) := by decide +kernel
theorem dX6_day_42 : decode cX6_day 42 = .ok (.getfield 165, 3) := by decide +kernel
theorem dX6_day_45 : decode cX6_day 45 = .ok (.istore_n 2, 1) := by decide +kernel
theorem dX6_day_46 : decode cX6_day 46 = .ok (.aload_n 0, 1) := by decide +kernel
theorem dX6_day_47 : decode cX6_day 47 = .ok (.dup, 1) := by decide +kernel
theorem dX6_day_48 : decode cX6_day 48 = .ok (.getfield 165, 3) := by decide +kernel
theorem dX6_day_51 : decode cX6_day 51 = .ok (.iconst 1, 1) := by decide +kernel
theorem dX6_day_52 : decode cX6_day 52 = .ok (.iadd, 1) := by decide +kernel
theorem dX6_day_53 : decode cX6_day 53 = .ok (.putfield 165, 3) := by decide +kernel
theorem dX6_day_56 : decode cX6_day 56 = .ok (.iload_n 2, 1) := by decide +kernel
theorem dX6_day_57 : decode cX6_day 57 = .ok (.ireturn, 1) := by decide +kernel
set_option maxRecDepth 20000 in
theorem ggX6_there_X6_knownTrader : GoodIn wsX6_there wsX6_knownTrader := goodIn_ca (goodIn_r _ [8, 9, 10, 11, 41, 42, 43, 44, 45, 46, 47, 48, 49, 50, 51, 52, 53, 54, 55, 56, 57, 58] (by decide +kernel) (by decide +kernel)) (goodIn_sub (fun _ h => List.mem_cons_of_mem _ (List.mem_append_left _ (List.mem_append_right _ h))) (by decide +kernel))
set_option maxRecDepth 20000 in
theorem gX6_there_X6_knownTrader : GoodIn wsX6_there (wsV RX6 111 RX6 yX6_knownTrader wsX6_knownTrader) := goodIn_app (goodIn_of _ (by decide +kernel)) ggX6_there_X6_knownTrader
set_option maxRecDepth 20000 in
theorem ggX6_there_X6_needTime : GoodIn wsX6_there wsX6_needTime := goodIn_ca (goodIn_r _ [15, 16, 17, 18, 41, 42, 43, 44, 45, 46, 47, 48, 49, 50, 51, 52, 53, 54, 55, 56, 57, 58] (by decide +kernel) (by decide +kernel)) (goodIn_sub (fun _ h => List.mem_cons_of_mem _ (List.mem_append_right _ h)) (by decide +kernel))
set_option maxRecDepth 20000 in
theorem gX6_there_X6_needTime : GoodIn wsX6_there (wsV RX6 45 RX6 yX6_needTime wsX6_needTime) := goodIn_app (goodIn_of _ (by decide +kernel)) ggX6_there_X6_needTime
theorem dX6_there_0 : decode cX6_there 0 = .ok (.aload_n 0, 1) := by decide +kernel
theorem dX6_there_1 : decode cX6_there 1 = .ok (.iload_n 1, 1) := by decide +kernel
theorem dX6_there_2 : decode cX6_there 2 = .ok (.invokevirtual 111, 3) := by decide +kernel
theorem dX6_there_5 : decode cX6_there 5 = .ok (.astore_n 2, 1) := by decide +kernel
theorem dX6_there_6 : decode cX6_there 6 = .ok (.aload_n 0, 1) := by decide +kernel
theorem dX6_there_7 : decode cX6_there 7 = .ok (.iconst 1, 1) := by decide +kernel
theorem dX6_there_8 : decode cX6_there 8 = .ok (.iconst 3, 1) := by decide +kernel
theorem dX6_there_9 : decode cX6_there 9 = .ok (.invokevirtual 45, 3) := by decide +kernel
theorem dX6_there_12 : decode cX6_there 12 = .ok (.aload_n 2, 1) := by decide +kernel
theorem dX6_there_13 : decode cX6_there 13 = .ok (.getfield 168, 3) := by decide +kernel
theorem dX6_there_16 : decode cX6_there 16 = .ok (.getfield 172, 3) := by decide +kernel
theorem dX6_there_19 : decode cX6_there 19 = .ok (.ifCond .eq 5, 3) := by decide +kernel
theorem dX6_there_22 : decode cX6_there 22 = .ok (.iconst 0, 1) := by decide +kernel
theorem dX6_there_23 : decode cX6_there 23 = .ok (.ireturn, 1) := by decide +kernel
theorem dX6_there_24 : decode cX6_there 24 = .ok (.aload_n 2, 1) := by decide +kernel
theorem dX6_there_25 : decode cX6_there 25 = .ok (.getfield 168, 3) := by decide +kernel
theorem dX6_there_28 : decode cX6_there 28 = .ok (.iconst 1, 1) := by decide +kernel
theorem dX6_there_29 : decode cX6_there 29 = .ok (.putfield 172, 3) := by decide +kernel
theorem dX6_there_32 : decode cX6_there 32 = .ok (.aload_n 2, 1) := by decide +kernel
theorem dX6_there_33 : decode cX6_there 33 = .ok (.getfield 168, 3) := by decide +kernel
theorem dX6_there_36 : decode cX6_there 36 = .ok (.iconst 0, 1) := by decide +kernel
theorem dX6_there_37 : decode cX6_there 37 = .ok (.putfield 177, 3) := by decide +kernel
theorem dX6_there_40 : decode cX6_there 40 = .ok (.iconst 1, 1) := by decide +kernel
theorem dX6_there_41 : decode cX6_there 41 = .ok (.ireturn, 1) := by decide +kernel
set_option maxRecDepth 20000 in
theorem ggX6_word_X6_knownTrader : GoodIn wsX6_word wsX6_knownTrader := goodIn_ca (goodIn_r _ [8, 9, 10, 11, 41, 42, 43, 44, 45, 46, 47, 48, 49, 50, 51, 52, 53, 54, 55, 56, 57, 58] (by decide +kernel) (by decide +kernel)) (goodIn_sub (fun _ h => List.mem_cons_of_mem _ (List.mem_append_left _ (List.mem_append_right _ h))) (by decide +kernel))
set_option maxRecDepth 20000 in
theorem gX6_word_X6_knownTrader : GoodIn wsX6_word (wsV RX6 111 RX6 yX6_knownTrader wsX6_knownTrader) := goodIn_app (goodIn_of _ (by decide +kernel)) ggX6_word_X6_knownTrader
set_option maxRecDepth 20000 in
theorem ggX6_word_X6_needTime : GoodIn wsX6_word wsX6_needTime := goodIn_ca (goodIn_r _ [15, 16, 17, 18, 41, 42, 43, 44, 45, 46, 47, 48, 49, 50, 51, 52, 53, 54, 55, 56, 57, 58] (by decide +kernel) (by decide +kernel)) (goodIn_sub (fun _ h => List.mem_cons_of_mem _ (List.mem_append_right _ h)) (by decide +kernel))
set_option maxRecDepth 20000 in
theorem gX6_word_X6_needTime : GoodIn wsX6_word (wsV RX6 45 RX6 yX6_needTime wsX6_needTime) := goodIn_app (goodIn_of _ (by decide +kernel)) ggX6_word_X6_needTime
theorem dX6_word_0 : decode cX6_word 0 = .ok (.aload_n 0, 1) := by decide +kernel
theorem dX6_word_1 : decode cX6_word 1 = .ok (.iload_n 1, 1) := by decide +kernel
theorem dX6_word_2 : decode cX6_word 2 = .ok (.invokevirtual 111, 3) := by decide +kernel
theorem dX6_word_5 : decode cX6_word 5 = .ok (.astore_n 2, 1) := by decide +kernel
theorem dX6_word_6 : decode cX6_word 6 = .ok (.aload_n 0, 1) := by decide +kernel
theorem dX6_word_7 : decode cX6_word 7 = .ok (.iconst 1, 1) := by decide +kernel
theorem dX6_word_8 : decode cX6_word 8 = .ok (.iconst 1, 1) := by decide +kernel
theorem dX6_word_9 : decode cX6_word 9 = .ok (.invokevirtual 45, 3) := by decide +kernel
theorem dX6_word_12 : decode cX6_word 12 = .ok (.aload_n 2, 1) := by decide +kernel
theorem dX6_word_13 : decode cX6_word 13 = .ok (.getfield 168, 3) := by decide +kernel
theorem dX6_word_16 : decode cX6_word 16 = .ok (.getfield 172, 3) := by decide +kernel
theorem dX6_word_19 : decode cX6_word 19 = .ok (.ifCond .ne 13, 3) := by decide +kernel
theorem dX6_word_22 : decode cX6_word 22 = .ok (.aload_n 2, 1) := by decide +kernel
theorem dX6_word_23 : decode cX6_word 23 = .ok (.getfield 168, 3) := by decide +kernel
theorem dX6_word_26 : decode cX6_word 26 = .ok (.getfield 177, 3) := by decide +kernel
theorem dX6_word_29 : decode cX6_word 29 = .ok (.ifCond .eq 5, 3) := by decide +kernel
theorem dX6_word_32 : decode cX6_word 32 = .ok (.iconst 0, 1) := by decide +kernel
theorem dX6_word_33 : decode cX6_word 33 = .ok (.ireturn, 1) := by decide +kernel
theorem dX6_word_34 : decode cX6_word 34 = .ok (.aload_n 2, 1) := by decide +kernel
theorem dX6_word_35 : decode cX6_word 35 = .ok (.getfield 168, 3) := by decide +kernel
theorem dX6_word_38 : decode cX6_word 38 = .ok (.iconst 1, 1) := by decide +kernel
theorem dX6_word_39 : decode cX6_word 39 = .ok (.putfield 177, 3) := by decide +kernel
theorem dX6_word_42 : decode cX6_word 42 = .ok (.iconst 1, 1) := by decide +kernel
theorem dX6_word_43 : decode cX6_word 43 = .ok (.ireturn, 1) := by decide +kernel
set_option maxRecDepth 20000 in
theorem ggX6_bell_X6_needTime : GoodIn wsX6_bell wsX6_needTime := goodIn_ca (goodIn_r _ [6, 7, 8, 1, 131, 132, 133, 134, 135, 136, 137, 138, 139, 140, 141, 142, 143, 144, 145, 146, 147, 148] (by decide +kernel) (by decide +kernel)) (goodIn_sub (fun _ h => List.mem_cons_of_mem _ (List.mem_append_right _ h)) (by decide +kernel))
set_option maxRecDepth 20000 in
theorem gX6_bell_X6_needTime : GoodIn wsX6_bell (wsV RX6 45 RX6 yX6_needTime wsX6_needTime) := goodIn_app (goodIn_of _ (by decide +kernel)) ggX6_bell_X6_needTime
set_option maxRecDepth 20000 in
theorem ggX6_bell_X6_giveOutPitches : GoodIn wsX6_bell wsX6_giveOutPitches := goodIn_r _ [12, 13, 14, 15, 16, 17, 18, 19, 20, 21, 22, 23, 24, 5, 25, 26, 27, 28, 29, 30, 31, 32, 33, 34, 35, 36, 37, 38, 39, 40, 41, 42, 43, 44, 45, 46, 47, 48, 49, 50, 51, 52, 53, 54, 55, 56, 57, 58, 59, 60, 61, 62, 63, 64, 65, 66, 67, 68, 69, 70, 71, 72, 73, 74, 75, 76, 77, 78, 79, 80, 81, 82, 83, 84, 85, 86, 87, 88, 89, 90, 91, 92, 93, 94, 95, 96, 97, 98, 99, 100, 101, 102, 103, 104, 105, 106, 107, 108, 109, 110, 111, 112, 113, 114, 115, 116, 117, 118, 119, 120, 121, 122, 123, 124, 125, 126, 127, 128, 129, 130, 131, 132, 133, 134, 135, 136, 137, 138, 139, 140, 141, 142, 143, 144, 145, 146, 147, 148, 149, 150, 151, 152, 153, 154, 155, 156, 157, 158, 159, 160, 161, 162, 163, 164, 165, 166, 167, 168, 169, 170, 171, 172, 173, 174, 175, 176, 177, 178, 179, 180, 181, 182] (by decide +kernel) (by decide +kernel)
set_option maxRecDepth 20000 in
theorem gX6_bell_X6_giveOutPitches : GoodIn wsX6_bell (wsV RX6 180 RX6 yX6_giveOutPitches wsX6_giveOutPitches) := goodIn_app (goodIn_of _ (by decide +kernel)) ggX6_bell_X6_giveOutPitches
theorem dX6_bell_0 : decode cX6_bell 0 = .ok (.aload_n 0, 1) := by decide +kernel
theorem dX6_bell_1 : decode cX6_bell 1 = .ok (.iconst 1, 1) := by decide +kernel
theorem dX6_bell_2 : decode cX6_bell 2 = .ok (.iconst 2, 1) := by decide +kernel
theorem dX6_bell_3 : decode cX6_bell 3 = .ok (.invokevirtual 45, 3) := by decide +kernel
theorem dX6_bell_6 : decode cX6_bell 6 = .ok (.aload_n 0, 1) := by decide +kernel
theorem dX6_bell_7 : decode cX6_bell 7 = .ok (.getfield 162, 3) := by decide +kernel
theorem dX6_bell_10 : decode cX6_bell 10 = .ok (.iconst 1, 1) := by decide +kernel
theorem dX6_bell_11 : decode cX6_bell 11 = .ok (.if_icmp .ne 10, 3) := by decide +kernel
theorem dX6_bell_14 : decode cX6_bell 14 = .ok (.aload_n 0, 1) := by decide +kernel
theorem dX6_bell_15 : decode cX6_bell 15 = .ok (.invokevirtual 180, 3) := by decide +kernel
theorem dX6_bell_18 : decode cX6_bell 18 = .ok (.goto 4, 3) := by decide +kernel
theorem dX6_bell_21 : decode cX6_bell 21 = .ok (.iconst 0, 1) := by decide +kernel
theorem dX6_bell_22 : decode cX6_bell 22 = .ok (.istore_n 1, 1) := by decide +kernel
theorem dX6_bell_23 : decode cX6_bell 23 = .ok (.aload_n 0, 1) := by decide +kernel
theorem dX6_bell_24 : decode cX6_bell 24 = .ok (.dup, 1) := by decide +kernel
theorem dX6_bell_25 : decode cX6_bell 25 = .ok (.getfield 162, 3) := by decide +kernel
theorem dX6_bell_28 : decode cX6_bell 28 = .ok (.iconst 1, 1) := by decide +kernel
theorem dX6_bell_29 : decode cX6_bell 29 = .ok (.iadd, 1) := by decide +kernel
theorem dX6_bell_30 : decode cX6_bell 30 = .ok (.putfield 162, 3) := by decide +kernel
theorem dX6_bell_33 : decode cX6_bell 33 = .ok (.iload_n 1, 1) := by decide +kernel
theorem dX6_bell_34 : decode cX6_bell 34 = .ok (.ireturn, 1) := by decide +kernel
set_option maxRecDepth 20000 in
theorem ggX6_hour_X6_needTime : GoodIn wsX6_hour wsX6_needTime := goodIn_ca (goodIn_r _ [8, 9, 10, 11, 12, 13, 14, 15, 16, 17, 18, 19, 20, 21, 22, 23, 24, 25, 26, 27, 28, 29] (by decide +kernel) (by decide +kernel)) (goodIn_sub (fun _ h => List.mem_cons_of_mem _ (List.mem_append_right _ h)) (by decide +kernel))
set_option maxRecDepth 20000 in
theorem gX6_hour_X6_needTime : GoodIn wsX6_hour (wsV RX6 45 RX6 yX6_needTime wsX6_needTime) := goodIn_app (goodIn_of _ (by decide +kernel)) ggX6_hour_X6_needTime
theorem dX6_hour_0 : decode cX6_hour 0 = .ok (.iload_n 1, 1) := by decide +kernel
theorem dX6_hour_1 : decode cX6_hour 1 = .ok (.aload_n 0, 1) := by decide +kernel
theorem dX6_hour_2 : decode cX6_hour 2 = .ok (.getfield 159, 3) := by decide +kernel
theorem dX6_hour_5 : decode cX6_hour 5 = .ok (.if_icmp .lt 9, 3) := by decide +kernel
theorem dX6_hour_8 : decode cX6_hour 8 = .ok (.iload_n 1, 1) := by decide +kernel
theorem dX6_hour_9 : decode cX6_hour 9 = .ok (.bipush 12, 2) := by decide +kernel
theorem dX6_hour_11 : decode cX6_hour 11 = .ok (.if_icmp .le 13, 3) := by decide +kernel
theorem dX6_hour_14 : decode cX6_hour 14 = .ok (.new 38, 3) := by decide +kernel
theorem dX6_hour_17 : decode cX6_hour 17 = .ok (.dup, 1) := by decide +kernel
theorem dX6_hour_18 : decode cX6_hour 18 = .ok (.ldc 184, 2) := by decide +kernel
theorem dX6_hour_20 : decode cX6_hour 20 = .ok (.invokespecial 42, 3) := by decide +kernel
theorem dX6_hour_23 : decode cX6_hour 23 = .ok (.athrow, 1) := by decide +kernel
theorem dX6_hour_24 : decode cX6_hour 24 = .ok (.aload_n 0, 1) := by decide +kernel
theorem dX6_hour_25 : decode cX6_hour 25 = .ok (.iconst 1, 1) := by decide +kernel
theorem dX6_hour_26 : decode cX6_hour 26 = .ok (.iconst 3, 1) := by decide +kernel
theorem dX6_hour_27 : decode cX6_hour 27 = .ok (.invokevirtual 45, 3) := by decide +kernel
theorem dX6_hour_30 : decode cX6_hour 30 = .ok (.aload_n 0, 1) := by decide +kernel
theorem dX6_hour_31 : decode cX6_hour 31 = .ok (.iload_n 1, 1) := by decide +kernel
theorem dX6_hour_32 : decode cX6_hour 32 = .ok (.putfield 159, 3) := by decide +kernel
theorem dX6_hour_35 : decode cX6_hour 35 = .ok (.return_, 1) := by decide +kernel
set_option maxRecDepth 20000 in
theorem ggX6_close_X6_needTime : GoodIn wsX6_close wsX6_needTime := goodIn_ca (goodIn_r _ [10, 11, 12, 5, 153, 154, 155, 156, 157, 158, 159, 160, 161, 162, 163, 164, 165, 166, 167, 168, 169, 170] (by decide +kernel) (by decide +kernel)) (goodIn_sub (fun _ h => List.mem_cons_of_mem _ (List.mem_append_right _ h)) (by decide +kernel))
set_option maxRecDepth 20000 in
theorem gX6_close_X6_needTime : GoodIn wsX6_close (wsV RX6 45 RX6 yX6_needTime wsX6_needTime) := goodIn_app (goodIn_of _ (by decide +kernel)) ggX6_close_X6_needTime
set_option maxRecDepth 20000 in
theorem ggX6_close_X6_writeUpDay : GoodIn wsX6_close wsX6_writeUpDay := goodIn_r _ [16, 4, 17, 18, 19, 20, 21, 22, 23, 24, 25, 26, 27, 28, 29, 9, 30, 31, 32, 33, 34, 35, 36, 37, 38, 39, 40, 41, 42, 43, 44, 45, 46, 47, 48, 49, 50, 51, 52, 53, 54, 55, 56, 57, 58, 59, 60, 61, 62, 63, 64, 65, 66, 67, 68, 69, 70, 71, 72, 73, 74, 75, 76, 77, 78, 79, 80, 81, 82, 83, 84, 85, 86, 87, 88, 89, 90, 91, 92, 93, 94, 95, 96, 97, 171, 172, 173, 174, 175, 176, 177, 178, 179, 180, 181, 182, 183, 184, 185, 186, 187, 188, 189, 190, 191, 192, 193, 194, 195, 153, 154, 155, 156, 157, 158, 159, 160, 161, 162, 163, 164, 165, 166, 167, 168, 169, 170, 196, 197, 198, 199, 200, 201, 202, 203, 204] (by decide +kernel) (by decide +kernel)
set_option maxRecDepth 20000 in
theorem gX6_close_X6_writeUpDay : GoodIn wsX6_close (wsV RX6 186 RX6 yX6_writeUpDay wsX6_writeUpDay) := goodIn_app (goodIn_of _ (by decide +kernel)) ggX6_close_X6_writeUpDay
set_option maxRecDepth 20000 in
theorem ggX6_close_X6_lineUpLosers : GoodIn wsX6_close wsX6_lineUpLosers := goodIn_r _ [101, 1, 102, 4, 25, 26, 3, 103, 104, 105, 106, 107, 108, 109, 153, 154, 155, 156, 157, 158, 159, 160, 161, 162, 163, 164, 165, 166, 167, 168, 169, 170, 171, 172, 173, 174, 175, 176, 177, 178, 179, 180, 181, 182, 183, 184, 185, 186, 187, 188, 189, 190, 191, 192] (by decide +kernel) (by decide +kernel)
set_option maxRecDepth 20000 in
theorem gX6_close_X6_lineUpLosers : GoodIn wsX6_close (wsV RX6 190 RX6 yX6_lineUpLosers wsX6_lineUpLosers) := goodIn_app (goodIn_of _ (by decide +kernel)) ggX6_close_X6_lineUpLosers
set_option maxRecDepth 20000 in
theorem ggX6_close_X6_losePitch : GoodIn wsX6_close wsX6_losePitch := goodIn_r _ [113, 85, 51, 52, 26, 114, 38, 37, 115, 72, 73, 74, 75, 76, 77, 116, 117, 118, 9, 119, 1, 2, 120, 18, 121, 122, 123, 22, 21, 124, 125, 126, 127, 95, 128, 129, 130, 103, 104, 105, 106, 107, 108, 109, 131, 132, 133, 134, 135, 136, 137, 138, 139, 140, 102, 141, 171, 172, 173, 174, 175, 176, 177, 178, 179, 180, 181, 182, 183, 184, 193, 194, 195, 153, 154, 155, 156, 157, 158, 159, 160, 161, 162, 163, 164, 165, 166, 167, 168, 169, 170] (by decide +kernel) (by decide +kernel)
set_option maxRecDepth 20000 in
theorem gX6_close_X6_losePitch : GoodIn wsX6_close (wsV RX6 193 RX6 yX6_losePitch wsX6_losePitch) := goodIn_app (goodIn_of _ (by decide +kernel)) ggX6_close_X6_losePitch
set_option maxRecDepth 20000 in
theorem ggX6_close_X2_clear : GoodIn wsX6_close wsX2_clear := goodIn_r _ [146, 147, 148, 149, 150, 151, 152, 185, 186, 187, 188, 189, 190, 191, 192] (by decide +kernel) (by decide +kernel)
set_option maxRecDepth 20000 in
theorem gX6_close_X2_clear : GoodIn wsX6_close (wsV RX6 196 RX2 yX2_clear wsX2_clear) := goodIn_app (goodIn_of _ (by decide +kernel)) ggX6_close_X2_clear
theorem dX6_close_0 : decode cX6_close 0 = .ok (.aload_n 0, 1) := by decide +kernel
theorem dX6_close_1 : decode cX6_close 1 = .ok (.iconst 3, 1) := by decide +kernel
theorem dX6_close_2 : decode cX6_close 2 = .ok (.iconst 3, 1) := by decide +kernel
theorem dX6_close_3 : decode cX6_close 3 = .ok (.invokevirtual 45, 3) := by decide +kernel
theorem dX6_close_6 : decode cX6_close 6 = .ok (.iconst 0, 1) := by decide +kernel
theorem dX6_close_7 : decode cX6_close 7 = .ok (.istore_n 1, 1) := by decide +kernel
theorem dX6_close_8 : decode cX6_close 8 = .ok (.iload_n 1, 1) := by decide +kernel
theorem dX6_close_9 : decode cX6_close 9 = .ok (.aload_n 0, 1) := by decide +kernel
theorem dX6_close_10 : decode cX6_close 10 = .ok (.getfield 100, 3) := by decide +kernel
theorem dX6_close_13 : decode cX6_close 13 = .ok (.if_icmp .ge 19, 3) := by decide +kernel
theorem dX6_close_16 : decode cX6_close 16 = .ok (.aload_n 0, 1) := by decide +kernel
theorem dX6_close_17 : decode cX6_close 17 = .ok (.aload_n 0, 1) := by decide +kernel
theorem dX6_close_18 : decode cX6_close 18 = .ok (.getfield 23, 3) := by decide +kernel
theorem dX6_close_21 : decode cX6_close 21 = .ok (.iload_n 1, 1) := by decide +kernel
theorem dX6_close_22 : decode cX6_close 22 = .ok (.aaload, 1) := by decide +kernel
theorem dX6_close_23 : decode cX6_close 23 = .ok (.invokevirtual 186, 3) := by decide +kernel
theorem dX6_close_26 : decode cX6_close 26 = .ok (.iinc 1 1, 3) := by decide +kernel
theorem dX6_close_29 : decode cX6_close 29 = .ok (.goto (-21), 3) := by decide +kernel
theorem dX6_close_32 : decode cX6_close 32 = .ok (.aload_n 0, 1) := by decide +kernel
theorem dX6_close_33 : decode cX6_close 33 = .ok (.invokevirtual 190, 3) := by decide +kernel
theorem dX6_close_36 : decode cX6_close 36 = .ok (.istore_n 1, 1) := by decide +kernel
theorem dX6_close_37 : decode cX6_close 37 = .ok (.iconst 0, 1) := by decide +kernel
theorem dX6_close_38 : decode cX6_close 38 = .ok (.istore_n 2, 1) := by decide +kernel
theorem dX6_close_39 : decode cX6_close 39 = .ok (.iload_n 2, 1) := by decide +kernel
theorem dX6_close_40 : decode cX6_close 40 = .ok (.iload_n 1, 1) := by decide +kernel
theorem dX6_close_41 : decode cX6_close 41 = .ok (.if_icmp .ge 19, 3) := by decide +kernel
theorem dX6_close_44 : decode cX6_close 44 = .ok (.aload_n 0, 1) := by decide +kernel
theorem dX6_close_45 : decode cX6_close 45 = .ok (.aload_n 0, 1) := by decide +kernel
theorem dX6_close_46 : decode cX6_close 46 = .ok (.getfield 30, 3) := by decide +kernel
theorem dX6_close_49 : decode cX6_close 49 = .ok (.iload_n 2, 1) := by decide +kernel
theorem dX6_close_50 : decode cX6_close 50 = .ok (.aaload, 1) := by decide +kernel
theorem dX6_close_51 : decode cX6_close 51 = .ok (.invokevirtual 193, 3) := by decide +kernel
theorem dX6_close_54 : decode cX6_close 54 = .ok (.iinc 2 1, 3) := by decide +kernel
theorem dX6_close_57 : decode cX6_close 57 = .ok (.goto (-18), 3) := by decide +kernel
theorem dX6_close_60 : decode cX6_close 60 = .ok (.iconst 0, 1) := by decide +kernel
theorem dX6_close_61 : decode cX6_close 61 = .ok (.istore_n 2, 1) := by decide +kernel
theorem dX6_close_62 : decode cX6_close 62 = .ok (.iload_n 2, 1) := by decide +kernel
theorem dX6_close_63 : decode cX6_close 63 = .ok (.aload_n 0, 1) := by decide +kernel
theorem dX6_close_64 : decode cX6_close 64 = .ok (.getfield 100, 3) := by decide +kernel
theorem dX6_close_67 : decode cX6_close 67 = .ok (.if_icmp .ge 21, 3) := by decide +kernel
theorem dX6_close_70 : decode cX6_close 70 = .ok (.aload_n 0, 1) := by decide +kernel
theorem dX6_close_71 : decode cX6_close 71 = .ok (.getfield 23, 3) := by decide +kernel
theorem dX6_close_74 : decode cX6_close 74 = .ok (.iload_n 2, 1) := by decide +kernel
theorem dX6_close_75 : decode cX6_close 75 = .ok (.aaload, 1) := by decide +kernel
theorem dX6_close_76 : decode cX6_close 76 = .ok (.getfield 168, 3) := by decide +kernel
theorem dX6_close_79 : decode cX6_close 79 = .ok (.invokevirtual 196, 3) := by decide +kernel
theorem dX6_close_82 : decode cX6_close 82 = .ok (.iinc 2 1, 3) := by decide +kernel
theorem dX6_close_85 : decode cX6_close 85 = .ok (.goto (-23), 3) := by decide +kernel
theorem dX6_close_88 : decode cX6_close 88 = .ok (.aload_n 0, 1) := by decide +kernel
theorem dX6_close_89 : decode cX6_close 89 = .ok (.iconst 0, 1) := by decide +kernel
theorem dX6_close_90 : decode cX6_close 90 = .ok (.putfield 162, 3) := by decide +kernel
theorem dX6_close_93 : decode cX6_close 93 = .ok (.iload_n 1, 1) := by decide +kernel
theorem dX6_close_94 : decode cX6_close 94 = .ok (.ireturn, 1) := by decide +kernel
set_option maxRecDepth 20000 in
theorem ggX6_why_X6_knownTrader : GoodIn wsX6_why wsX6_knownTrader := goodIn_ca (goodIn_r _ [5, 6, 7, 8, 97, 98, 99, 100, 101, 102, 103, 104, 105, 106, 107, 108, 109, 110, 111, 112, 113, 114] (by decide +kernel) (by decide +kernel)) (goodIn_sub (fun _ h => List.mem_cons_of_mem _ (List.mem_append_right _ h)) (by decide +kernel))
set_option maxRecDepth 20000 in
theorem gX6_why_X6_knownTrader : GoodIn wsX6_why (wsV RX6 111 RX6 yX6_knownTrader wsX6_knownTrader) := goodIn_app (goodIn_of _ (by decide +kernel)) ggX6_why_X6_knownTrader
set_option maxRecDepth 20000 in
theorem ggX6_why_X6_against : GoodIn wsX6_why wsX6_against := goodIn_r _ [12, 13, 14, 15, 16, 17, 4, 18, 19, 20, 21, 22, 23, 24, 25, 26, 27, 28, 29, 30, 31, 32, 33, 34, 35, 36, 37, 38, 39, 40, 41, 42, 43, 44, 45, 46, 47, 48, 49, 50, 51, 52, 53, 54, 55, 56, 57, 58, 59, 60, 61, 62, 63, 64, 65, 66, 67, 68, 69, 70, 71, 72, 73, 74, 75, 76, 77, 78, 79, 80, 81, 82, 83, 84, 85, 86, 87, 88, 89, 90, 91, 92, 93, 94, 95, 96, 115, 116, 117, 118, 119, 120, 121, 122, 123, 124, 125, 126, 127, 128, 97, 98, 99, 100, 101, 102, 103, 104, 105, 106, 107, 108, 109, 110, 111, 112, 113, 114, 129, 130, 131, 132, 133, 134, 135, 136, 137, 138, 139, 140, 141, 142, 143, 144, 145, 146, 147, 148] (by decide +kernel) (by decide +kernel)
set_option maxRecDepth 20000 in
theorem gX6_why_X6_against : GoodIn wsX6_why (wsV RX6 199 RX6 yX6_against wsX6_against) := goodIn_app (goodIn_of _ (by decide +kernel)) ggX6_why_X6_against
theorem dX6_why_0 : decode cX6_why 0 = .ok (.aload_n 0, 1) := by decide +kernel
theorem dX6_why_1 : decode cX6_why 1 = .ok (.aload_n 0, 1) := by decide +kernel
theorem dX6_why_2 : decode cX6_why 2 = .ok (.iload_n 1, 1) := by decide +kernel
theorem dX6_why_3 : decode cX6_why 3 = .ok (.invokevirtual 111, 3) := by decide +kernel
theorem dX6_why_6 : decode cX6_why 6 = .ok (.iload_n 2, 1) := by decide +kernel
theorem dX6_why_7 : decode cX6_why 7 = .ok (.iload_n 3, 1) := by decide +kernel
theorem dX6_why_8 : decode cX6_why 8 = .ok (.invokevirtual 199, 3) := by decide +kernel
theorem dX6_why_11 : decode cX6_why 11 = .ok (.ireturn, 1) := by decide +kernel
set_option maxRecDepth 20000 in
theorem ggX6_good_X6_knownTrader : GoodIn wsX6_good wsX6_knownTrader := goodIn_ca (goodIn_r _ [5, 6, 7, 8, 116, 117, 118, 119, 120, 121, 122, 123, 124, 125, 126, 127, 128, 129, 130, 131, 132, 133] (by decide +kernel) (by decide +kernel)) (goodIn_sub (fun _ h => List.mem_cons_of_mem _ (List.mem_append_right _ h)) (by decide +kernel))
set_option maxRecDepth 20000 in
theorem gX6_good_X6_knownTrader : GoodIn wsX6_good (wsV RX6 111 RX6 yX6_knownTrader wsX6_knownTrader) := goodIn_app (goodIn_of _ (by decide +kernel)) ggX6_good_X6_knownTrader
set_option maxRecDepth 20000 in
theorem ggX6_good_X6_goodSpot : GoodIn wsX6_good wsX6_goodSpot := goodIn_r _ [12, 13, 14, 15, 16, 17, 18, 19, 4, 20, 21, 22, 23, 24, 25, 26, 27, 28, 29, 30, 31, 32, 33, 34, 35, 36, 37, 38, 39, 40, 41, 42, 43, 44, 45, 46, 47, 48, 49, 50, 51, 52, 53, 54, 55, 56, 57, 58, 59, 60, 61, 62, 63, 64, 65, 66, 67, 68, 69, 70, 71, 72, 73, 74, 75, 76, 77, 78, 79, 80, 81, 82, 83, 84, 85, 86, 87, 88, 89, 90, 91, 92, 93, 94, 95, 96, 97, 98, 99, 100, 101, 102, 103, 104, 105, 106, 107, 108, 109, 110, 111, 112, 113, 114, 115, 134, 135, 136, 137, 138, 139, 140, 141, 142, 143, 144, 145, 146, 147, 148, 149, 150, 151, 152, 153, 154, 155, 156, 157, 158, 159, 160, 161, 162, 163, 164, 165, 166, 167, 168, 116, 117, 118, 119, 120, 121, 122, 123, 124, 125, 126, 127, 128, 129, 130, 131, 132, 133, 169, 170, 171] (by decide +kernel) (by decide +kernel)
set_option maxRecDepth 20000 in
theorem gX6_good_X6_goodSpot : GoodIn wsX6_good (wsV RX6 203 RX6 yX6_goodSpot wsX6_goodSpot) := goodIn_app (goodIn_of _ (by decide +kernel)) ggX6_good_X6_goodSpot
theorem dX6_good_0 : decode cX6_good 0 = .ok (.aload_n 0, 1) := by decide +kernel
theorem dX6_good_1 : decode cX6_good 1 = .ok (.aload_n 0, 1) := by decide +kernel
theorem dX6_good_2 : decode cX6_good 2 = .ok (.iload_n 1, 1) := by decide +kernel
theorem dX6_good_3 : decode cX6_good 3 = .ok (.invokevirtual 111, 3) := by decide +kernel
theorem dX6_good_6 : decode cX6_good 6 = .ok (.invokevirtual 203, 3) := by decide +kernel
theorem dX6_good_9 : decode cX6_good 9 = .ok (.ireturn, 1) := by decide +kernel
set_option maxRecDepth 20000 in
theorem ggX6_next_X6_needTime : GoodIn wsX6_next wsX6_needTime := goodIn_ca (goodIn_r _ [9, 10, 11, 12, 184, 185, 186, 187, 188, 189, 190, 191, 192, 193, 194, 195, 196, 197, 198, 199, 200, 201] (by decide +kernel) (by decide +kernel)) (goodIn_sub (fun _ h => List.mem_cons_of_mem _ (List.mem_append_right _ h)) (by decide +kernel))
set_option maxRecDepth 20000 in
theorem gX6_next_X6_needTime : GoodIn wsX6_next (wsV RX6 45 RX6 yX6_needTime wsX6_needTime) := goodIn_app (goodIn_of _ (by decide +kernel)) ggX6_next_X6_needTime
set_option maxRecDepth 20000 in
theorem ggX6_next_X6_lineUpWaiting : GoodIn wsX6_next wsX6_lineUpWaiting := goodIn_r _ [16, 17, 18, 19, 20, 21, 22, 23, 24, 25, 26, 27, 28, 29, 30, 31, 8, 32, 1, 33, 34, 35, 3, 36, 37, 38, 39, 40, 41, 42, 43, 44, 45, 46, 47, 48, 49, 50, 51, 52, 53, 54, 55, 184, 185, 186, 187, 188, 189, 190, 191, 192, 193, 194, 195, 196, 197, 198, 199, 200, 201, 202, 203, 204, 205, 206, 207, 208, 209, 210, 211, 212, 213, 214, 215, 216, 217, 218, 219, 220, 221, 222, 223, 224, 225, 226] (by decide +kernel) (by decide +kernel)
set_option maxRecDepth 20000 in
theorem gX6_next_X6_lineUpWaiting : GoodIn wsX6_next (wsV RX6 207 RX6 yX6_lineUpWaiting wsX6_lineUpWaiting) := goodIn_app (goodIn_of _ (by decide +kernel)) ggX6_next_X6_lineUpWaiting
set_option maxRecDepth 20000 in
theorem ggX6_next_X6_goodSpot : GoodIn wsX6_next wsX6_goodSpot := goodIn_r _ [59, 60, 61, 62, 63, 64, 65, 66, 8, 67, 68, 69, 3, 70, 71, 72, 73, 74, 75, 76, 77, 78, 79, 80, 81, 82, 83, 84, 22, 85, 86, 87, 88, 89, 90, 91, 92, 93, 94, 95, 96, 97, 98, 99, 100, 101, 102, 103, 104, 105, 106, 107, 108, 109, 110, 111, 112, 113, 114, 115, 116, 117, 118, 119, 120, 121, 122, 123, 124, 125, 126, 127, 128, 129, 130, 131, 132, 133, 134, 135, 136, 137, 138, 139, 140, 141, 142, 143, 144, 145, 146, 147, 148, 149, 150, 151, 152, 153, 154, 155, 156, 157, 158, 159, 160, 202, 203, 204, 205, 206, 207, 208, 209, 210, 211, 212, 213, 214, 215, 227, 228, 229, 230, 231, 232, 233, 234, 235, 236, 216, 217, 218, 219, 220, 221, 222, 223, 224, 225, 226, 184, 185, 186, 187, 188, 189, 190, 191, 192, 193, 194, 195, 196, 197, 198, 199, 200, 201, 237, 238, 239] (by decide +kernel) (by decide +kernel)
set_option maxRecDepth 20000 in
theorem gX6_next_X6_goodSpot : GoodIn wsX6_next (wsV RX6 203 RX6 yX6_goodSpot wsX6_goodSpot) := goodIn_app (goodIn_of _ (by decide +kernel)) ggX6_next_X6_goodSpot
set_option maxRecDepth 20000 in
theorem ggX6_next_X6_open : GoodIn wsX6_next wsX6_open := goodIn_r _ [164, 3, 165, 166, 167, 168, 169, 8, 170, 96, 70, 68, 69, 171, 91, 80, 97, 98, 99, 100, 101, 172, 173, 174, 105, 175, 126, 113, 114, 115, 116, 107, 176, 177, 178, 179, 180, 181, 182, 183, 73, 74, 75, 202, 203, 204, 205, 206, 207, 208, 209, 210, 211, 212, 213, 214, 215, 184, 185, 186, 187, 188, 189, 190, 191, 192, 193, 194, 195, 196, 197, 198, 199, 200, 201, 216, 217, 218, 219, 220, 221, 222, 223, 231, 232, 233, 234, 235, 236, 237, 238, 239, 224, 225, 226] (by decide +kernel) (by decide +kernel)
set_option maxRecDepth 20000 in
theorem gX6_next_X6_open : GoodIn wsX6_next (wsV RX6 210 RX6 yX6_open wsX6_open) := goodIn_app (goodIn_of _ (by decide +kernel)) ggX6_next_X6_open
theorem dX6_next_0 : decode cX6_next 0 = .ok (.aload_n 0, 1) := by decide +kernel
theorem dX6_next_1 : decode cX6_next 1 = .ok (.iconst 3, 1) := by decide +kernel
theorem dX6_next_2 : decode cX6_next 2 = .ok (.iconst 3, 1) := by decide +kernel
theorem dX6_next_3 : decode cX6_next 3 = .ok (.invokevirtual 45, 3) := by decide +kernel
theorem dX6_next_6 : decode cX6_next 6 = .ok (.aload_n 0, 1) := by decide +kernel
theorem dX6_next_7 : decode cX6_next 7 = .ok (.invokevirtual 207, 3) := by decide +kernel
theorem dX6_next_10 : decode cX6_next 10 = .ok (.istore_n 1, 1) := by decide +kernel
theorem dX6_next_11 : decode cX6_next 11 = .ok (.iconst 0, 1) := by decide +kernel
theorem dX6_next_12 : decode cX6_next 12 = .ok (.istore_n 2, 1) := by decide +kernel
theorem dX6_next_13 : decode cX6_next 13 = .ok (.iload_n 2, 1) := by decide +kernel
theorem dX6_next_14 : decode cX6_next 14 = .ok (.iload_n 1, 1) := by decide +kernel
theorem dX6_next_15 : decode cX6_next 15 = .ok (.if_icmp .ge 59, 3) := by decide +kernel
theorem dX6_next_18 : decode cX6_next 18 = .ok (.aload_n 0, 1) := by decide +kernel
theorem dX6_next_19 : decode cX6_next 19 = .ok (.getfield 30, 3) := by decide +kernel
theorem dX6_next_22 : decode cX6_next 22 = .ok (.iload_n 2, 1) := by decide +kernel
theorem dX6_next_23 : decode cX6_next 23 = .ok (.aaload, 1) := by decide +kernel
theorem dX6_next_24 : decode cX6_next 24 = .ok (.astore_n 3, 1) := by decide +kernel
theorem dX6_next_25 : decode cX6_next 25 = .ok (.aload_n 0, 1) := by decide +kernel
theorem dX6_next_26 : decode cX6_next 26 = .ok (.aload_n 3, 1) := by decide +kernel
theorem dX6_next_27 : decode cX6_next 27 = .ok (.invokevirtual 203, 3) := by decide +kernel
theorem dX6_next_30 : decode cX6_next 30 = .ok (.istore 4, 2) := by decide +kernel
theorem dX6_next_32 : decode cX6_next 32 = .ok (.iload 4, 2) := by decide +kernel
theorem dX6_next_34 : decode cX6_next 34 = .ok (.iconst (-1), 1) := by decide +kernel
theorem dX6_next_35 : decode cX6_next 35 = .ok (.if_icmp .eq 25, 3) := by decide +kernel
theorem dX6_next_38 : decode cX6_next 38 = .ok (.aload_n 0, 1) := by decide +kernel
theorem dX6_next_39 : decode cX6_next 39 = .ok (.aload_n 3, 1) := by decide +kernel
theorem dX6_next_40 : decode cX6_next 40 = .ok (.iload 4, 2) := by decide +kernel
theorem dX6_next_42 : decode cX6_next 42 = .ok (.sipush 200, 3) := by decide +kernel
theorem dX6_next_45 : decode cX6_next 45 = .ok (.idiv, 1) := by decide +kernel
theorem dX6_next_46 : decode cX6_next 46 = .ok (.iload 4, 2) := by decide +kernel
theorem dX6_next_48 : decode cX6_next 48 = .ok (.sipush 200, 3) := by decide +kernel
theorem dX6_next_51 : decode cX6_next 51 = .ok (.irem, 1) := by decide +kernel
theorem dX6_next_52 : decode cX6_next 52 = .ok (.invokevirtual 210, 3) := by decide +kernel
theorem dX6_next_55 : decode cX6_next 55 = .ok (.aload_n 3, 1) := by decide +kernel
theorem dX6_next_56 : decode cX6_next 56 = .ok (.getfield 214, 3) := by decide +kernel
theorem dX6_next_59 : decode cX6_next 59 = .ok (.ireturn, 1) := by decide +kernel
theorem dX6_next_60 : decode cX6_next 60 = .ok (.aload_n 3, 1) := by decide +kernel
theorem dX6_next_61 : decode cX6_next 61 = .ok (.getfield 168, 3) := by decide +kernel
theorem dX6_next_64 : decode cX6_next 64 = .ok (.iconst 1, 1) := by decide +kernel
theorem dX6_next_65 : decode cX6_next 65 = .ok (.putfield 217, 3) := by decide +kernel
theorem dX6_next_68 : decode cX6_next 68 = .ok (.iinc 2 1, 3) := by decide +kernel
theorem dX6_next_71 : decode cX6_next 71 = .ok (.goto (-58), 3) := by decide +kernel
theorem dX6_next_74 : decode cX6_next 74 = .ok (.iconst (-1), 1) := by decide +kernel
theorem dX6_next_75 : decode cX6_next 75 = .ok (.ireturn, 1) := by decide +kernel
set_option maxRecDepth 20000 in
theorem ggX6_full_X6_needTime : GoodIn wsX6_full wsX6_needTime := goodIn_ca (goodIn_r _ [7, 8, 9, 10, 127, 128, 129, 130, 131, 132, 133, 134, 135, 136, 137, 138, 139, 140, 141, 142, 143, 144] (by decide +kernel) (by decide +kernel)) (goodIn_sub (fun _ h => List.mem_cons_of_mem _ (List.mem_append_right _ h)) (by decide +kernel))
set_option maxRecDepth 20000 in
theorem gX6_full_X6_needTime : GoodIn wsX6_full (wsV RX6 45 RX6 yX6_needTime wsX6_needTime) := goodIn_app (goodIn_of _ (by decide +kernel)) ggX6_full_X6_needTime
set_option maxRecDepth 20000 in
theorem ggX6_full_X4_isWaiting : GoodIn wsX6_full wsX4_isWaiting := goodIn_r _ [15, 16, 17, 18, 19, 20, 145, 146, 147, 148, 149, 150, 151, 152, 153, 154, 155, 156, 157, 158, 159, 160, 161, 162, 163, 164, 165, 166, 167, 168, 169] (by decide +kernel) (by decide +kernel)
set_option maxRecDepth 20000 in
theorem gX6_full_X4_isWaiting : GoodIn wsX6_full (wsV RX6 220 RX4 yX4_isWaiting wsX4_isWaiting) := goodIn_app (goodIn_of _ (by decide +kernel)) ggX6_full_X4_isWaiting
set_option maxRecDepth 20000 in
theorem ggX6_full_X6_goodSpot : GoodIn wsX6_full wsX6_goodSpot := goodIn_r _ [24, 25, 26, 27, 28, 29, 30, 31, 6, 32, 33, 34, 35, 36, 37, 38, 39, 40, 41, 42, 43, 44, 45, 46, 47, 48, 49, 50, 14, 51, 52, 53, 54, 55, 56, 57, 58, 59, 60, 61, 62, 63, 64, 65, 66, 67, 68, 69, 70, 71, 72, 73, 74, 75, 76, 77, 78, 79, 80, 81, 82, 83, 84, 85, 86, 87, 88, 89, 90, 91, 92, 93, 94, 95, 96, 97, 98, 99, 100, 101, 102, 103, 104, 105, 106, 107, 108, 109, 110, 111, 112, 113, 114, 115, 116, 117, 118, 119, 120, 121, 122, 123, 124, 125, 126, 145, 146, 147, 148, 149, 150, 151, 152, 153, 154, 155, 156, 157, 158, 170, 171, 172, 173, 174, 175, 176, 177, 178, 179, 159, 160, 161, 162, 163, 164, 165, 166, 167, 168, 169, 127, 128, 129, 130, 131, 132, 133, 134, 135, 136, 137, 138, 139, 140, 141, 142, 143, 144, 180, 181, 182] (by decide +kernel) (by decide +kernel)
set_option maxRecDepth 20000 in
theorem gX6_full_X6_goodSpot : GoodIn wsX6_full (wsV RX6 203 RX6 yX6_goodSpot wsX6_goodSpot) := goodIn_app (goodIn_of _ (by decide +kernel)) ggX6_full_X6_goodSpot
theorem dX6_full_0 : decode cX6_full 0 = .ok (.aload_n 0, 1) := by decide +kernel
theorem dX6_full_1 : decode cX6_full 1 = .ok (.iconst 3, 1) := by decide +kernel
theorem dX6_full_2 : decode cX6_full 2 = .ok (.iconst 3, 1) := by decide +kernel
theorem dX6_full_3 : decode cX6_full 3 = .ok (.invokevirtual 45, 3) := by decide +kernel
theorem dX6_full_6 : decode cX6_full 6 = .ok (.iconst 0, 1) := by decide +kernel
theorem dX6_full_7 : decode cX6_full 7 = .ok (.istore_n 1, 1) := by decide +kernel
theorem dX6_full_8 : decode cX6_full 8 = .ok (.iload_n 1, 1) := by decide +kernel
theorem dX6_full_9 : decode cX6_full 9 = .ok (.aload_n 0, 1) := by decide +kernel
theorem dX6_full_10 : decode cX6_full 10 = .ok (.getfield 100, 3) := by decide +kernel
theorem dX6_full_13 : decode cX6_full 13 = .ok (.if_icmp .ge 34, 3) := by decide +kernel
theorem dX6_full_16 : decode cX6_full 16 = .ok (.aload_n 0, 1) := by decide +kernel
theorem dX6_full_17 : decode cX6_full 17 = .ok (.getfield 23, 3) := by decide +kernel
theorem dX6_full_20 : decode cX6_full 20 = .ok (.iload_n 1, 1) := by decide +kernel
theorem dX6_full_21 : decode cX6_full 21 = .ok (.aaload, 1) := by decide +kernel
theorem dX6_full_22 : decode cX6_full 22 = .ok (.astore_n 2, 1) := by decide +kernel
theorem dX6_full_23 : decode cX6_full 23 = .ok (.aload_n 2, 1) := by decide +kernel
theorem dX6_full_24 : decode cX6_full 24 = .ok (.invokevirtual 220, 3) := by decide +kernel
theorem dX6_full_27 : decode cX6_full 27 = .ok (.ifCond .eq 14, 3) := by decide +kernel
theorem dX6_full_30 : decode cX6_full 30 = .ok (.aload_n 0, 1) := by decide +kernel
theorem dX6_full_31 : decode cX6_full 31 = .ok (.aload_n 2, 1) := by decide +kernel
theorem dX6_full_32 : decode cX6_full 32 = .ok (.invokevirtual 203, 3) := by decide +kernel
theorem dX6_full_35 : decode cX6_full 35 = .ok (.iconst (-1), 1) := by decide +kernel
theorem dX6_full_36 : decode cX6_full 36 = .ok (.if_icmp .eq 5, 3) := by decide +kernel
theorem dX6_full_39 : decode cX6_full 39 = .ok (.iconst 0, 1) := by decide +kernel
theorem dX6_full_40 : decode cX6_full 40 = .ok (.ireturn, 1) := by decide +kernel
theorem dX6_full_41 : decode cX6_full 41 = .ok (.iinc 1 1, 3) := by decide +kernel
theorem dX6_full_44 : decode cX6_full 44 = .ok (.goto (-36), 3) := by decide +kernel
theorem dX6_full_47 : decode cX6_full 47 = .ok (.iconst 1, 1) := by decide +kernel
theorem dX6_full_48 : decode cX6_full 48 = .ok (.ireturn, 1) := by decide +kernel
set_option maxRecDepth 20000 in
theorem ggX6_waiting_X6_lineUpWaiting : GoodIn wsX6_waiting wsX6_lineUpWaiting := goodIn_r _ [8, 9, 10, 11, 12, 13, 14, 15, 16, 17, 18, 19, 20, 21, 22, 23, 7, 24, 2, 25, 26, 27, 28, 29, 30, 31, 32, 33, 34, 35, 36, 37, 38, 39, 40, 41, 42, 43, 44, 45, 46, 47, 48, 49, 50, 51, 52, 53, 54, 55, 56, 57, 58, 59, 60, 61, 62, 63, 64, 65, 66, 67, 68, 69, 70, 71, 72, 73, 74, 75, 76, 77, 78, 79, 80, 81, 82, 83, 84, 85, 86, 87, 88, 89, 90, 91] (by decide +kernel) (by decide +kernel)
set_option maxRecDepth 20000 in
theorem gX6_waiting_X6_lineUpWaiting : GoodIn wsX6_waiting (wsV RX6 207 RX6 yX6_lineUpWaiting wsX6_lineUpWaiting) := goodIn_app (goodIn_of _ (by decide +kernel)) ggX6_waiting_X6_lineUpWaiting
theorem dX6_waiting_0 : decode cX6_waiting 0 = .ok (.aload_n 0, 1) := by decide +kernel
theorem dX6_waiting_1 : decode cX6_waiting 1 = .ok (.getfield 162, 3) := by decide +kernel
theorem dX6_waiting_4 : decode cX6_waiting 4 = .ok (.iconst 3, 1) := by decide +kernel
theorem dX6_waiting_5 : decode cX6_waiting 5 = .ok (.if_icmp .eq 5, 3) := by decide +kernel
theorem dX6_waiting_8 : decode cX6_waiting 8 = .ok (.iconst (-1), 1) := by decide +kernel
theorem dX6_waiting_9 : decode cX6_waiting 9 = .ok (.ireturn, 1) := by decide +kernel
theorem dX6_waiting_10 : decode cX6_waiting 10 = .ok (.aload_n 0, 1) := by decide +kernel
theorem dX6_waiting_11 : decode cX6_waiting 11 = .ok (.invokevirtual 207, 3) := by decide +kernel
theorem dX6_waiting_14 : decode cX6_waiting 14 = .ok (.istore_n 2, 1) := by decide +kernel
theorem dX6_waiting_15 : decode cX6_waiting 15 = .ok (.iload_n 1, 1) := by decide +kernel
theorem dX6_waiting_16 : decode cX6_waiting 16 = .ok (.ifCond .lt 20, 3) := by decide +kernel
theorem dX6_waiting_19 : decode cX6_waiting 19 = .ok (.iload_n 1, 1) := by decide +kernel
theorem dX6_waiting_20 : decode cX6_waiting 20 = .ok (.iload_n 2, 1) := by decide +kernel
theorem dX6_waiting_21 : decode cX6_waiting 21 = .ok (.if_icmp .ge 15, 3) := by decide +kernel
theorem dX6_waiting_24 : decode cX6_waiting 24 = .ok (.aload_n 0, 1) := by decide +kernel
theorem dX6_waiting_25 : decode cX6_waiting 25 = .ok (.getfield 30, 3) := by decide +kernel
theorem dX6_waiting_28 : decode cX6_waiting 28 = .ok (.iload_n 1, 1) := by decide +kernel
theorem dX6_waiting_29 : decode cX6_waiting 29 = .ok (.aaload, 1) := by decide +kernel
theorem dX6_waiting_30 : decode cX6_waiting 30 = .ok (.getfield 214, 3) := by decide +kernel
theorem dX6_waiting_33 : decode cX6_waiting 33 = .ok (.goto 4, 3) := by decide +kernel
theorem dX6_waiting_36 : decode cX6_waiting 36 = .ok (.iconst (-1), 1) := by decide +kernel
theorem dX6_waiting_37 : decode cX6_waiting 37 = .ok (.ireturn, 1) := by decide +kernel
set_option maxRecDepth 20000 in
theorem ggX6_move_X6_knownTrader : GoodIn wsX6_move wsX6_knownTrader := goodIn_ca (goodIn_r _ [8, 9, 10, 11, 156, 157, 158, 159, 160, 161, 162, 163, 164, 165, 166, 167, 168, 169, 170, 171, 172, 173] (by decide +kernel) (by decide +kernel)) (goodIn_sub (fun _ h => List.mem_cons_of_mem _ (List.mem_append_left _ (List.mem_append_right _ h))) (by decide +kernel))
set_option maxRecDepth 20000 in
theorem gX6_move_X6_knownTrader : GoodIn wsX6_move (wsV RX6 111 RX6 yX6_knownTrader wsX6_knownTrader) := goodIn_app (goodIn_of _ (by decide +kernel)) ggX6_move_X6_knownTrader
set_option maxRecDepth 20000 in
theorem ggX6_move_X6_needTime : GoodIn wsX6_move wsX6_needTime := goodIn_ca (goodIn_r _ [15, 16, 17, 18, 156, 157, 158, 159, 160, 161, 162, 163, 164, 165, 166, 167, 168, 169, 170, 171, 172, 173] (by decide +kernel) (by decide +kernel)) (goodIn_sub (fun _ h => List.mem_cons_of_mem _ (List.mem_append_right _ h)) (by decide +kernel))
set_option maxRecDepth 20000 in
theorem gX6_move_X6_needTime : GoodIn wsX6_move (wsV RX6 45 RX6 yX6_needTime wsX6_needTime) := goodIn_app (goodIn_of _ (by decide +kernel)) ggX6_move_X6_needTime
set_option maxRecDepth 20000 in
theorem ggX6_move_X6_against : GoodIn wsX6_move wsX6_against := goodIn_r _ [22, 23, 24, 25, 26, 27, 7, 28, 29, 30, 31, 32, 33, 34, 35, 36, 37, 38, 39, 40, 41, 42, 43, 44, 45, 46, 47, 48, 49, 50, 51, 52, 53, 54, 55, 56, 57, 58, 59, 1, 2, 3, 60, 61, 62, 63, 64, 65, 66, 67, 68, 69, 70, 71, 72, 73, 74, 75, 76, 77, 78, 79, 80, 81, 82, 83, 84, 85, 86, 87, 88, 89, 90, 91, 92, 93, 94, 95, 96, 97, 98, 99, 100, 101, 102, 103, 131, 132, 133, 134, 135, 136, 137, 138, 139, 140, 141, 142, 143, 144, 156, 157, 158, 159, 160, 161, 162, 163, 164, 165, 166, 167, 168, 169, 170, 171, 172, 173, 174, 175, 176, 177, 178, 179, 180, 181, 182, 145, 146, 147, 148, 149, 150, 151, 152, 153, 154, 155] (by decide +kernel) (by decide +kernel)
set_option maxRecDepth 20000 in
theorem gX6_move_X6_against : GoodIn wsX6_move (wsV RX6 199 RX6 yX6_against wsX6_against) := goodIn_app (goodIn_of _ (by decide +kernel)) ggX6_move_X6_against
set_option maxRecDepth 20000 in
theorem ggX6_move_X6_takeDown : GoodIn wsX6_move wsX6_takeDown := goodIn_r _ [107, 1, 2, 108, 109, 23, 58, 59, 110, 103, 24, 25, 26, 27, 7, 28, 29, 111, 112, 113, 33, 114, 54, 41, 42, 43, 44, 35, 115, 116, 117, 118, 119, 120, 61, 62, 63, 131, 132, 133, 134, 135, 136, 137, 138, 139, 140, 141, 142, 143, 144, 145, 146, 147, 148, 149, 150, 151, 152, 153, 154, 155, 177, 178, 179, 180, 181, 182, 156, 157, 158, 159, 160, 161, 162, 163, 164, 165, 166, 167, 168, 169, 170, 171, 172, 173, 174, 175, 176] (by decide +kernel) (by decide +kernel)
set_option maxRecDepth 20000 in
theorem gX6_move_X6_takeDown : GoodIn wsX6_move (wsV RX6 230 RX6 yX6_takeDown wsX6_takeDown) := goodIn_app (goodIn_of _ (by decide +kernel)) ggX6_move_X6_takeDown
set_option maxRecDepth 20000 in
theorem ggX6_move_X6_setUp : GoodIn wsX6_move wsX6_setUp := goodIn_r _ [124, 23, 1, 2, 58, 59, 110, 103, 24, 25, 26, 27, 7, 28, 29, 111, 112, 113, 33, 114, 54, 41, 42, 43, 44, 35, 125, 126, 127, 118, 128, 120, 129, 130, 61, 62, 63, 131, 132, 133, 134, 135, 136, 137, 138, 139, 140, 141, 142, 143, 144, 145, 146, 147, 148, 149, 150, 151, 152, 177, 178, 179, 180, 181, 182, 156, 157, 158, 159, 160, 161, 162, 163, 164, 165, 166, 167, 168, 169, 170, 171, 172, 173, 174, 175, 176, 153, 154, 155] (by decide +kernel) (by decide +kernel)
set_option maxRecDepth 20000 in
theorem gX6_move_X6_setUp : GoodIn wsX6_move (wsV RX6 233 RX6 yX6_setUp wsX6_setUp) := goodIn_app (goodIn_of _ (by decide +kernel)) ggX6_move_X6_setUp
theorem dX6_move_0 : decode cX6_move 0 = .ok (.aload_n 0, 1) := by decide +kernel
theorem dX6_move_1 : decode cX6_move 1 = .ok (.iload_n 1, 1) := by decide +kernel
theorem dX6_move_2 : decode cX6_move 2 = .ok (.invokevirtual 111, 3) := by decide +kernel
theorem dX6_move_5 : decode cX6_move 5 = .ok (.astore 4, 2) := by decide +kernel
theorem dX6_move_7 : decode cX6_move 7 = .ok (.aload_n 0, 1) := by decide +kernel
theorem dX6_move_8 : decode cX6_move 8 = .ok (.iconst 2, 1) := by decide +kernel
theorem dX6_move_9 : decode cX6_move 9 = .ok (.iconst 3, 1) := by decide +kernel
theorem dX6_move_10 : decode cX6_move 10 = .ok (.invokevirtual 45, 3) := by decide +kernel
theorem dX6_move_13 : decode cX6_move 13 = .ok (.aload 4, 2) := by decide +kernel
theorem dX6_move_15 : decode cX6_move 15 = .ok (.getfield 168, 3) := by decide +kernel
theorem dX6_move_18 : decode cX6_move 18 = .ok (.getfield 224, 3) := by decide +kernel
theorem dX6_move_21 : decode cX6_move 21 = .ok (.getfield 227, 3) := by decide +kernel
theorem dX6_move_24 : decode cX6_move 24 = .ok (.ifCond .eq 14, 3) := by decide +kernel
theorem dX6_move_27 : decode cX6_move 27 = .ok (.aload_n 0, 1) := by decide +kernel
theorem dX6_move_28 : decode cX6_move 28 = .ok (.aload 4, 2) := by decide +kernel
theorem dX6_move_30 : decode cX6_move 30 = .ok (.iload_n 2, 1) := by decide +kernel
theorem dX6_move_31 : decode cX6_move 31 = .ok (.iload_n 3, 1) := by decide +kernel
theorem dX6_move_32 : decode cX6_move 32 = .ok (.invokevirtual 199, 3) := by decide +kernel
theorem dX6_move_35 : decode cX6_move 35 = .ok (.ifCond .eq 5, 3) := by decide +kernel
theorem dX6_move_38 : decode cX6_move 38 = .ok (.iconst 0, 1) := by decide +kernel
theorem dX6_move_39 : decode cX6_move 39 = .ok (.ireturn, 1) := by decide +kernel
theorem dX6_move_40 : decode cX6_move 40 = .ok (.aload_n 0, 1) := by decide +kernel
theorem dX6_move_41 : decode cX6_move 41 = .ok (.aload 4, 2) := by decide +kernel
theorem dX6_move_43 : decode cX6_move 43 = .ok (.invokevirtual 230, 3) := by decide +kernel
theorem dX6_move_46 : decode cX6_move 46 = .ok (.aload_n 0, 1) := by decide +kernel
theorem dX6_move_47 : decode cX6_move 47 = .ok (.aload 4, 2) := by decide +kernel
theorem dX6_move_49 : decode cX6_move 49 = .ok (.iload_n 2, 1) := by decide +kernel
theorem dX6_move_50 : decode cX6_move 50 = .ok (.iload_n 3, 1) := by decide +kernel
theorem dX6_move_51 : decode cX6_move 51 = .ok (.invokevirtual 233, 3) := by decide +kernel
theorem dX6_move_54 : decode cX6_move 54 = .ok (.iconst 1, 1) := by decide +kernel
theorem dX6_move_55 : decode cX6_move 55 = .ok (.ireturn, 1) := by decide +kernel
set_option maxRecDepth 20000 in
theorem ggX6_change_X6_knownTrader : GoodIn wsX6_change wsX6_knownTrader := goodIn_ca (goodIn_r _ [8, 9, 10, 11, 160, 161, 162, 163, 164, 165, 166, 167, 168, 169, 170, 171, 172, 173, 174, 175, 176, 177] (by decide +kernel) (by decide +kernel)) (goodIn_sub (fun _ h => List.mem_cons_of_mem _ (List.mem_append_left _ (List.mem_append_right _ h))) (by decide +kernel))
set_option maxRecDepth 20000 in
theorem gX6_change_X6_knownTrader : GoodIn wsX6_change (wsV RX6 111 RX6 yX6_knownTrader wsX6_knownTrader) := goodIn_app (goodIn_of _ (by decide +kernel)) ggX6_change_X6_knownTrader
set_option maxRecDepth 20000 in
theorem ggX6_change_X6_needTime : GoodIn wsX6_change wsX6_needTime := goodIn_ca (goodIn_r _ [15, 16, 17, 18, 160, 161, 162, 163, 164, 165, 166, 167, 168, 169, 170, 171, 172, 173, 174, 175, 176, 177] (by decide +kernel) (by decide +kernel)) (goodIn_sub (fun _ h => List.mem_cons_of_mem _ (List.mem_append_right _ h)) (by decide +kernel))
set_option maxRecDepth 20000 in
theorem gX6_change_X6_needTime : GoodIn wsX6_change (wsV RX6 45 RX6 yX6_needTime wsX6_needTime) := goodIn_app (goodIn_of _ (by decide +kernel)) ggX6_change_X6_needTime
set_option maxRecDepth 20000 in
theorem ggX6_change_X6_swapIfBothSuit : GoodIn wsX6_change wsX6_swapIfBothSuit := goodIn_r _ [22, 1, 2, 23, 24, 25, 26, 27, 7, 28, 29, 30, 31, 32, 33, 34, 35, 36, 37, 38, 39, 40, 41, 42, 43, 44, 45, 46, 47, 48, 49, 50, 51, 52, 53, 54, 55, 56, 57, 58, 59, 60, 61, 62, 63, 64, 65, 66, 67, 68, 69, 70, 71, 72, 73, 74, 75, 76, 77, 78, 79, 80, 81, 82, 83, 84, 3, 85, 86, 87, 88, 89, 90, 91, 92, 93, 94, 95, 96, 97, 98, 99, 100, 101, 102, 103, 104, 105, 106, 107, 108, 109, 110, 111, 112, 113, 114, 115, 116, 117, 118, 119, 120, 121, 122, 123, 124, 125, 126, 127, 128, 129, 130, 131, 132, 133, 134, 135, 136, 137, 138, 139, 140, 141, 142, 143, 144, 145, 146, 147, 148, 149, 150, 151, 152, 153, 154, 155, 156, 157, 158, 159, 178, 179, 180, 181, 182, 183, 160, 161, 162, 163, 164, 165, 166, 167, 168, 169, 170, 171, 172, 173, 174, 175, 176, 177, 184, 185, 186] (by decide +kernel) (by decide +kernel)
set_option maxRecDepth 20000 in
theorem gX6_change_X6_swapIfBothSuit : GoodIn wsX6_change (wsV RX6 236 RX6 yX6_swapIfBothSuit wsX6_swapIfBothSuit) := goodIn_app (goodIn_of _ (by decide +kernel)) ggX6_change_X6_swapIfBothSuit
theorem dX6_change_0 : decode cX6_change 0 = .ok (.aload_n 0, 1) := by decide +kernel
theorem dX6_change_1 : decode cX6_change 1 = .ok (.iload_n 1, 1) := by decide +kernel
theorem dX6_change_2 : decode cX6_change 2 = .ok (.invokevirtual 111, 3) := by decide +kernel
theorem dX6_change_5 : decode cX6_change 5 = .ok (.astore_n 3, 1) := by decide +kernel
theorem dX6_change_6 : decode cX6_change 6 = .ok (.aload_n 0, 1) := by decide +kernel
theorem dX6_change_7 : decode cX6_change 7 = .ok (.iload_n 2, 1) := by decide +kernel
theorem dX6_change_8 : decode cX6_change 8 = .ok (.invokevirtual 111, 3) := by decide +kernel
theorem dX6_change_11 : decode cX6_change 11 = .ok (.astore 4, 2) := by decide +kernel
theorem dX6_change_13 : decode cX6_change 13 = .ok (.aload_n 0, 1) := by decide +kernel
theorem dX6_change_14 : decode cX6_change 14 = .ok (.iconst 2, 1) := by decide +kernel
theorem dX6_change_15 : decode cX6_change 15 = .ok (.iconst 3, 1) := by decide +kernel
theorem dX6_change_16 : decode cX6_change 16 = .ok (.invokevirtual 45, 3) := by decide +kernel
theorem dX6_change_19 : decode cX6_change 19 = .ok (.aload_n 3, 1) := by decide +kernel
theorem dX6_change_20 : decode cX6_change 20 = .ok (.aload 4, 2) := by decide +kernel
theorem dX6_change_22 : decode cX6_change 22 = .ok (.if_acmp .eq 30, 3) := by decide +kernel
theorem dX6_change_25 : decode cX6_change 25 = .ok (.aload_n 3, 1) := by decide +kernel
theorem dX6_change_26 : decode cX6_change 26 = .ok (.getfield 168, 3) := by decide +kernel
theorem dX6_change_29 : decode cX6_change 29 = .ok (.getfield 224, 3) := by decide +kernel
theorem dX6_change_32 : decode cX6_change 32 = .ok (.getfield 227, 3) := by decide +kernel
theorem dX6_change_35 : decode cX6_change 35 = .ok (.ifCond .eq 17, 3) := by decide +kernel
theorem dX6_change_38 : decode cX6_change 38 = .ok (.aload 4, 2) := by decide +kernel
theorem dX6_change_40 : decode cX6_change 40 = .ok (.getfield 168, 3) := by decide +kernel
theorem dX6_change_43 : decode cX6_change 43 = .ok (.getfield 224, 3) := by decide +kernel
theorem dX6_change_46 : decode cX6_change 46 = .ok (.getfield 227, 3) := by decide +kernel
theorem dX6_change_49 : decode cX6_change 49 = .ok (.ifCond .ne 5, 3) := by decide +kernel
theorem dX6_change_52 : decode cX6_change 52 = .ok (.iconst 0, 1) := by decide +kernel
theorem dX6_change_53 : decode cX6_change 53 = .ok (.ireturn, 1) := by decide +kernel
theorem dX6_change_54 : decode cX6_change 54 = .ok (.aload_n 0, 1) := by decide +kernel
theorem dX6_change_55 : decode cX6_change 55 = .ok (.aload_n 3, 1) := by decide +kernel
theorem dX6_change_56 : decode cX6_change 56 = .ok (.aload 4, 2) := by decide +kernel
theorem dX6_change_58 : decode cX6_change 58 = .ok (.invokevirtual 236, 3) := by decide +kernel
theorem dX6_change_61 : decode cX6_change 61 = .ok (.ireturn, 1) := by decide +kernel
set_option maxRecDepth 20000 in
theorem ggX6_leave_X6_knownTrader : GoodIn wsX6_leave wsX6_knownTrader := goodIn_ca (goodIn_r _ [9, 10, 11, 12, 99, 100, 101, 102, 103, 104, 105, 106, 107, 108, 109, 110, 111, 112, 113, 114, 115, 116] (by decide +kernel) (by decide +kernel)) (goodIn_sub (fun _ h => List.mem_cons_of_mem _ (List.mem_append_left _ (List.mem_append_right _ h))) (by decide +kernel))
set_option maxRecDepth 20000 in
theorem gX6_leave_X6_knownTrader : GoodIn wsX6_leave (wsV RX6 111 RX6 yX6_knownTrader wsX6_knownTrader) := goodIn_app (goodIn_of _ (by decide +kernel)) ggX6_leave_X6_knownTrader
set_option maxRecDepth 20000 in
theorem ggX6_leave_X6_needTime : GoodIn wsX6_leave wsX6_needTime := goodIn_ca (goodIn_r _ [16, 17, 18, 19, 99, 100, 101, 102, 103, 104, 105, 106, 107, 108, 109, 110, 111, 112, 113, 114, 115, 116] (by decide +kernel) (by decide +kernel)) (goodIn_sub (fun _ h => List.mem_cons_of_mem _ (List.mem_append_right _ h)) (by decide +kernel))
set_option maxRecDepth 20000 in
theorem gX6_leave_X6_needTime : GoodIn wsX6_leave (wsV RX6 45 RX6 yX6_needTime wsX6_needTime) := goodIn_app (goodIn_of _ (by decide +kernel)) ggX6_leave_X6_needTime
set_option maxRecDepth 20000 in
theorem ggX6_leave_X6_chargeAndTakeDown : GoodIn wsX6_leave wsX6_chargeAndTakeDown := goodIn_r _ [23, 24, 25, 26, 27, 28, 8, 29, 30, 31, 32, 1, 33, 34, 35, 36, 37, 38, 39, 40, 41, 42, 43, 2, 44, 45, 46, 47, 48, 49, 50, 51, 52, 53, 54, 55, 56, 57, 58, 59, 60, 61, 62, 63, 64, 65, 66, 67, 68, 69, 70, 71, 72, 73, 74, 75, 76, 77, 78, 79, 80, 81, 82, 83, 84, 85, 86, 87, 99, 100, 101, 102, 103, 104, 105, 106, 107, 108, 109, 110, 111, 112, 113, 114, 115, 116, 88, 89, 90, 91, 92, 93, 94, 95, 117, 118, 119, 120, 121, 122, 96, 97, 98, 123, 124, 125] (by decide +kernel) (by decide +kernel)
set_option maxRecDepth 20000 in
theorem gX6_leave_X6_chargeAndTakeDown : GoodIn wsX6_leave (wsV RX6 243 RX6 yX6_chargeAndTakeDown wsX6_chargeAndTakeDown) := goodIn_app (goodIn_of _ (by decide +kernel)) ggX6_leave_X6_chargeAndTakeDown
theorem dX6_leave_0 : decode cX6_leave 0 = .ok (.aload_n 0, 1) := by decide +kernel
theorem dX6_leave_1 : decode cX6_leave 1 = .ok (.iload_n 1, 1) := by decide +kernel
theorem dX6_leave_2 : decode cX6_leave 2 = .ok (.invokevirtual 111, 3) := by decide +kernel
theorem dX6_leave_5 : decode cX6_leave 5 = .ok (.astore_n 2, 1) := by decide +kernel
theorem dX6_leave_6 : decode cX6_leave 6 = .ok (.aload_n 0, 1) := by decide +kernel
theorem dX6_leave_7 : decode cX6_leave 7 = .ok (.iconst 2, 1) := by decide +kernel
theorem dX6_leave_8 : decode cX6_leave 8 = .ok (.iconst 3, 1) := by decide +kernel
theorem dX6_leave_9 : decode cX6_leave 9 = .ok (.invokevirtual 45, 3) := by decide +kernel
theorem dX6_leave_12 : decode cX6_leave 12 = .ok (.aload_n 2, 1) := by decide +kernel
theorem dX6_leave_13 : decode cX6_leave 13 = .ok (.getfield 168, 3) := by decide +kernel
theorem dX6_leave_16 : decode cX6_leave 16 = .ok (.getfield 224, 3) := by decide +kernel
theorem dX6_leave_19 : decode cX6_leave 19 = .ok (.getfield 227, 3) := by decide +kernel
theorem dX6_leave_22 : decode cX6_leave 22 = .ok (.ifCond .ne 5, 3) := by decide +kernel
theorem dX6_leave_25 : decode cX6_leave 25 = .ok (.iconst (-1), 1) := by decide +kernel
theorem dX6_leave_26 : decode cX6_leave 26 = .ok (.ireturn, 1) := by decide +kernel
theorem dX6_leave_27 : decode cX6_leave 27 = .ok (.aload_n 2, 1) := by decide +kernel
theorem dX6_leave_28 : decode cX6_leave 28 = .ok (.getfield 168, 3) := by decide +kernel
theorem dX6_leave_31 : decode cX6_leave 31 = .ok (.iconst 1, 1) := by decide +kernel
theorem dX6_leave_32 : decode cX6_leave 32 = .ok (.putfield 240, 3) := by decide +kernel
theorem dX6_leave_35 : decode cX6_leave 35 = .ok (.aload_n 0, 1) := by decide +kernel
theorem dX6_leave_36 : decode cX6_leave 36 = .ok (.aload_n 2, 1) := by decide +kernel
theorem dX6_leave_37 : decode cX6_leave 37 = .ok (.invokevirtual 243, 3) := by decide +kernel
theorem dX6_leave_40 : decode cX6_leave 40 = .ok (.ireturn, 1) := by decide +kernel
set_option maxRecDepth 20000 in
theorem ggX6_pay_X6_knownTrader : GoodIn wsX6_pay wsX6_knownTrader := goodIn_ca (goodIn_r _ [9, 10, 11, 12, 27, 28, 29, 30, 31, 32, 33, 34, 35, 36, 37, 38, 39, 40, 41, 42, 43, 44] (by decide +kernel) (by decide +kernel)) (goodIn_sub (fun _ h => List.mem_cons_of_mem _ (List.mem_append_right _ h)) (by decide +kernel))
set_option maxRecDepth 20000 in
theorem gX6_pay_X6_knownTrader : GoodIn wsX6_pay (wsV RX6 111 RX6 yX6_knownTrader wsX6_knownTrader) := goodIn_app (goodIn_of _ (by decide +kernel)) ggX6_pay_X6_knownTrader
theorem dX6_pay_0 : decode cX6_pay 0 = .ok (.aload_n 0, 1) := by decide +kernel
theorem dX6_pay_1 : decode cX6_pay 1 = .ok (.iload_n 1, 1) := by decide +kernel
theorem dX6_pay_2 : decode cX6_pay 2 = .ok (.invokevirtual 111, 3) := by decide +kernel
theorem dX6_pay_5 : decode cX6_pay 5 = .ok (.astore 4, 2) := by decide +kernel
theorem dX6_pay_7 : decode cX6_pay 7 = .ok (.lload_n 2, 1) := by decide +kernel
theorem dX6_pay_8 : decode cX6_pay 8 = .ok (.lconst 1, 1) := by decide +kernel
theorem dX6_pay_9 : decode cX6_pay 9 = .ok (.lcmp, 1) := by decide +kernel
theorem dX6_pay_10 : decode cX6_pay 10 = .ok (.ifCond .lt 13, 3) := by decide +kernel
theorem dX6_pay_13 : decode cX6_pay 13 = .ok (.lload_n 2, 1) := by decide +kernel
theorem dX6_pay_14 : decode cX6_pay 14 = .ok (.aload 4, 2) := by decide +kernel
theorem dX6_pay_16 : decode cX6_pay 16 = .ok (.getfield 246, 3) := by decide +kernel
theorem dX6_pay_19 : decode cX6_pay 19 = .ok (.lcmp, 1) := by decide +kernel
theorem dX6_pay_20 : decode cX6_pay 20 = .ok (.ifCond .le 13, 3) := by decide +kernel
theorem dX6_pay_23 : decode cX6_pay 23 = .ok (.new 38, 3) := by decide +kernel
theorem dX6_pay_26 : decode cX6_pay 26 = .ok (.dup, 1) := by decide +kernel
theorem dX6_pay_27 : decode cX6_pay 27 = .ok (.ldc 250, 2) := by decide +kernel
theorem dX6_pay_29 : decode cX6_pay 29 = .ok (.invokespecial 42, 3) := by decide +kernel
theorem dX6_pay_32 : decode cX6_pay 32 = .ok (.athrow, 1) := by decide +kernel
theorem dX6_pay_33 : decode cX6_pay 33 = .ok (.aload 4, 2) := by decide +kernel
theorem dX6_pay_35 : decode cX6_pay 35 = .ok (.dup, 1) := by decide +kernel
theorem dX6_pay_36 : decode cX6_pay 36 = .ok (.getfield 246, 3) := by decide +kernel
theorem dX6_pay_39 : decode cX6_pay 39 = .ok (.lload_n 2, 1) := by decide +kernel
theorem dX6_pay_40 : decode cX6_pay 40 = .ok (.lsub, 1) := by decide +kernel
theorem dX6_pay_41 : decode cX6_pay 41 = .ok (.putfield 246, 3) := by decide +kernel
theorem dX6_pay_44 : decode cX6_pay 44 = .ok (.aload_n 0, 1) := by decide +kernel
theorem dX6_pay_45 : decode cX6_pay 45 = .ok (.dup, 1) := by decide +kernel
theorem dX6_pay_46 : decode cX6_pay 46 = .ok (.getfield 252, 3) := by decide +kernel
theorem dX6_pay_49 : decode cX6_pay 49 = .ok (.lload_n 2, 1) := by decide +kernel
theorem dX6_pay_50 : decode cX6_pay 50 = .ok (.ladd, 1) := by decide +kernel
theorem dX6_pay_51 : decode cX6_pay 51 = .ok (.putfield 252, 3) := by decide +kernel
theorem dX6_pay_54 : decode cX6_pay 54 = .ok (.aload 4, 2) := by decide +kernel
theorem dX6_pay_56 : decode cX6_pay 56 = .ok (.getfield 246, 3) := by decide +kernel
theorem dX6_pay_59 : decode cX6_pay 59 = .ok (.lreturn, 1) := by decide +kernel
set_option maxRecDepth 20000 in
theorem ggX6_look_X6_knownTrader : GoodIn wsX6_look wsX6_knownTrader := goodIn_ca (goodIn_r _ [27, 28, 29, 30, 81, 82, 83, 84, 85, 86, 87, 88, 89, 90, 91, 92, 93, 94, 95, 96, 97, 98] (by decide +kernel) (by decide +kernel)) (goodIn_sub (fun _ h => List.mem_cons_of_mem _ (List.mem_append_right _ h)) (by decide +kernel))
set_option maxRecDepth 20000 in
theorem gX6_look_X6_knownTrader : GoodIn wsX6_look (wsV RX6 111 RX6 yX6_knownTrader wsX6_knownTrader) := goodIn_app (goodIn_of _ (by decide +kernel)) ggX6_look_X6_knownTrader
set_option maxRecDepth 20000 in
theorem ggX6_look_X1_code : GoodIn wsX6_look wsX1_code := goodIn_r _ [35, 36, 37, 38, 99, 100, 101] (by decide +kernel) (by decide +kernel)
set_option maxRecDepth 20000 in
theorem gX6_look_X1_code : GoodIn wsX6_look (wsV RX6 266 RX1 yX1_code wsX1_code) := goodIn_app (goodIn_of _ (by decide +kernel)) ggX6_look_X1_code
set_option maxRecDepth 20000 in
theorem ggX6_look_X6_oneIf : GoodIn wsX6_look wsX6_oneIf := goodIn_r _ [41] (by decide +kernel) (by decide +kernel)
set_option maxRecDepth 20000 in
theorem gX6_look_X6_oneIf : GoodIn wsX6_look (va_wsS RX6 269 yX6_oneIf wsX6_oneIf) := goodIn_app (goodIn_of _ (by decide +kernel)) ggX6_look_X6_oneIf
set_option maxRecDepth 20000 in
theorem ggX6_look_J6_bitCount_0f7a4 : GoodIn wsX6_look wsJ6_bitCount_0f7a4 := goodIn_r _ [45, 46, 47, 48] (by decide +kernel) (by decide +kernel)
set_option maxRecDepth 20000 in
theorem gX6_look_J6_bitCount_0f7a4 : GoodIn wsX6_look (va_wsS RX6 279 yJ6_bitCount_0f7a4 wsJ6_bitCount_0f7a4) := goodIn_app (goodIn_of _ (by decide +kernel)) ggX6_look_J6_bitCount_0f7a4
theorem dX6_look_0 : decode cX6_look 0 = .ok (.aload_n 0, 1) := by decide +kernel
theorem dX6_look_1 : decode cX6_look 1 = .ok (.iload_n 1, 1) := by decide +kernel
theorem dX6_look_2 : decode cX6_look 2 = .ok (.invokevirtual 111, 3) := by decide +kernel
theorem dX6_look_5 : decode cX6_look 5 = .ok (.astore_n 3, 1) := by decide +kernel
theorem dX6_look_6 : decode cX6_look 6 = .ok (.iload_n 2, 1) := by decide +kernel
theorem dX6_look_7 : decode cX6_look 7 = .ok (.tableswitch 226 0 16 #[81, 86, 94, 99, 104, 112, 123, 134, 145, 156, 167, 178, 186, 191, 199, 207, 218], 81) := by decide +kernel
theorem dX6_look_88 : decode cX6_look 88 = .ok (.aload_n 3, 1) := by decide +kernel
theorem dX6_look_89 : decode cX6_look 89 = .ok (.getfield 115, 3) := by decide +kernel
theorem dX6_look_92 : decode cX6_look 92 = .ok (.ireturn, 1) := by decide +kernel
theorem dX6_look_93 : decode cX6_look 93 = .ok (.aload_n 3, 1) := by decide +kernel
theorem dX6_look_94 : decode cX6_look 94 = .ok (.getfield 255, 3) := by decide +kernel
theorem dX6_look_97 : decode cX6_look 97 = .ok (.getfield 259, 3) := by decide +kernel
theorem dX6_look_100 : decode cX6_look 100 = .ok (.ireturn, 1) := by decide +kernel
theorem dX6_look_101 : decode cX6_look 101 = .ok (.aload_n 3, 1) := by decide +kernel
theorem dX6_look_102 : decode cX6_look 102 = .ok (.getfield 260, 3) := by decide +kernel
theorem dX6_look_105 : decode cX6_look 105 = .ok (.ireturn, 1) := by decide +kernel
theorem dX6_look_106 : decode cX6_look 106 = .ok (.aload_n 3, 1) := by decide +kernel
theorem dX6_look_107 : decode cX6_look 107 = .ok (.getfield 263, 3) := by decide +kernel
theorem dX6_look_110 : decode cX6_look 110 = .ok (.ireturn, 1) := by decide +kernel
theorem dX6_look_111 : decode cX6_look 111 = .ok (.aload_n 3, 1) := by decide +kernel
theorem dX6_look_112 : decode cX6_look 112 = .ok (.getfield 120, 3) := by decide +kernel
theorem dX6_look_115 : decode cX6_look 115 = .ok (.invokevirtual 266, 3) := by decide +kernel
theorem dX6_look_118 : decode cX6_look 118 = .ok (.ireturn, 1) := by decide +kernel
theorem dX6_look_119 : decode cX6_look 119 = .ok (.aload_n 3, 1) := by decide +kernel
theorem dX6_look_120 : decode cX6_look 120 = .ok (.getfield 168, 3) := by decide +kernel
theorem dX6_look_123 : decode cX6_look 123 = .ok (.getfield 224, 3) := by decide +kernel
theorem dX6_look_126 : decode cX6_look 126 = .ok (.invokevirtual 266, 3) := by decide +kernel
theorem dX6_look_129 : decode cX6_look 129 = .ok (.ireturn, 1) := by decide +kernel
theorem dX6_look_130 : decode cX6_look 130 = .ok (.aload_n 3, 1) := by decide +kernel
theorem dX6_look_131 : decode cX6_look 131 = .ok (.getfield 168, 3) := by decide +kernel
theorem dX6_look_134 : decode cX6_look 134 = .ok (.getfield 172, 3) := by decide +kernel
theorem dX6_look_137 : decode cX6_look 137 = .ok (.invokestatic 269, 3) := by decide +kernel
theorem dX6_look_140 : decode cX6_look 140 = .ok (.ireturn, 1) := by decide +kernel
theorem dX6_look_141 : decode cX6_look 141 = .ok (.aload_n 3, 1) := by decide +kernel
theorem dX6_look_142 : decode cX6_look 142 = .ok (.getfield 168, 3) := by decide +kernel
theorem dX6_look_145 : decode cX6_look 145 = .ok (.getfield 177, 3) := by decide +kernel
theorem dX6_look_148 : decode cX6_look 148 = .ok (.invokestatic 269, 3) := by decide +kernel
theorem dX6_look_151 : decode cX6_look 151 = .ok (.ireturn, 1) := by decide +kernel
theorem dX6_look_152 : decode cX6_look 152 = .ok (.aload_n 3, 1) := by decide +kernel
theorem dX6_look_153 : decode cX6_look 153 = .ok (.getfield 168, 3) := by decide +kernel
theorem dX6_look_156 : decode cX6_look 156 = .ok (.getfield 273, 3) := by decide +kernel
theorem dX6_look_159 : decode cX6_look 159 = .ok (.invokestatic 269, 3) := by decide +kernel
theorem dX6_look_162 : decode cX6_look 162 = .ok (.ireturn, 1) := by decide +kernel
theorem dX6_look_163 : decode cX6_look 163 = .ok (.aload_n 3, 1) := by decide +kernel
theorem dX6_look_164 : decode cX6_look 164 = .ok (.getfield 168, 3) := by decide +kernel
theorem dX6_look_167 : decode cX6_look 167 = .ok (.getfield 217, 3) := by decide +kernel
theorem dX6_look_170 : decode cX6_look 170 = .ok (.invokestatic 269, 3) := by decide +kernel
theorem dX6_look_173 : decode cX6_look 173 = .ok (.ireturn, 1) := by decide +kernel
theorem dX6_look_174 : decode cX6_look 174 = .ok (.aload_n 3, 1) := by decide +kernel
theorem dX6_look_175 : decode cX6_look 175 = .ok (.getfield 168, 3) := by decide +kernel
theorem dX6_look_178 : decode cX6_look 178 = .ok (.getfield 240, 3) := by decide +kernel
theorem dX6_look_181 : decode cX6_look 181 = .ok (.invokestatic 269, 3) := by decide +kernel
theorem dX6_look_184 : decode cX6_look 184 = .ok (.ireturn, 1) := by decide +kernel
theorem dX6_look_185 : decode cX6_look 185 = .ok (.aload_n 3, 1) := by decide +kernel
theorem dX6_look_186 : decode cX6_look 186 = .ok (.getfield 276, 3) := by decide +kernel
theorem dX6_look_189 : decode cX6_look 189 = .ok (.invokestatic 279, 3) := by decide +kernel
theorem dX6_look_192 : decode cX6_look 192 = .ok (.ireturn, 1) := by decide +kernel
theorem dX6_look_193 : decode cX6_look 193 = .ok (.aload_n 3, 1) := by decide +kernel
theorem dX6_look_194 : decode cX6_look 194 = .ok (.getfield 285, 3) := by decide +kernel
theorem dX6_look_197 : decode cX6_look 197 = .ok (.ireturn, 1) := by decide +kernel
theorem dX6_look_198 : decode cX6_look 198 = .ok (.aload_n 3, 1) := by decide +kernel
theorem dX6_look_199 : decode cX6_look 199 = .ok (.getfield 288, 3) := by decide +kernel
theorem dX6_look_202 : decode cX6_look 202 = .ok (.invokestatic 279, 3) := by decide +kernel
theorem dX6_look_205 : decode cX6_look 205 = .ok (.ireturn, 1) := by decide +kernel
theorem dX6_look_206 : decode cX6_look 206 = .ok (.aload_n 3, 1) := by decide +kernel
theorem dX6_look_207 : decode cX6_look 207 = .ok (.getfield 136, 3) := by decide +kernel
theorem dX6_look_210 : decode cX6_look 210 = .ok (.getfield 291, 3) := by decide +kernel
theorem dX6_look_213 : decode cX6_look 213 = .ok (.ireturn, 1) := by decide +kernel
theorem dX6_look_214 : decode cX6_look 214 = .ok (.aload_n 3, 1) := by decide +kernel
theorem dX6_look_215 : decode cX6_look 215 = .ok (.getfield 136, 3) := by decide +kernel
theorem dX6_look_218 : decode cX6_look 218 = .ok (.getfield 294, 3) := by decide +kernel
theorem dX6_look_221 : decode cX6_look 221 = .ok (.invokestatic 269, 3) := by decide +kernel
theorem dX6_look_224 : decode cX6_look 224 = .ok (.ireturn, 1) := by decide +kernel
theorem dX6_look_225 : decode cX6_look 225 = .ok (.aload_n 3, 1) := by decide +kernel
theorem dX6_look_226 : decode cX6_look 226 = .ok (.getfield 150, 3) := by decide +kernel
theorem dX6_look_229 : decode cX6_look 229 = .ok (.invokestatic 269, 3) := by decide +kernel
theorem dX6_look_232 : decode cX6_look 232 = .ok (.ireturn, 1) := by decide +kernel
theorem dX6_look_233 : decode cX6_look 233 = .ok (.new 38, 3) := by decide +kernel
theorem dX6_look_236 : decode cX6_look 236 = .ok (.dup, 1) := by decide +kernel
theorem dX6_look_237 : decode cX6_look 237 = .ok (.ldc_w 297, 3) := by decide +kernel
theorem dX6_look_240 : decode cX6_look 240 = .ok (.invokespecial 42, 3) := by decide +kernel
theorem dX6_look_243 : decode cX6_look 243 = .ok (.athrow, 1) := by decide +kernel
set_option maxRecDepth 20000 in
theorem ggX6_owed_X6_knownTrader : GoodIn wsX6_owed wsX6_knownTrader := goodIn_ca (goodIn_r _ [6, 7, 8, 9, 24, 25, 26, 27, 28, 29, 30, 31, 32, 33, 34, 35, 36, 37, 38, 39, 40, 41] (by decide +kernel) (by decide +kernel)) (goodIn_sub (fun _ h => List.mem_cons_of_mem _ (List.mem_append_right _ h)) (by decide +kernel))
set_option maxRecDepth 20000 in
theorem gX6_owed_X6_knownTrader : GoodIn wsX6_owed (wsV RX6 111 RX6 yX6_knownTrader wsX6_knownTrader) := goodIn_app (goodIn_of _ (by decide +kernel)) ggX6_owed_X6_knownTrader
theorem dX6_owed_0 : decode cX6_owed 0 = .ok (.aload_n 0, 1) := by decide +kernel
theorem dX6_owed_1 : decode cX6_owed 1 = .ok (.iload_n 1, 1) := by decide +kernel
theorem dX6_owed_2 : decode cX6_owed 2 = .ok (.invokevirtual 111, 3) := by decide +kernel
theorem dX6_owed_5 : decode cX6_owed 5 = .ok (.getfield 246, 3) := by decide +kernel
theorem dX6_owed_8 : decode cX6_owed 8 = .ok (.lreturn, 1) := by decide +kernel
set_option maxRecDepth 20000 in
theorem ggX6_stall_X6_rowOrNull : GoodIn wsX6_stall wsX6_rowOrNull := goodIn_r _ [6, 7, 33, 34, 35, 36, 37, 38, 39, 40, 41, 42, 43, 44, 45, 46, 47, 48, 49, 50] (by decide +kernel) (by decide +kernel)
set_option maxRecDepth 20000 in
theorem gX6_stall_X6_rowOrNull : GoodIn wsX6_stall (wsV RX6 299 RX6 yX6_rowOrNull wsX6_rowOrNull) := goodIn_app (goodIn_of _ (by decide +kernel)) ggX6_stall_X6_rowOrNull
set_option maxRecDepth 20000 in
theorem ggX6_stall_X0_holderAt : GoodIn wsX6_stall wsX0_holderAt := goodIn_r _ [12, 13, 14, 15, 16, 11, 17, 18, 51, 52, 53] (by decide +kernel) (by decide +kernel)
set_option maxRecDepth 20000 in
theorem gX6_stall_X0_holderAt : GoodIn wsX6_stall (wsV RX6 302 RX0 yX0_holderAt wsX0_holderAt) := goodIn_app (goodIn_of _ (by decide +kernel)) ggX6_stall_X0_holderAt
theorem dX6_stall_0 : decode cX6_stall 0 = .ok (.aload_n 0, 1) := by decide +kernel
theorem dX6_stall_1 : decode cX6_stall 1 = .ok (.iload_n 1, 1) := by decide +kernel
theorem dX6_stall_2 : decode cX6_stall 2 = .ok (.invokevirtual 299, 3) := by decide +kernel
theorem dX6_stall_5 : decode cX6_stall 5 = .ok (.astore_n 3, 1) := by decide +kernel
theorem dX6_stall_6 : decode cX6_stall 6 = .ok (.aload_n 3, 1) := by decide +kernel
theorem dX6_stall_7 : decode cX6_stall 7 = .ok (.ifnonnull 7, 3) := by decide +kernel
theorem dX6_stall_10 : decode cX6_stall 10 = .ok (.aconst_null, 1) := by decide +kernel
theorem dX6_stall_11 : decode cX6_stall 11 = .ok (.goto 8, 3) := by decide +kernel
theorem dX6_stall_14 : decode cX6_stall 14 = .ok (.aload_n 3, 1) := by decide +kernel
theorem dX6_stall_15 : decode cX6_stall 15 = .ok (.iload_n 2, 1) := by decide +kernel
theorem dX6_stall_16 : decode cX6_stall 16 = .ok (.invokevirtual 302, 3) := by decide +kernel
theorem dX6_stall_19 : decode cX6_stall 19 = .ok (.astore 4, 2) := by decide +kernel
theorem dX6_stall_21 : decode cX6_stall 21 = .ok (.aload 4, 2) := by decide +kernel
theorem dX6_stall_23 : decode cX6_stall 23 = .ok (.ifnonnull 7, 3) := by decide +kernel
theorem dX6_stall_26 : decode cX6_stall 26 = .ok (.iconst (-1), 1) := by decide +kernel
theorem dX6_stall_27 : decode cX6_stall 27 = .ok (.goto 8, 3) := by decide +kernel
theorem dX6_stall_30 : decode cX6_stall 30 = .ok (.aload 4, 2) := by decide +kernel
theorem dX6_stall_32 : decode cX6_stall 32 = .ok (.getfield 214, 3) := by decide +kernel
theorem dX6_stall_35 : decode cX6_stall 35 = .ok (.ireturn, 1) := by decide +kernel
set_option maxRecDepth 20000 in
theorem ggX6_square_X6_rowOrNull : GoodIn wsX6_square wsX6_rowOrNull := goodIn_r _ [6, 7, 25, 26, 27, 28, 29, 30, 31, 32, 33, 34, 35, 36, 37, 38, 39, 40, 41, 42] (by decide +kernel) (by decide +kernel)
set_option maxRecDepth 20000 in
theorem gX6_square_X6_rowOrNull : GoodIn wsX6_square (wsV RX6 299 RX6 yX6_rowOrNull wsX6_rowOrNull) := goodIn_app (goodIn_of _ (by decide +kernel)) ggX6_square_X6_rowOrNull
set_option maxRecDepth 20000 in
theorem ggX6_square_X0_countMarked : GoodIn wsX6_square wsX0_countMarked := goodIn_r _ [12, 13, 14, 15, 5, 16, 22, 23, 24] (by decide +kernel) (by decide +kernel)
set_option maxRecDepth 20000 in
theorem gX6_square_X0_countMarked : GoodIn wsX6_square (wsV RX6 308 RX0 yX0_countMarked wsX0_countMarked) := goodIn_app (goodIn_of _ (by decide +kernel)) ggX6_square_X0_countMarked
set_option maxRecDepth 20000 in
theorem ggX6_square_X0_countTaken : GoodIn wsX6_square wsX0_countTaken := goodIn_r _ [20, 13, 21, 15, 5, 16, 22, 23, 24] (by decide +kernel) (by decide +kernel)
set_option maxRecDepth 20000 in
theorem gX6_square_X0_countTaken : GoodIn wsX6_square (wsV RX6 311 RX0 yX0_countTaken wsX0_countTaken) := goodIn_app (goodIn_of _ (by decide +kernel)) ggX6_square_X0_countTaken
theorem dX6_square_0 : decode cX6_square 0 = .ok (.aload_n 0, 1) := by decide +kernel
theorem dX6_square_1 : decode cX6_square 1 = .ok (.iload_n 1, 1) := by decide +kernel
theorem dX6_square_2 : decode cX6_square 2 = .ok (.invokevirtual 299, 3) := by decide +kernel
theorem dX6_square_5 : decode cX6_square 5 = .ok (.astore_n 3, 1) := by decide +kernel
theorem dX6_square_6 : decode cX6_square 6 = .ok (.aload_n 3, 1) := by decide +kernel
theorem dX6_square_7 : decode cX6_square 7 = .ok (.ifnonnull 5, 3) := by decide +kernel
theorem dX6_square_10 : decode cX6_square 10 = .ok (.iconst (-1), 1) := by decide +kernel
theorem dX6_square_11 : decode cX6_square 11 = .ok (.ireturn, 1) := by decide +kernel
theorem dX6_square_12 : decode cX6_square 12 = .ok (.iload_n 2, 1) := by decide +kernel
theorem dX6_square_13 : decode cX6_square 13 = .ok (.tableswitch 63 0 4 #[35, 40, 46, 52, 58], 35) := by decide +kernel
theorem dX6_square_48 : decode cX6_square 48 = .ok (.aload_n 3, 1) := by decide +kernel
theorem dX6_square_49 : decode cX6_square 49 = .ok (.getfield 305, 3) := by decide +kernel
theorem dX6_square_52 : decode cX6_square 52 = .ok (.ireturn, 1) := by decide +kernel
theorem dX6_square_53 : decode cX6_square 53 = .ok (.aload_n 3, 1) := by decide +kernel
theorem dX6_square_54 : decode cX6_square 54 = .ok (.iconst 1, 1) := by decide +kernel
theorem dX6_square_55 : decode cX6_square 55 = .ok (.invokevirtual 308, 3) := by decide +kernel
theorem dX6_square_58 : decode cX6_square 58 = .ok (.ireturn, 1) := by decide +kernel
theorem dX6_square_59 : decode cX6_square 59 = .ok (.aload_n 3, 1) := by decide +kernel
theorem dX6_square_60 : decode cX6_square 60 = .ok (.iconst 2, 1) := by decide +kernel
theorem dX6_square_61 : decode cX6_square 61 = .ok (.invokevirtual 308, 3) := by decide +kernel
theorem dX6_square_64 : decode cX6_square 64 = .ok (.ireturn, 1) := by decide +kernel
theorem dX6_square_65 : decode cX6_square 65 = .ok (.aload_n 3, 1) := by decide +kernel
theorem dX6_square_66 : decode cX6_square 66 = .ok (.iconst 4, 1) := by decide +kernel
theorem dX6_square_67 : decode cX6_square 67 = .ok (.invokevirtual 308, 3) := by decide +kernel
theorem dX6_square_70 : decode cX6_square 70 = .ok (.ireturn, 1) := by decide +kernel
theorem dX6_square_71 : decode cX6_square 71 = .ok (.aload_n 3, 1) := by decide +kernel
theorem dX6_square_72 : decode cX6_square 72 = .ok (.invokevirtual 311, 3) := by decide +kernel
theorem dX6_square_75 : decode cX6_square 75 = .ok (.ireturn, 1) := by decide +kernel
theorem dX6_square_76 : decode cX6_square 76 = .ok (.iconst (-1), 1) := by decide +kernel
theorem dX6_square_77 : decode cX6_square 77 = .ok (.ireturn, 1) := by decide +kernel
theorem dX6_count_0 : decode cX6_count 0 = .ok (.iload_n 1, 1) := by decide +kernel
theorem dX6_count_1 : decode cX6_count 1 = .ok (.tableswitch 125 0 10 #[59, 65, 71, 77, 83, 89, 95, 105, 110, 115, 120], 59) := by decide +kernel
theorem dX6_count_60 : decode cX6_count 60 = .ok (.aload_n 0, 1) := by decide +kernel
theorem dX6_count_61 : decode cX6_count 61 = .ok (.getfield 72, 3) := by decide +kernel
theorem dX6_count_64 : decode cX6_count 64 = .ok (.i2l, 1) := by decide +kernel
theorem dX6_count_65 : decode cX6_count 65 = .ok (.lreturn, 1) := by decide +kernel
theorem dX6_count_66 : decode cX6_count 66 = .ok (.aload_n 0, 1) := by decide +kernel
theorem dX6_count_67 : decode cX6_count 67 = .ok (.getfield 100, 3) := by decide +kernel
theorem dX6_count_70 : decode cX6_count 70 = .ok (.i2l, 1) := by decide +kernel
theorem dX6_count_71 : decode cX6_count 71 = .ok (.lreturn, 1) := by decide +kernel
theorem dX6_count_72 : decode cX6_count 72 = .ok (.aload_n 0, 1) := by decide +kernel
theorem dX6_count_73 : decode cX6_count 73 = .ok (.getfield 162, 3) := by decide +kernel
theorem dX6_count_76 : decode cX6_count 76 = .ok (.i2l, 1) := by decide +kernel
theorem dX6_count_77 : decode cX6_count 77 = .ok (.lreturn, 1) := by decide +kernel
theorem dX6_count_78 : decode cX6_count 78 = .ok (.aload_n 0, 1) := by decide +kernel
theorem dX6_count_79 : decode cX6_count 79 = .ok (.getfield 165, 3) := by decide +kernel
theorem dX6_count_82 : decode cX6_count 82 = .ok (.i2l, 1) := by decide +kernel
theorem dX6_count_83 : decode cX6_count 83 = .ok (.lreturn, 1) := by decide +kernel
theorem dX6_count_84 : decode cX6_count 84 = .ok (.aload_n 0, 1) := by decide +kernel
theorem dX6_count_85 : decode cX6_count 85 = .ok (.getfield 159, 3) := by decide +kernel
theorem dX6_count_88 : decode cX6_count 88 = .ok (.i2l, 1) := by decide +kernel
theorem dX6_count_89 : decode cX6_count 89 = .ok (.lreturn, 1) := by decide +kernel
theorem dX6_count_90 : decode cX6_count 90 = .ok (.aload_n 0, 1) := by decide +kernel
theorem dX6_count_91 : decode cX6_count 91 = .ok (.getfield 314, 3) := by decide +kernel
theorem dX6_count_94 : decode cX6_count 94 = .ok (.i2l, 1) := by decide +kernel
theorem dX6_count_95 : decode cX6_count 95 = .ok (.lreturn, 1) := by decide +kernel
theorem dX6_count_96 : decode cX6_count 96 = .ok (.aload_n 0, 1) := by decide +kernel
theorem dX6_count_97 : decode cX6_count 97 = .ok (.getfield 317, 3) := by decide +kernel
theorem dX6_count_100 : decode cX6_count 100 = .ok (.aload_n 0, 1) := by decide +kernel
theorem dX6_count_101 : decode cX6_count 101 = .ok (.getfield 252, 3) := by decide +kernel
theorem dX6_count_104 : decode cX6_count 104 = .ok (.lsub, 1) := by decide +kernel
theorem dX6_count_105 : decode cX6_count 105 = .ok (.lreturn, 1) := by decide +kernel
theorem dX6_count_106 : decode cX6_count 106 = .ok (.aload_n 0, 1) := by decide +kernel
theorem dX6_count_107 : decode cX6_count 107 = .ok (.getfield 317, 3) := by decide +kernel
theorem dX6_count_110 : decode cX6_count 110 = .ok (.lreturn, 1) := by decide +kernel
theorem dX6_count_111 : decode cX6_count 111 = .ok (.aload_n 0, 1) := by decide +kernel
theorem dX6_count_112 : decode cX6_count 112 = .ok (.getfield 252, 3) := by decide +kernel
theorem dX6_count_115 : decode cX6_count 115 = .ok (.lreturn, 1) := by decide +kernel
theorem dX6_count_116 : decode cX6_count 116 = .ok (.aload_n 0, 1) := by decide +kernel
theorem dX6_count_117 : decode cX6_count 117 = .ok (.getfield 320, 3) := by decide +kernel
theorem dX6_count_120 : decode cX6_count 120 = .ok (.lreturn, 1) := by decide +kernel
theorem dX6_count_121 : decode cX6_count 121 = .ok (.aload_n 0, 1) := by decide +kernel
theorem dX6_count_122 : decode cX6_count 122 = .ok (.getfield 323, 3) := by decide +kernel
theorem dX6_count_125 : decode cX6_count 125 = .ok (.lreturn, 1) := by decide +kernel
theorem dX6_count_126 : decode cX6_count 126 = .ok (.ldc2_w 326, 3) := by decide +kernel
theorem dX6_count_129 : decode cX6_count 129 = .ok (.lreturn, 1) := by decide +kernel
theorem dX6_needTime_0 : decode cX6_needTime 0 = .ok (.aload_n 0, 1) := by decide +kernel
theorem dX6_needTime_1 : decode cX6_needTime 1 = .ok (.getfield 162, 3) := by decide +kernel
theorem dX6_needTime_4 : decode cX6_needTime 4 = .ok (.iload_n 1, 1) := by decide +kernel
theorem dX6_needTime_5 : decode cX6_needTime 5 = .ok (.if_icmp .lt 11, 3) := by decide +kernel
theorem dX6_needTime_8 : decode cX6_needTime 8 = .ok (.aload_n 0, 1) := by decide +kernel
theorem dX6_needTime_9 : decode cX6_needTime 9 = .ok (.getfield 162, 3) := by decide +kernel
theorem dX6_needTime_12 : decode cX6_needTime 12 = .ok (.iload_n 2, 1) := by decide +kernel
theorem dX6_needTime_13 : decode cX6_needTime 13 = .ok (.if_icmp .le 14, 3) := by decide +kernel
theorem dX6_needTime_16 : decode cX6_needTime 16 = .ok (.new 328, 3) := by decide +kernel
theorem dX6_needTime_19 : decode cX6_needTime 19 = .ok (.dup, 1) := by decide +kernel
theorem dX6_needTime_20 : decode cX6_needTime 20 = .ok (.ldc_w 330, 3) := by decide +kernel
theorem dX6_needTime_23 : decode cX6_needTime 23 = .ok (.invokespecial 332, 3) := by decide +kernel
theorem dX6_needTime_26 : decode cX6_needTime 26 = .ok (.athrow, 1) := by decide +kernel
theorem dX6_needTime_27 : decode cX6_needTime 27 = .ok (.return_, 1) := by decide +kernel
theorem dX6_rowOrNull_0 : decode cX6_rowOrNull 0 = .ok (.iload_n 1, 1) := by decide +kernel
theorem dX6_rowOrNull_1 : decode cX6_rowOrNull 1 = .ok (.ifCond .lt 18, 3) := by decide +kernel
theorem dX6_rowOrNull_4 : decode cX6_rowOrNull 4 = .ok (.iload_n 1, 1) := by decide +kernel
theorem dX6_rowOrNull_5 : decode cX6_rowOrNull 5 = .ok (.bipush 40, 2) := by decide +kernel
theorem dX6_rowOrNull_7 : decode cX6_rowOrNull 7 = .ok (.if_icmp .ge 12, 3) := by decide +kernel
theorem dX6_rowOrNull_10 : decode cX6_rowOrNull 10 = .ok (.aload_n 0, 1) := by decide +kernel
theorem dX6_rowOrNull_11 : decode cX6_rowOrNull 11 = .ok (.getfield 11, 3) := by decide +kernel
theorem dX6_rowOrNull_14 : decode cX6_rowOrNull 14 = .ok (.iload_n 1, 1) := by decide +kernel
theorem dX6_rowOrNull_15 : decode cX6_rowOrNull 15 = .ok (.aaload, 1) := by decide +kernel
theorem dX6_rowOrNull_16 : decode cX6_rowOrNull 16 = .ok (.goto 4, 3) := by decide +kernel
theorem dX6_rowOrNull_19 : decode cX6_rowOrNull 19 = .ok (.aconst_null, 1) := by decide +kernel
theorem dX6_rowOrNull_20 : decode cX6_rowOrNull 20 = .ok (.areturn, 1) := by decide +kernel
set_option maxRecDepth 20000 in
theorem ggX6_knownRow_X6_rowOrNull : GoodIn wsX6_knownRow wsX6_rowOrNull := goodIn_r _ [7, 8, 9, 10, 11, 12, 13, 14, 15, 16, 17, 18, 19, 20, 21, 22, 23, 24, 25, 26] (by decide +kernel) (by decide +kernel)
set_option maxRecDepth 20000 in
theorem gX6_knownRow_X6_rowOrNull : GoodIn wsX6_knownRow (wsV RX6 299 RX6 yX6_rowOrNull wsX6_rowOrNull) := goodIn_app (goodIn_of _ (by decide +kernel)) ggX6_knownRow_X6_rowOrNull
theorem dX6_knownRow_0 : decode cX6_knownRow 0 = .ok (.aload_n 0, 1) := by decide +kernel
theorem dX6_knownRow_1 : decode cX6_knownRow 1 = .ok (.iload_n 1, 1) := by decide +kernel
theorem dX6_knownRow_2 : decode cX6_knownRow 2 = .ok (.invokevirtual 299, 3) := by decide +kernel
theorem dX6_knownRow_5 : decode cX6_knownRow 5 = .ok (.astore_n 2, 1) := by decide +kernel
theorem dX6_knownRow_6 : decode cX6_knownRow 6 = .ok (.aload_n 2, 1) := by decide +kernel
theorem dX6_knownRow_7 : decode cX6_knownRow 7 = .ok (.ifnonnull 14, 3) := by decide +kernel
theorem dX6_knownRow_10 : decode cX6_knownRow 10 = .ok (.new 57, 3) := by decide +kernel
theorem dX6_knownRow_13 : decode cX6_knownRow 13 = .ok (.dup, 1) := by decide +kernel
theorem dX6_knownRow_14 : decode cX6_knownRow 14 = .ok (.ldc_w 333, 3) := by decide +kernel
theorem dX6_knownRow_17 : decode cX6_knownRow 17 = .ok (.invokespecial 61, 3) := by decide +kernel
theorem dX6_knownRow_20 : decode cX6_knownRow 20 = .ok (.athrow, 1) := by decide +kernel
theorem dX6_knownRow_21 : decode cX6_knownRow 21 = .ok (.aload_n 2, 1) := by decide +kernel
theorem dX6_knownRow_22 : decode cX6_knownRow 22 = .ok (.areturn, 1) := by decide +kernel
theorem dX6_knownTrade_0 : decode cX6_knownTrade 0 = .ok (.iload_n 1, 1) := by decide +kernel
theorem dX6_knownTrade_1 : decode cX6_knownTrade 1 = .ok (.ifCond .lt 18, 3) := by decide +kernel
theorem dX6_knownTrade_4 : decode cX6_knownTrade 4 = .ok (.iload_n 1, 1) := by decide +kernel
theorem dX6_knownTrade_5 : decode cX6_knownTrade 5 = .ok (.bipush 20, 2) := by decide +kernel
theorem dX6_knownTrade_7 : decode cX6_knownTrade 7 = .ok (.if_icmp .ge 12, 3) := by decide +kernel
theorem dX6_knownTrade_10 : decode cX6_knownTrade 10 = .ok (.aload_n 0, 1) := by decide +kernel
theorem dX6_knownTrade_11 : decode cX6_knownTrade 11 = .ok (.getfield 17, 3) := by decide +kernel
theorem dX6_knownTrade_14 : decode cX6_knownTrade 14 = .ok (.iload_n 1, 1) := by decide +kernel
theorem dX6_knownTrade_15 : decode cX6_knownTrade 15 = .ok (.aaload, 1) := by decide +kernel
theorem dX6_knownTrade_16 : decode cX6_knownTrade 16 = .ok (.goto 4, 3) := by decide +kernel
theorem dX6_knownTrade_19 : decode cX6_knownTrade 19 = .ok (.aconst_null, 1) := by decide +kernel
theorem dX6_knownTrade_20 : decode cX6_knownTrade 20 = .ok (.astore_n 2, 1) := by decide +kernel
theorem dX6_knownTrade_21 : decode cX6_knownTrade 21 = .ok (.aload_n 2, 1) := by decide +kernel
theorem dX6_knownTrade_22 : decode cX6_knownTrade 22 = .ok (.ifnonnull 14, 3) := by decide +kernel
theorem dX6_knownTrade_25 : decode cX6_knownTrade 25 = .ok (.new 57, 3) := by decide +kernel
theorem dX6_knownTrade_28 : decode cX6_knownTrade 28 = .ok (.dup, 1) := by decide +kernel
theorem dX6_knownTrade_29 : decode cX6_knownTrade 29 = .ok (.ldc_w 335, 3) := by decide +kernel
theorem dX6_knownTrade_32 : decode cX6_knownTrade 32 = .ok (.invokespecial 61, 3) := by decide +kernel
theorem dX6_knownTrade_35 : decode cX6_knownTrade 35 = .ok (.athrow, 1) := by decide +kernel
theorem dX6_knownTrade_36 : decode cX6_knownTrade 36 = .ok (.aload_n 2, 1) := by decide +kernel
theorem dX6_knownTrade_37 : decode cX6_knownTrade 37 = .ok (.areturn, 1) := by decide +kernel
theorem dX6_knownTrader_0 : decode cX6_knownTrader 0 = .ok (.iload_n 1, 1) := by decide +kernel
theorem dX6_knownTrader_1 : decode cX6_knownTrader 1 = .ok (.ifCond .lt 19, 3) := by decide +kernel
theorem dX6_knownTrader_4 : decode cX6_knownTrader 4 = .ok (.iload_n 1, 1) := by decide +kernel
theorem dX6_knownTrader_5 : decode cX6_knownTrader 5 = .ok (.sipush 200, 3) := by decide +kernel
theorem dX6_knownTrader_8 : decode cX6_knownTrader 8 = .ok (.if_icmp .ge 12, 3) := by decide +kernel
theorem dX6_knownTrader_11 : decode cX6_knownTrader 11 = .ok (.aload_n 0, 1) := by decide +kernel
theorem dX6_knownTrader_12 : decode cX6_knownTrader 12 = .ok (.getfield 23, 3) := by decide +kernel
theorem dX6_knownTrader_15 : decode cX6_knownTrader 15 = .ok (.iload_n 1, 1) := by decide +kernel
theorem dX6_knownTrader_16 : decode cX6_knownTrader 16 = .ok (.aaload, 1) := by decide +kernel
theorem dX6_knownTrader_17 : decode cX6_knownTrader 17 = .ok (.goto 4, 3) := by decide +kernel
theorem dX6_knownTrader_20 : decode cX6_knownTrader 20 = .ok (.aconst_null, 1) := by decide +kernel
theorem dX6_knownTrader_21 : decode cX6_knownTrader 21 = .ok (.astore_n 2, 1) := by decide +kernel
theorem dX6_knownTrader_22 : decode cX6_knownTrader 22 = .ok (.aload_n 2, 1) := by decide +kernel
theorem dX6_knownTrader_23 : decode cX6_knownTrader 23 = .ok (.ifnonnull 14, 3) := by decide +kernel
theorem dX6_knownTrader_26 : decode cX6_knownTrader 26 = .ok (.new 57, 3) := by decide +kernel
theorem dX6_knownTrader_29 : decode cX6_knownTrader 29 = .ok (.dup, 1) := by decide +kernel
theorem dX6_knownTrader_30 : decode cX6_knownTrader 30 = .ok (.ldc_w 337, 3) := by decide +kernel
theorem dX6_knownTrader_33 : decode cX6_knownTrader 33 = .ok (.invokespecial 61, 3) := by decide +kernel
theorem dX6_knownTrader_36 : decode cX6_knownTrader 36 = .ok (.athrow, 1) := by decide +kernel
theorem dX6_knownTrader_37 : decode cX6_knownTrader 37 = .ok (.aload_n 2, 1) := by decide +kernel
theorem dX6_knownTrader_38 : decode cX6_knownTrader 38 = .ok (.areturn, 1) := by decide +kernel
theorem dX6_oneIf_0 : decode cX6_oneIf 0 = .ok (.iload_n 0, 1) := by decide +kernel
theorem dX6_oneIf_1 : decode cX6_oneIf 1 = .ok (.ifCond .eq 7, 3) := by decide +kernel
theorem dX6_oneIf_4 : decode cX6_oneIf 4 = .ok (.iconst 1, 1) := by decide +kernel
theorem dX6_oneIf_5 : decode cX6_oneIf 5 = .ok (.goto 4, 3) := by decide +kernel
theorem dX6_oneIf_8 : decode cX6_oneIf 8 = .ok (.iconst 0, 1) := by decide +kernel
theorem dX6_oneIf_9 : decode cX6_oneIf 9 = .ok (.ireturn, 1) := by decide +kernel
set_option maxRecDepth 20000 in
theorem ggX6_against_X6_rowOrNull : GoodIn wsX6_against wsX6_rowOrNull := goodIn_r _ [7, 8, 100, 101, 102, 103, 104, 105, 106, 107, 108, 109, 110, 111, 112, 113, 114, 115, 116, 117] (by decide +kernel) (by decide +kernel)
set_option maxRecDepth 20000 in
theorem gX6_against_X6_rowOrNull : GoodIn wsX6_against (wsV RX6 299 RX6 yX6_rowOrNull wsX6_rowOrNull) := goodIn_app (goodIn_of _ (by decide +kernel)) ggX6_against_X6_rowOrNull
set_option maxRecDepth 20000 in
theorem ggX6_against_X0_hasAll : GoodIn wsX6_against wsX0_hasAll := goodIn_r _ [13, 14, 118, 119, 120] (by decide +kernel) (by decide +kernel)
set_option maxRecDepth 20000 in
theorem gX6_against_X0_hasAll : GoodIn wsX6_against (wsV RX6 339 RX0 yX0_hasAll wsX0_hasAll) := goodIn_app (goodIn_of _ (by decide +kernel)) ggX6_against_X0_hasAll
set_option maxRecDepth 20000 in
theorem ggX6_against_X0_isMarked : GoodIn wsX6_against wsX0_isMarked := goodIn_r _ [18, 19, 20, 21, 22, 12, 23, 14, 118, 119, 120] (by decide +kernel) (by decide +kernel)
set_option maxRecDepth 20000 in
theorem gX6_against_X0_isMarked : GoodIn wsX6_against (wsV RX6 343 RX0 yX0_isMarked wsX0_isMarked) := goodIn_app (goodIn_of _ (by decide +kernel)) ggX6_against_X0_isMarked
set_option maxRecDepth 20000 in
theorem ggX6_against_X0_isTakenByOther : GoodIn wsX6_against wsX0_isTakenByOther := goodIn_r _ [27, 28, 29, 30, 31, 12, 32, 33, 20, 21, 22, 23, 14, 86, 87, 88, 89, 90, 91, 92, 93, 94, 95, 96, 97, 98, 99, 118, 119, 120] (by decide +kernel) (by decide +kernel)
set_option maxRecDepth 20000 in
theorem gX6_against_X0_isTakenByOther : GoodIn wsX6_against (wsV RX6 347 RX0 yX0_isTakenByOther wsX0_isTakenByOther) := goodIn_app (goodIn_of _ (by decide +kernel)) ggX6_against_X0_isTakenByOther
set_option maxRecDepth 20000 in
theorem ggX6_against_X6_isTradeAtLimit : GoodIn wsX6_against wsX6_isTradeAtLimit := goodIn_r _ [36, 37, 38, 39, 40, 41, 42, 43, 44, 6, 45, 86, 87, 88, 89, 90, 91, 92, 93, 94, 95, 96, 97, 98, 99, 121, 122, 123, 124, 125, 126, 127, 128, 129, 130, 131, 132, 133, 134, 135, 136, 137] (by decide +kernel) (by decide +kernel)
set_option maxRecDepth 20000 in
theorem gX6_against_X6_isTradeAtLimit : GoodIn wsX6_against (va_wsS RX6 351 yX6_isTradeAtLimit wsX6_isTradeAtLimit) := goodIn_app (goodIn_of _ (by decide +kernel)) ggX6_against_X6_isTradeAtLimit
set_option maxRecDepth 20000 in
theorem ggX6_against_X6_isPairedBeside : GoodIn wsX6_against wsX6_isPairedBeside := goodIn_r _ [48, 1, 49, 30, 31, 12, 32, 33, 20, 21, 22, 23, 14, 50, 51, 6, 52, 37, 53, 54, 55, 56, 57, 58, 59, 86, 87, 88, 89, 90, 91, 92, 93, 94, 95, 96, 97, 98, 99, 118, 119, 120, 121, 122, 123, 124, 125, 126] (by decide +kernel) (by decide +kernel)
set_option maxRecDepth 20000 in
theorem gX6_against_X6_isPairedBeside : GoodIn wsX6_against (va_wsS RX6 355 yX6_isPairedBeside wsX6_isPairedBeside) := goodIn_app (goodIn_of _ (by decide +kernel)) ggX6_against_X6_isPairedBeside
set_option maxRecDepth 20000 in
theorem ggX6_against_X6_isPairedAcross : GoodIn wsX6_against wsX6_isPairedAcross := goodIn_r _ [62, 1, 49, 30, 31, 12, 32, 33, 20, 21, 22, 23, 14, 50, 51, 6, 52, 37, 53, 54, 55, 56, 57, 58, 59, 86, 87, 88, 89, 90, 91, 92, 93, 94, 95, 96, 97, 98, 99, 118, 119, 120, 121, 122, 123, 124, 125, 126] (by decide +kernel) (by decide +kernel)
set_option maxRecDepth 20000 in
theorem gX6_against_X6_isPairedAcross : GoodIn wsX6_against (va_wsS RX6 359 yX6_isPairedAcross wsX6_isPairedAcross) := goodIn_app (goodIn_of _ (by decide +kernel)) ggX6_against_X6_isPairedAcross
set_option maxRecDepth 20000 in
theorem ggX6_against_X6_isCookNearCloth : GoodIn wsX6_against wsX6_isCookNearCloth := goodIn_r _ [65, 2, 37, 66, 1, 49, 30, 31, 12, 32, 33, 20, 21, 22, 23, 14, 67, 68, 6, 69, 86, 87, 88, 89, 90, 91, 92, 93, 94, 95, 96, 97, 98, 99, 121, 122, 123, 124, 125, 126, 118, 119, 120] (by decide +kernel) (by decide +kernel)
set_option maxRecDepth 20000 in
theorem gX6_against_X6_isCookNearCloth : GoodIn wsX6_against (va_wsS RX6 362 yX6_isCookNearCloth wsX6_isCookNearCloth) := goodIn_app (goodIn_of _ (by decide +kernel)) ggX6_against_X6_isCookNearCloth
set_option maxRecDepth 20000 in
theorem ggX6_against_X6_isOutOfMonth : GoodIn wsX6_against wsX6_isOutOfMonth := goodIn_r _ [73, 2, 74, 75, 76, 77, 78, 79, 80, 86, 87, 88, 89, 90, 91, 92, 93, 94, 95, 96, 97, 98, 99, 100, 101, 102, 103, 104, 105, 106, 107, 108, 109, 110, 111, 112, 113, 114, 115, 116, 117] (by decide +kernel) (by decide +kernel)
set_option maxRecDepth 20000 in
theorem gX6_against_X6_isOutOfMonth : GoodIn wsX6_against (wsV RX6 365 RX6 yX6_isOutOfMonth wsX6_isOutOfMonth) := goodIn_app (goodIn_of _ (by decide +kernel)) ggX6_against_X6_isOutOfMonth
set_option maxRecDepth 20000 in
theorem ggX6_against_X6_isSecondCharity : GoodIn wsX6_against wsX6_isSecondCharity := goodIn_r _ [84, 2, 85, 39, 40, 41, 43, 44, 6, 45, 86, 87, 88, 89, 90, 91, 92, 93, 94, 95, 96, 97, 98, 99, 100, 101, 102, 103, 104, 105, 106, 107, 108, 109, 110, 111, 112, 113, 114, 115, 116, 117, 127, 128, 129, 130, 131, 132, 133, 134, 135, 136, 137] (by decide +kernel) (by decide +kernel)
set_option maxRecDepth 20000 in
theorem gX6_against_X6_isSecondCharity : GoodIn wsX6_against (wsV RX6 368 RX6 yX6_isSecondCharity wsX6_isSecondCharity) := goodIn_app (goodIn_of _ (by decide +kernel)) ggX6_against_X6_isSecondCharity
theorem dX6_against_0 : decode cX6_against 0 = .ok (.aload_n 0, 1) := by decide +kernel
theorem dX6_against_1 : decode cX6_against 1 = .ok (.iload_n 2, 1) := by decide +kernel
theorem dX6_against_2 : decode cX6_against 2 = .ok (.invokevirtual 299, 3) := by decide +kernel
theorem dX6_against_5 : decode cX6_against 5 = .ok (.astore 4, 2) := by decide +kernel
theorem dX6_against_7 : decode cX6_against 7 = .ok (.aload 4, 2) := by decide +kernel
theorem dX6_against_9 : decode cX6_against 9 = .ok (.ifnull 16, 3) := by decide +kernel
theorem dX6_against_12 : decode cX6_against 12 = .ok (.aload 4, 2) := by decide +kernel
theorem dX6_against_14 : decode cX6_against 14 = .ok (.iload_n 3, 1) := by decide +kernel
theorem dX6_against_15 : decode cX6_against 15 = .ok (.aload_n 1, 1) := by decide +kernel
theorem dX6_against_16 : decode cX6_against 16 = .ok (.getfield 260, 3) := by decide +kernel
theorem dX6_against_19 : decode cX6_against 19 = .ok (.invokevirtual 339, 3) := by decide +kernel
theorem dX6_against_22 : decode cX6_against 22 = .ok (.ifCond .ne 5, 3) := by decide +kernel
theorem dX6_against_25 : decode cX6_against 25 = .ok (.iconst 1, 1) := by decide +kernel
theorem dX6_against_26 : decode cX6_against 26 = .ok (.ireturn, 1) := by decide +kernel
theorem dX6_against_27 : decode cX6_against 27 = .ok (.aload 4, 2) := by decide +kernel
theorem dX6_against_29 : decode cX6_against 29 = .ok (.iload_n 3, 1) := by decide +kernel
theorem dX6_against_30 : decode cX6_against 30 = .ok (.aload_n 1, 1) := by decide +kernel
theorem dX6_against_31 : decode cX6_against 31 = .ok (.getfield 260, 3) := by decide +kernel
theorem dX6_against_34 : decode cX6_against 34 = .ok (.iconst 3, 1) := by decide +kernel
theorem dX6_against_35 : decode cX6_against 35 = .ok (.invokevirtual 343, 3) := by decide +kernel
theorem dX6_against_38 : decode cX6_against 38 = .ok (.ifCond .eq 5, 3) := by decide +kernel
theorem dX6_against_41 : decode cX6_against 41 = .ok (.iconst 2, 1) := by decide +kernel
theorem dX6_against_42 : decode cX6_against 42 = .ok (.ireturn, 1) := by decide +kernel
theorem dX6_against_43 : decode cX6_against 43 = .ok (.aload 4, 2) := by decide +kernel
theorem dX6_against_45 : decode cX6_against 45 = .ok (.aload_n 1, 1) := by decide +kernel
theorem dX6_against_46 : decode cX6_against 46 = .ok (.iload_n 3, 1) := by decide +kernel
theorem dX6_against_47 : decode cX6_against 47 = .ok (.invokevirtual 347, 3) := by decide +kernel
theorem dX6_against_50 : decode cX6_against 50 = .ok (.ifCond .eq 5, 3) := by decide +kernel
theorem dX6_against_53 : decode cX6_against 53 = .ok (.iconst 3, 1) := by decide +kernel
theorem dX6_against_54 : decode cX6_against 54 = .ok (.ireturn, 1) := by decide +kernel
theorem dX6_against_55 : decode cX6_against 55 = .ok (.aload_n 1, 1) := by decide +kernel
theorem dX6_against_56 : decode cX6_against 56 = .ok (.invokestatic 351, 3) := by decide +kernel
theorem dX6_against_59 : decode cX6_against 59 = .ok (.ifCond .eq 5, 3) := by decide +kernel
theorem dX6_against_62 : decode cX6_against 62 = .ok (.iconst 4, 1) := by decide +kernel
theorem dX6_against_63 : decode cX6_against 63 = .ok (.ireturn, 1) := by decide +kernel
theorem dX6_against_64 : decode cX6_against 64 = .ok (.aload 4, 2) := by decide +kernel
theorem dX6_against_66 : decode cX6_against 66 = .ok (.aload_n 1, 1) := by decide +kernel
theorem dX6_against_67 : decode cX6_against 67 = .ok (.iload_n 3, 1) := by decide +kernel
theorem dX6_against_68 : decode cX6_against 68 = .ok (.invokestatic 355, 3) := by decide +kernel
theorem dX6_against_71 : decode cX6_against 71 = .ok (.ifCond .eq 5, 3) := by decide +kernel
theorem dX6_against_74 : decode cX6_against 74 = .ok (.iconst 5, 1) := by decide +kernel
theorem dX6_against_75 : decode cX6_against 75 = .ok (.ireturn, 1) := by decide +kernel
theorem dX6_against_76 : decode cX6_against 76 = .ok (.aload_n 0, 1) := by decide +kernel
theorem dX6_against_77 : decode cX6_against 77 = .ok (.iload_n 2, 1) := by decide +kernel
theorem dX6_against_78 : decode cX6_against 78 = .ok (.iconst 1, 1) := by decide +kernel
theorem dX6_against_79 : decode cX6_against 79 = .ok (.ixor, 1) := by decide +kernel
theorem dX6_against_80 : decode cX6_against 80 = .ok (.invokevirtual 299, 3) := by decide +kernel
theorem dX6_against_83 : decode cX6_against 83 = .ok (.aload_n 1, 1) := by decide +kernel
theorem dX6_against_84 : decode cX6_against 84 = .ok (.iload_n 3, 1) := by decide +kernel
theorem dX6_against_85 : decode cX6_against 85 = .ok (.invokestatic 359, 3) := by decide +kernel
theorem dX6_against_88 : decode cX6_against 88 = .ok (.ifCond .eq 6, 3) := by decide +kernel
theorem dX6_against_91 : decode cX6_against 91 = .ok (.bipush 6, 2) := by decide +kernel
theorem dX6_against_93 : decode cX6_against 93 = .ok (.ireturn, 1) := by decide +kernel
theorem dX6_against_94 : decode cX6_against 94 = .ok (.aload_n 1, 1) := by decide +kernel
theorem dX6_against_95 : decode cX6_against 95 = .ok (.getfield 115, 3) := by decide +kernel
theorem dX6_against_98 : decode cX6_against 98 = .ok (.iconst 3, 1) := by decide +kernel
theorem dX6_against_99 : decode cX6_against 99 = .ok (.if_icmp .ne 20, 3) := by decide +kernel
theorem dX6_against_102 : decode cX6_against 102 = .ok (.aload 4, 2) := by decide +kernel
theorem dX6_against_104 : decode cX6_against 104 = .ok (.iload_n 3, 1) := by decide +kernel
theorem dX6_against_105 : decode cX6_against 105 = .ok (.aload_n 1, 1) := by decide +kernel
theorem dX6_against_106 : decode cX6_against 106 = .ok (.getfield 260, 3) := by decide +kernel
theorem dX6_against_109 : decode cX6_against 109 = .ok (.iconst 4, 1) := by decide +kernel
theorem dX6_against_110 : decode cX6_against 110 = .ok (.invokevirtual 343, 3) := by decide +kernel
theorem dX6_against_113 : decode cX6_against 113 = .ok (.ifCond .ne 6, 3) := by decide +kernel
theorem dX6_against_116 : decode cX6_against 116 = .ok (.bipush 7, 2) := by decide +kernel
theorem dX6_against_118 : decode cX6_against 118 = .ok (.ireturn, 1) := by decide +kernel
theorem dX6_against_119 : decode cX6_against 119 = .ok (.aload 4, 2) := by decide +kernel
theorem dX6_against_121 : decode cX6_against 121 = .ok (.aload_n 1, 1) := by decide +kernel
theorem dX6_against_122 : decode cX6_against 122 = .ok (.iload_n 3, 1) := by decide +kernel
theorem dX6_against_123 : decode cX6_against 123 = .ok (.invokestatic 362, 3) := by decide +kernel
theorem dX6_against_126 : decode cX6_against 126 = .ok (.ifCond .eq 6, 3) := by decide +kernel
theorem dX6_against_129 : decode cX6_against 129 = .ok (.bipush 8, 2) := by decide +kernel
theorem dX6_against_131 : decode cX6_against 131 = .ok (.ireturn, 1) := by decide +kernel
theorem dX6_against_132 : decode cX6_against 132 = .ok (.aload_n 0, 1) := by decide +kernel
theorem dX6_against_133 : decode cX6_against 133 = .ok (.aload_n 1, 1) := by decide +kernel
theorem dX6_against_134 : decode cX6_against 134 = .ok (.invokevirtual 365, 3) := by decide +kernel
theorem dX6_against_137 : decode cX6_against 137 = .ok (.ifCond .eq 6, 3) := by decide +kernel
theorem dX6_against_140 : decode cX6_against 140 = .ok (.bipush 9, 2) := by decide +kernel
theorem dX6_against_142 : decode cX6_against 142 = .ok (.ireturn, 1) := by decide +kernel
theorem dX6_against_143 : decode cX6_against 143 = .ok (.aload_n 0, 1) := by decide +kernel
theorem dX6_against_144 : decode cX6_against 144 = .ok (.aload_n 1, 1) := by decide +kernel
theorem dX6_against_145 : decode cX6_against 145 = .ok (.invokevirtual 368, 3) := by decide +kernel
theorem dX6_against_148 : decode cX6_against 148 = .ok (.ifCond .eq 8, 3) := by decide +kernel
theorem dX6_against_151 : decode cX6_against 151 = .ok (.bipush 10, 2) := by decide +kernel
theorem dX6_against_153 : decode cX6_against 153 = .ok (.goto 4, 3) := by decide +kernel
theorem dX6_against_156 : decode cX6_against 156 = .ok (.iconst 0, 1) := by decide +kernel
theorem dX6_against_157 : decode cX6_against 157 = .ok (.ireturn, 1) := by decide +kernel
set_option maxRecDepth 20000 in
theorem ggX6_isTradeAtLimit_X6_oneIf : GoodIn wsX6_isTradeAtLimit wsX6_oneIf := goodIn_r _ [10] (by decide +kernel) (by decide +kernel)
set_option maxRecDepth 20000 in
theorem gX6_isTradeAtLimit_X6_oneIf : GoodIn wsX6_isTradeAtLimit (va_wsS RX6 269 yX6_oneIf wsX6_oneIf) := goodIn_app (goodIn_of _ (by decide +kernel)) ggX6_isTradeAtLimit_X6_oneIf
theorem dX6_isTradeAtLimit_0 : decode cX6_isTradeAtLimit 0 = .ok (.aload_n 0, 1) := by decide +kernel
theorem dX6_isTradeAtLimit_1 : decode cX6_isTradeAtLimit 1 = .ok (.getfield 255, 3) := by decide +kernel
theorem dX6_isTradeAtLimit_4 : decode cX6_isTradeAtLimit 4 = .ok (.getfield 371, 3) := by decide +kernel
theorem dX6_isTradeAtLimit_7 : decode cX6_isTradeAtLimit 7 = .ok (.aload_n 0, 1) := by decide +kernel
theorem dX6_isTradeAtLimit_8 : decode cX6_isTradeAtLimit 8 = .ok (.getfield 168, 3) := by decide +kernel
theorem dX6_isTradeAtLimit_11 : decode cX6_isTradeAtLimit 11 = .ok (.getfield 224, 3) := by decide +kernel
theorem dX6_isTradeAtLimit_14 : decode cX6_isTradeAtLimit 14 = .ok (.getfield 227, 3) := by decide +kernel
theorem dX6_isTradeAtLimit_17 : decode cX6_isTradeAtLimit 17 = .ok (.invokestatic 269, 3) := by decide +kernel
theorem dX6_isTradeAtLimit_20 : decode cX6_isTradeAtLimit 20 = .ok (.isub, 1) := by decide +kernel
theorem dX6_isTradeAtLimit_21 : decode cX6_isTradeAtLimit 21 = .ok (.aload_n 0, 1) := by decide +kernel
theorem dX6_isTradeAtLimit_22 : decode cX6_isTradeAtLimit 22 = .ok (.getfield 255, 3) := by decide +kernel
theorem dX6_isTradeAtLimit_25 : decode cX6_isTradeAtLimit 25 = .ok (.getfield 372, 3) := by decide +kernel
theorem dX6_isTradeAtLimit_28 : decode cX6_isTradeAtLimit 28 = .ok (.if_icmp .lt 7, 3) := by decide +kernel
theorem dX6_isTradeAtLimit_31 : decode cX6_isTradeAtLimit 31 = .ok (.iconst 1, 1) := by decide +kernel
theorem dX6_isTradeAtLimit_32 : decode cX6_isTradeAtLimit 32 = .ok (.goto 4, 3) := by decide +kernel
theorem dX6_isTradeAtLimit_35 : decode cX6_isTradeAtLimit 35 = .ok (.iconst 0, 1) := by decide +kernel
theorem dX6_isTradeAtLimit_36 : decode cX6_isTradeAtLimit 36 = .ok (.ireturn, 1) := by decide +kernel
set_option maxRecDepth 20000 in
theorem ggX6_isPairedBeside_X0_holderAt : GoodIn wsX6_isPairedBeside wsX0_holderAt := goodIn_r _ [6, 7, 8, 9, 10, 5, 11, 12, 39, 40, 41] (by decide +kernel) (by decide +kernel)
set_option maxRecDepth 20000 in
theorem gX6_isPairedBeside_X0_holderAt : GoodIn wsX6_isPairedBeside (wsV RX6 302 RX0 yX0_holderAt wsX0_holderAt) := goodIn_app (goodIn_of _ (by decide +kernel)) ggX6_isPairedBeside_X0_holderAt
set_option maxRecDepth 20000 in
theorem ggX6_isPairedBeside_X6_isPairedStall : GoodIn wsX6_isPairedBeside wsX6_isPairedStall := goodIn_r _ [16, 17, 18, 19, 20, 21, 22, 23, 24, 25, 26, 27, 28, 29, 30, 31, 32, 33, 34, 35, 36, 37, 38, 42, 43, 44, 45, 46, 47] (by decide +kernel) (by decide +kernel)
set_option maxRecDepth 20000 in
theorem gX6_isPairedBeside_X6_isPairedStall : GoodIn wsX6_isPairedBeside (va_wsS RX6 375 yX6_isPairedStall wsX6_isPairedStall) := goodIn_app (goodIn_of _ (by decide +kernel)) ggX6_isPairedBeside_X6_isPairedStall
theorem dX6_isPairedBeside_0 : decode cX6_isPairedBeside 0 = .ok (.aload_n 1, 1) := by decide +kernel
theorem dX6_isPairedBeside_1 : decode cX6_isPairedBeside 1 = .ok (.aload_n 0, 1) := by decide +kernel
theorem dX6_isPairedBeside_2 : decode cX6_isPairedBeside 2 = .ok (.iload_n 2, 1) := by decide +kernel
theorem dX6_isPairedBeside_3 : decode cX6_isPairedBeside 3 = .ok (.iconst 1, 1) := by decide +kernel
theorem dX6_isPairedBeside_4 : decode cX6_isPairedBeside 4 = .ok (.isub, 1) := by decide +kernel
theorem dX6_isPairedBeside_5 : decode cX6_isPairedBeside 5 = .ok (.invokevirtual 302, 3) := by decide +kernel
theorem dX6_isPairedBeside_8 : decode cX6_isPairedBeside 8 = .ok (.invokestatic 375, 3) := by decide +kernel
theorem dX6_isPairedBeside_11 : decode cX6_isPairedBeside 11 = .ok (.ifCond .ne 20, 3) := by decide +kernel
theorem dX6_isPairedBeside_14 : decode cX6_isPairedBeside 14 = .ok (.aload_n 1, 1) := by decide +kernel
theorem dX6_isPairedBeside_15 : decode cX6_isPairedBeside 15 = .ok (.aload_n 0, 1) := by decide +kernel
theorem dX6_isPairedBeside_16 : decode cX6_isPairedBeside 16 = .ok (.iload_n 2, 1) := by decide +kernel
theorem dX6_isPairedBeside_17 : decode cX6_isPairedBeside 17 = .ok (.aload_n 1, 1) := by decide +kernel
theorem dX6_isPairedBeside_18 : decode cX6_isPairedBeside 18 = .ok (.getfield 260, 3) := by decide +kernel
theorem dX6_isPairedBeside_21 : decode cX6_isPairedBeside 21 = .ok (.iadd, 1) := by decide +kernel
theorem dX6_isPairedBeside_22 : decode cX6_isPairedBeside 22 = .ok (.invokevirtual 302, 3) := by decide +kernel
theorem dX6_isPairedBeside_25 : decode cX6_isPairedBeside 25 = .ok (.invokestatic 375, 3) := by decide +kernel
theorem dX6_isPairedBeside_28 : decode cX6_isPairedBeside 28 = .ok (.ifCond .eq 7, 3) := by decide +kernel
theorem dX6_isPairedBeside_31 : decode cX6_isPairedBeside 31 = .ok (.iconst 1, 1) := by decide +kernel
theorem dX6_isPairedBeside_32 : decode cX6_isPairedBeside 32 = .ok (.goto 4, 3) := by decide +kernel
theorem dX6_isPairedBeside_35 : decode cX6_isPairedBeside 35 = .ok (.iconst 0, 1) := by decide +kernel
theorem dX6_isPairedBeside_36 : decode cX6_isPairedBeside 36 = .ok (.ireturn, 1) := by decide +kernel
set_option maxRecDepth 20000 in
theorem ggX6_isPairedAcross_X0_holderAt : GoodIn wsX6_isPairedAcross wsX0_holderAt := goodIn_r _ [6, 7, 8, 9, 10, 5, 11, 12, 39, 40, 41] (by decide +kernel) (by decide +kernel)
set_option maxRecDepth 20000 in
theorem gX6_isPairedAcross_X0_holderAt : GoodIn wsX6_isPairedAcross (wsV RX6 302 RX0 yX0_holderAt wsX0_holderAt) := goodIn_app (goodIn_of _ (by decide +kernel)) ggX6_isPairedAcross_X0_holderAt
set_option maxRecDepth 20000 in
theorem ggX6_isPairedAcross_X6_isPairedStall : GoodIn wsX6_isPairedAcross wsX6_isPairedStall := goodIn_r _ [16, 17, 18, 19, 20, 21, 22, 23, 24, 25, 26, 27, 28, 29, 30, 31, 32, 33, 34, 35, 36, 37, 38, 42, 43, 44, 45, 46, 47] (by decide +kernel) (by decide +kernel)
set_option maxRecDepth 20000 in
theorem gX6_isPairedAcross_X6_isPairedStall : GoodIn wsX6_isPairedAcross (va_wsS RX6 375 yX6_isPairedStall wsX6_isPairedStall) := goodIn_app (goodIn_of _ (by decide +kernel)) ggX6_isPairedAcross_X6_isPairedStall
theorem dX6_isPairedAcross_0 : decode cX6_isPairedAcross 0 = .ok (.aload_n 0, 1) := by decide +kernel
theorem dX6_isPairedAcross_1 : decode cX6_isPairedAcross 1 = .ok (.ifnonnull 5, 3) := by decide +kernel
theorem dX6_isPairedAcross_4 : decode cX6_isPairedAcross 4 = .ok (.iconst 0, 1) := by decide +kernel
theorem dX6_isPairedAcross_5 : decode cX6_isPairedAcross 5 = .ok (.ireturn, 1) := by decide +kernel
theorem dX6_isPairedAcross_6 : decode cX6_isPairedAcross 6 = .ok (.iconst 0, 1) := by decide +kernel
theorem dX6_isPairedAcross_7 : decode cX6_isPairedAcross 7 = .ok (.istore_n 3, 1) := by decide +kernel
theorem dX6_isPairedAcross_8 : decode cX6_isPairedAcross 8 = .ok (.iload_n 3, 1) := by decide +kernel
theorem dX6_isPairedAcross_9 : decode cX6_isPairedAcross 9 = .ok (.aload_n 1, 1) := by decide +kernel
theorem dX6_isPairedAcross_10 : decode cX6_isPairedAcross 10 = .ok (.getfield 260, 3) := by decide +kernel
theorem dX6_isPairedAcross_13 : decode cX6_isPairedAcross 13 = .ok (.if_icmp .ge 25, 3) := by decide +kernel
theorem dX6_isPairedAcross_16 : decode cX6_isPairedAcross 16 = .ok (.aload_n 1, 1) := by decide +kernel
theorem dX6_isPairedAcross_17 : decode cX6_isPairedAcross 17 = .ok (.aload_n 0, 1) := by decide +kernel
theorem dX6_isPairedAcross_18 : decode cX6_isPairedAcross 18 = .ok (.iload_n 2, 1) := by decide +kernel
theorem dX6_isPairedAcross_19 : decode cX6_isPairedAcross 19 = .ok (.iload_n 3, 1) := by decide +kernel
theorem dX6_isPairedAcross_20 : decode cX6_isPairedAcross 20 = .ok (.iadd, 1) := by decide +kernel
theorem dX6_isPairedAcross_21 : decode cX6_isPairedAcross 21 = .ok (.invokevirtual 302, 3) := by decide +kernel
theorem dX6_isPairedAcross_24 : decode cX6_isPairedAcross 24 = .ok (.invokestatic 375, 3) := by decide +kernel
theorem dX6_isPairedAcross_27 : decode cX6_isPairedAcross 27 = .ok (.ifCond .eq 5, 3) := by decide +kernel
theorem dX6_isPairedAcross_30 : decode cX6_isPairedAcross 30 = .ok (.iconst 1, 1) := by decide +kernel
theorem dX6_isPairedAcross_31 : decode cX6_isPairedAcross 31 = .ok (.ireturn, 1) := by decide +kernel
theorem dX6_isPairedAcross_32 : decode cX6_isPairedAcross 32 = .ok (.iinc 3 1, 3) := by decide +kernel
theorem dX6_isPairedAcross_35 : decode cX6_isPairedAcross 35 = .ok (.goto (-27), 3) := by decide +kernel
theorem dX6_isPairedAcross_38 : decode cX6_isPairedAcross 38 = .ok (.iconst 0, 1) := by decide +kernel
theorem dX6_isPairedAcross_39 : decode cX6_isPairedAcross 39 = .ok (.ireturn, 1) := by decide +kernel
set_option maxRecDepth 20000 in
theorem ggX6_isPairedStall_X3_isPairedWith : GoodIn wsX6_isPairedStall wsX3_isPairedWith := goodIn_r _ [6, 7, 8, 23, 24, 25, 26, 27, 28] (by decide +kernel) (by decide +kernel)
set_option maxRecDepth 20000 in
theorem gX6_isPairedStall_X3_isPairedWith : GoodIn wsX6_isPairedStall (wsV RX6 88 RX3 yX3_isPairedWith wsX3_isPairedWith) := goodIn_app (goodIn_of _ (by decide +kernel)) ggX6_isPairedStall_X3_isPairedWith
theorem dX6_isPairedStall_0 : decode cX6_isPairedStall 0 = .ok (.aload_n 1, 1) := by decide +kernel
theorem dX6_isPairedStall_1 : decode cX6_isPairedStall 1 = .ok (.ifnull 26, 3) := by decide +kernel
theorem dX6_isPairedStall_4 : decode cX6_isPairedStall 4 = .ok (.aload_n 1, 1) := by decide +kernel
theorem dX6_isPairedStall_5 : decode cX6_isPairedStall 5 = .ok (.aload_n 0, 1) := by decide +kernel
theorem dX6_isPairedStall_6 : decode cX6_isPairedStall 6 = .ok (.if_acmp .eq 21, 3) := by decide +kernel
theorem dX6_isPairedStall_9 : decode cX6_isPairedStall 9 = .ok (.aload_n 0, 1) := by decide +kernel
theorem dX6_isPairedStall_10 : decode cX6_isPairedStall 10 = .ok (.getfield 255, 3) := by decide +kernel
theorem dX6_isPairedStall_13 : decode cX6_isPairedStall 13 = .ok (.aload_n 1, 1) := by decide +kernel
theorem dX6_isPairedStall_14 : decode cX6_isPairedStall 14 = .ok (.getfield 255, 3) := by decide +kernel
theorem dX6_isPairedStall_17 : decode cX6_isPairedStall 17 = .ok (.invokevirtual 88, 3) := by decide +kernel
theorem dX6_isPairedStall_20 : decode cX6_isPairedStall 20 = .ok (.ifCond .eq 7, 3) := by decide +kernel
theorem dX6_isPairedStall_23 : decode cX6_isPairedStall 23 = .ok (.iconst 1, 1) := by decide +kernel
theorem dX6_isPairedStall_24 : decode cX6_isPairedStall 24 = .ok (.goto 4, 3) := by decide +kernel
theorem dX6_isPairedStall_27 : decode cX6_isPairedStall 27 = .ok (.iconst 0, 1) := by decide +kernel
theorem dX6_isPairedStall_28 : decode cX6_isPairedStall 28 = .ok (.ireturn, 1) := by decide +kernel
set_option maxRecDepth 20000 in
theorem ggX6_isCookNearCloth_X0_holderAt : GoodIn wsX6_isCookNearCloth wsX0_holderAt := goodIn_r _ [9, 10, 11, 12, 13, 8, 14, 15, 40, 41, 42] (by decide +kernel) (by decide +kernel)
set_option maxRecDepth 20000 in
theorem gX6_isCookNearCloth_X0_holderAt : GoodIn wsX6_isCookNearCloth (wsV RX6 302 RX0 yX0_holderAt wsX0_holderAt) := goodIn_app (goodIn_of _ (by decide +kernel)) ggX6_isCookNearCloth_X0_holderAt
set_option maxRecDepth 20000 in
theorem ggX6_isCookNearCloth_X6_doesSpoil : GoodIn wsX6_isCookNearCloth wsX6_doesSpoil := goodIn_r _ [19, 1, 2, 3, 20, 21, 22, 23, 24, 25, 26, 27, 28, 29, 30, 31, 32, 33, 34, 35, 36, 37, 38, 39] (by decide +kernel) (by decide +kernel)
set_option maxRecDepth 20000 in
theorem gX6_isCookNearCloth_X6_doesSpoil : GoodIn wsX6_isCookNearCloth (va_wsS RX6 381 yX6_doesSpoil wsX6_doesSpoil) := goodIn_app (goodIn_of _ (by decide +kernel)) ggX6_isCookNearCloth_X6_doesSpoil
theorem dX6_isCookNearCloth_0 : decode cX6_isCookNearCloth 0 = .ok (.aload_n 1, 1) := by decide +kernel
theorem dX6_isCookNearCloth_1 : decode cX6_isCookNearCloth 1 = .ok (.getfield 115, 3) := by decide +kernel
theorem dX6_isCookNearCloth_4 : decode cX6_isCookNearCloth 4 = .ok (.iconst 3, 1) := by decide +kernel
theorem dX6_isCookNearCloth_5 : decode cX6_isCookNearCloth 5 = .ok (.if_icmp .eq 15, 3) := by decide +kernel
theorem dX6_isCookNearCloth_8 : decode cX6_isCookNearCloth 8 = .ok (.aload_n 1, 1) := by decide +kernel
theorem dX6_isCookNearCloth_9 : decode cX6_isCookNearCloth 9 = .ok (.getfield 255, 3) := by decide +kernel
theorem dX6_isCookNearCloth_12 : decode cX6_isCookNearCloth 12 = .ok (.getfield 378, 3) := by decide +kernel
theorem dX6_isCookNearCloth_15 : decode cX6_isCookNearCloth 15 = .ok (.ifCond .ne 5, 3) := by decide +kernel
theorem dX6_isCookNearCloth_18 : decode cX6_isCookNearCloth 18 = .ok (.iconst 0, 1) := by decide +kernel
theorem dX6_isCookNearCloth_19 : decode cX6_isCookNearCloth 19 = .ok (.ireturn, 1) := by decide +kernel
theorem dX6_isCookNearCloth_20 : decode cX6_isCookNearCloth 20 = .ok (.bipush (-6), 2) := by decide +kernel
theorem dX6_isCookNearCloth_22 : decode cX6_isCookNearCloth 22 = .ok (.istore_n 3, 1) := by decide +kernel
theorem dX6_isCookNearCloth_23 : decode cX6_isCookNearCloth 23 = .ok (.iload_n 3, 1) := by decide +kernel
theorem dX6_isCookNearCloth_24 : decode cX6_isCookNearCloth 24 = .ok (.aload_n 1, 1) := by decide +kernel
theorem dX6_isCookNearCloth_25 : decode cX6_isCookNearCloth 25 = .ok (.getfield 260, 3) := by decide +kernel
theorem dX6_isCookNearCloth_28 : decode cX6_isCookNearCloth 28 = .ok (.bipush 6, 2) := by decide +kernel
theorem dX6_isCookNearCloth_30 : decode cX6_isCookNearCloth 30 = .ok (.iadd, 1) := by decide +kernel
theorem dX6_isCookNearCloth_31 : decode cX6_isCookNearCloth 31 = .ok (.if_icmp .ge 40, 3) := by decide +kernel
theorem dX6_isCookNearCloth_34 : decode cX6_isCookNearCloth 34 = .ok (.aload_n 0, 1) := by decide +kernel
theorem dX6_isCookNearCloth_35 : decode cX6_isCookNearCloth 35 = .ok (.iload_n 2, 1) := by decide +kernel
theorem dX6_isCookNearCloth_36 : decode cX6_isCookNearCloth 36 = .ok (.iload_n 3, 1) := by decide +kernel
theorem dX6_isCookNearCloth_37 : decode cX6_isCookNearCloth 37 = .ok (.iadd, 1) := by decide +kernel
theorem dX6_isCookNearCloth_38 : decode cX6_isCookNearCloth 38 = .ok (.invokevirtual 302, 3) := by decide +kernel
theorem dX6_isCookNearCloth_41 : decode cX6_isCookNearCloth 41 = .ok (.astore 4, 2) := by decide +kernel
theorem dX6_isCookNearCloth_43 : decode cX6_isCookNearCloth 43 = .ok (.aload 4, 2) := by decide +kernel
theorem dX6_isCookNearCloth_45 : decode cX6_isCookNearCloth 45 = .ok (.ifnull 20, 3) := by decide +kernel
theorem dX6_isCookNearCloth_48 : decode cX6_isCookNearCloth 48 = .ok (.aload 4, 2) := by decide +kernel
theorem dX6_isCookNearCloth_50 : decode cX6_isCookNearCloth 50 = .ok (.aload_n 1, 1) := by decide +kernel
theorem dX6_isCookNearCloth_51 : decode cX6_isCookNearCloth 51 = .ok (.if_acmp .eq 14, 3) := by decide +kernel
theorem dX6_isCookNearCloth_54 : decode cX6_isCookNearCloth 54 = .ok (.aload_n 1, 1) := by decide +kernel
theorem dX6_isCookNearCloth_55 : decode cX6_isCookNearCloth 55 = .ok (.aload 4, 2) := by decide +kernel
theorem dX6_isCookNearCloth_57 : decode cX6_isCookNearCloth 57 = .ok (.invokestatic 381, 3) := by decide +kernel
theorem dX6_isCookNearCloth_60 : decode cX6_isCookNearCloth 60 = .ok (.ifCond .eq 5, 3) := by decide +kernel
theorem dX6_isCookNearCloth_63 : decode cX6_isCookNearCloth 63 = .ok (.iconst 1, 1) := by decide +kernel
theorem dX6_isCookNearCloth_64 : decode cX6_isCookNearCloth 64 = .ok (.ireturn, 1) := by decide +kernel
theorem dX6_isCookNearCloth_65 : decode cX6_isCookNearCloth 65 = .ok (.iinc 3 1, 3) := by decide +kernel
theorem dX6_isCookNearCloth_68 : decode cX6_isCookNearCloth 68 = .ok (.goto (-45), 3) := by decide +kernel
theorem dX6_isCookNearCloth_71 : decode cX6_isCookNearCloth 71 = .ok (.iconst 0, 1) := by decide +kernel
theorem dX6_isCookNearCloth_72 : decode cX6_isCookNearCloth 72 = .ok (.ireturn, 1) := by decide +kernel
theorem dX6_doesSpoil_0 : decode cX6_doesSpoil 0 = .ok (.aload_n 0, 1) := by decide +kernel
theorem dX6_doesSpoil_1 : decode cX6_doesSpoil 1 = .ok (.getfield 115, 3) := by decide +kernel
theorem dX6_doesSpoil_4 : decode cX6_doesSpoil 4 = .ok (.iconst 3, 1) := by decide +kernel
theorem dX6_doesSpoil_5 : decode cX6_doesSpoil 5 = .ok (.if_icmp .ne 13, 3) := by decide +kernel
theorem dX6_doesSpoil_8 : decode cX6_doesSpoil 8 = .ok (.aload_n 1, 1) := by decide +kernel
theorem dX6_doesSpoil_9 : decode cX6_doesSpoil 9 = .ok (.getfield 255, 3) := by decide +kernel
theorem dX6_doesSpoil_12 : decode cX6_doesSpoil 12 = .ok (.getfield 378, 3) := by decide +kernel
theorem dX6_doesSpoil_15 : decode cX6_doesSpoil 15 = .ok (.goto 16, 3) := by decide +kernel
theorem dX6_doesSpoil_18 : decode cX6_doesSpoil 18 = .ok (.aload_n 1, 1) := by decide +kernel
theorem dX6_doesSpoil_19 : decode cX6_doesSpoil 19 = .ok (.getfield 115, 3) := by decide +kernel
theorem dX6_doesSpoil_22 : decode cX6_doesSpoil 22 = .ok (.iconst 3, 1) := by decide +kernel
theorem dX6_doesSpoil_23 : decode cX6_doesSpoil 23 = .ok (.if_icmp .ne 7, 3) := by decide +kernel
theorem dX6_doesSpoil_26 : decode cX6_doesSpoil 26 = .ok (.iconst 1, 1) := by decide +kernel
theorem dX6_doesSpoil_27 : decode cX6_doesSpoil 27 = .ok (.goto 4, 3) := by decide +kernel
theorem dX6_doesSpoil_30 : decode cX6_doesSpoil 30 = .ok (.iconst 0, 1) := by decide +kernel
theorem dX6_doesSpoil_31 : decode cX6_doesSpoil 31 = .ok (.ireturn, 1) := by decide +kernel
set_option maxRecDepth 20000 in
theorem ggX6_isOutOfMonth_X4_isOfMonth : GoodIn wsX6_isOutOfMonth wsX4_isOfMonth := goodIn_r _ [7, 8, 9, 10, 11, 12, 13, 14, 15, 16, 17, 18, 19, 20, 21, 22] (by decide +kernel) (by decide +kernel)
set_option maxRecDepth 20000 in
theorem gX6_isOutOfMonth_X4_isOfMonth : GoodIn wsX6_isOutOfMonth (wsV RX6 384 RX4 yX4_isOfMonth wsX4_isOfMonth) := goodIn_app (goodIn_of _ (by decide +kernel)) ggX6_isOutOfMonth_X4_isOfMonth
theorem dX6_isOutOfMonth_0 : decode cX6_isOutOfMonth 0 = .ok (.aload_n 1, 1) := by decide +kernel
theorem dX6_isOutOfMonth_1 : decode cX6_isOutOfMonth 1 = .ok (.getfield 115, 3) := by decide +kernel
theorem dX6_isOutOfMonth_4 : decode cX6_isOutOfMonth 4 = .ok (.iconst 2, 1) := by decide +kernel
theorem dX6_isOutOfMonth_5 : decode cX6_isOutOfMonth 5 = .ok (.if_icmp .ne 18, 3) := by decide +kernel
theorem dX6_isOutOfMonth_8 : decode cX6_isOutOfMonth 8 = .ok (.aload_n 1, 1) := by decide +kernel
theorem dX6_isOutOfMonth_9 : decode cX6_isOutOfMonth 9 = .ok (.aload_n 0, 1) := by decide +kernel
theorem dX6_isOutOfMonth_10 : decode cX6_isOutOfMonth 10 = .ok (.getfield 156, 3) := by decide +kernel
theorem dX6_isOutOfMonth_13 : decode cX6_isOutOfMonth 13 = .ok (.invokevirtual 384, 3) := by decide +kernel
theorem dX6_isOutOfMonth_16 : decode cX6_isOutOfMonth 16 = .ok (.ifCond .ne 7, 3) := by decide +kernel
theorem dX6_isOutOfMonth_19 : decode cX6_isOutOfMonth 19 = .ok (.iconst 1, 1) := by decide +kernel
theorem dX6_isOutOfMonth_20 : decode cX6_isOutOfMonth 20 = .ok (.goto 4, 3) := by decide +kernel
theorem dX6_isOutOfMonth_23 : decode cX6_isOutOfMonth 23 = .ok (.iconst 0, 1) := by decide +kernel
theorem dX6_isOutOfMonth_24 : decode cX6_isOutOfMonth 24 = .ok (.ireturn, 1) := by decide +kernel
set_option maxRecDepth 20000 in
theorem ggX6_isSecondCharity_X6_oneIf : GoodIn wsX6_isSecondCharity wsX6_oneIf := goodIn_r _ [9] (by decide +kernel) (by decide +kernel)
set_option maxRecDepth 20000 in
theorem gX6_isSecondCharity_X6_oneIf : GoodIn wsX6_isSecondCharity (va_wsS RX6 269 yX6_oneIf wsX6_oneIf) := goodIn_app (goodIn_of _ (by decide +kernel)) ggX6_isSecondCharity_X6_oneIf
theorem dX6_isSecondCharity_0 : decode cX6_isSecondCharity 0 = .ok (.aload_n 1, 1) := by decide +kernel
theorem dX6_isSecondCharity_1 : decode cX6_isSecondCharity 1 = .ok (.getfield 115, 3) := by decide +kernel
theorem dX6_isSecondCharity_4 : decode cX6_isSecondCharity 4 = .ok (.iconst 4, 1) := by decide +kernel
theorem dX6_isSecondCharity_5 : decode cX6_isSecondCharity 5 = .ok (.if_icmp .ne 28, 3) := by decide +kernel
theorem dX6_isSecondCharity_8 : decode cX6_isSecondCharity 8 = .ok (.aload_n 0, 1) := by decide +kernel
theorem dX6_isSecondCharity_9 : decode cX6_isSecondCharity 9 = .ok (.getfield 387, 3) := by decide +kernel
theorem dX6_isSecondCharity_12 : decode cX6_isSecondCharity 12 = .ok (.aload_n 1, 1) := by decide +kernel
theorem dX6_isSecondCharity_13 : decode cX6_isSecondCharity 13 = .ok (.getfield 168, 3) := by decide +kernel
theorem dX6_isSecondCharity_16 : decode cX6_isSecondCharity 16 = .ok (.getfield 224, 3) := by decide +kernel
theorem dX6_isSecondCharity_19 : decode cX6_isSecondCharity 19 = .ok (.getfield 227, 3) := by decide +kernel
theorem dX6_isSecondCharity_22 : decode cX6_isSecondCharity 22 = .ok (.invokestatic 269, 3) := by decide +kernel
theorem dX6_isSecondCharity_25 : decode cX6_isSecondCharity 25 = .ok (.isub, 1) := by decide +kernel
theorem dX6_isSecondCharity_26 : decode cX6_isSecondCharity 26 = .ok (.ifCond .le 7, 3) := by decide +kernel
theorem dX6_isSecondCharity_29 : decode cX6_isSecondCharity 29 = .ok (.iconst 1, 1) := by decide +kernel
theorem dX6_isSecondCharity_30 : decode cX6_isSecondCharity 30 = .ok (.goto 4, 3) := by decide +kernel
theorem dX6_isSecondCharity_33 : decode cX6_isSecondCharity 33 = .ok (.iconst 0, 1) := by decide +kernel
theorem dX6_isSecondCharity_34 : decode cX6_isSecondCharity 34 = .ok (.ireturn, 1) := by decide +kernel
set_option maxRecDepth 20000 in
theorem ggX6_goodSpot_X6_isTradeAtLimit : GoodIn wsX6_goodSpot wsX6_isTradeAtLimit := goodIn_r _ [9, 10, 11, 12, 13, 14, 15, 16, 17, 8, 18, 105, 106, 107, 108, 109, 110, 111, 112, 113, 114, 115, 116, 117, 118, 123, 124, 125, 126, 127, 128, 129, 130, 131, 132, 133, 134, 135, 136, 137, 138, 139] (by decide +kernel) (by decide +kernel)
set_option maxRecDepth 20000 in
theorem gX6_goodSpot_X6_isTradeAtLimit : GoodIn wsX6_goodSpot (va_wsS RX6 351 yX6_isTradeAtLimit wsX6_isTradeAtLimit) := goodIn_app (goodIn_of _ (by decide +kernel)) ggX6_goodSpot_X6_isTradeAtLimit
set_option maxRecDepth 20000 in
theorem ggX6_goodSpot_X6_isOutOfMonth : GoodIn wsX6_goodSpot wsX6_isOutOfMonth := goodIn_r _ [22, 23, 24, 25, 26, 27, 28, 29, 30, 105, 106, 107, 108, 109, 110, 111, 112, 113, 114, 115, 116, 117, 118, 140, 141, 142, 143, 144, 145, 146, 147, 148, 149, 150, 151, 152, 153, 154, 155, 156, 157] (by decide +kernel) (by decide +kernel)
set_option maxRecDepth 20000 in
theorem gX6_goodSpot_X6_isOutOfMonth : GoodIn wsX6_goodSpot (wsV RX6 365 RX6 yX6_isOutOfMonth wsX6_isOutOfMonth) := goodIn_app (goodIn_of _ (by decide +kernel)) ggX6_goodSpot_X6_isOutOfMonth
set_option maxRecDepth 20000 in
theorem ggX6_goodSpot_X6_isSecondCharity : GoodIn wsX6_goodSpot wsX6_isSecondCharity := goodIn_r _ [34, 23, 35, 12, 13, 14, 16, 17, 8, 18, 105, 106, 107, 108, 109, 110, 111, 112, 113, 114, 115, 116, 117, 118, 140, 141, 142, 143, 144, 145, 146, 147, 148, 149, 150, 151, 152, 153, 154, 155, 156, 157, 129, 130, 131, 132, 133, 134, 135, 136, 137, 138, 139] (by decide +kernel) (by decide +kernel)
set_option maxRecDepth 20000 in
theorem gX6_goodSpot_X6_isSecondCharity : GoodIn wsX6_goodSpot (wsV RX6 368 RX6 yX6_isSecondCharity wsX6_isSecondCharity) := goodIn_app (goodIn_of _ (by decide +kernel)) ggX6_goodSpot_X6_isSecondCharity
set_option maxRecDepth 20000 in
theorem ggX6_goodSpot_X6_against : GoodIn wsX6_goodSpot wsX6_against := goodIn_r _ [39, 40, 23, 41, 42, 43, 8, 44, 45, 46, 47, 48, 49, 50, 51, 52, 53, 54, 55, 56, 57, 58, 59, 60, 61, 62, 63, 64, 65, 66, 67, 68, 69, 70, 6, 7, 9, 10, 11, 12, 13, 14, 15, 16, 17, 18, 71, 72, 73, 74, 75, 76, 77, 78, 79, 80, 81, 82, 83, 84, 85, 86, 87, 88, 89, 90, 91, 92, 93, 94, 19, 20, 21, 22, 24, 25, 26, 27, 28, 29, 30, 31, 32, 33, 34, 35, 105, 106, 107, 108, 109, 110, 111, 112, 113, 114, 115, 116, 117, 118, 140, 141, 142, 143, 144, 145, 146, 147, 148, 149, 150, 151, 152, 153, 154, 155, 156, 157, 158, 159, 160, 123, 124, 125, 126, 127, 128, 129, 130, 131, 132, 133, 134, 135, 136, 137, 138, 139] (by decide +kernel) (by decide +kernel)
set_option maxRecDepth 20000 in
theorem gX6_goodSpot_X6_against : GoodIn wsX6_goodSpot (wsV RX6 199 RX6 yX6_against wsX6_against) := goodIn_app (goodIn_of _ (by decide +kernel)) ggX6_goodSpot_X6_against
set_option maxRecDepth 20000 in
theorem ggX6_goodSpot_X6_firstSpotOfSquare : GoodIn wsX6_goodSpot wsX6_firstSpotOfSquare := goodIn_r _ [98, 45, 99, 40, 100, 101, 102, 49, 103, 66, 67, 68, 69, 70, 57, 58, 59, 60, 51, 104, 53, 54, 55, 56, 36, 37, 38, 8, 39, 23, 41, 42, 43, 44, 46, 47, 48, 50, 52, 61, 62, 63, 64, 65, 6, 7, 9, 10, 11, 12, 13, 14, 15, 16, 17, 18, 71, 72, 73, 74, 75, 76, 77, 78, 79, 80, 81, 82, 83, 84, 85, 86, 87, 88, 89, 90, 91, 92, 93, 94, 19, 20, 21, 22, 24, 25, 26, 27, 28, 29, 30, 31, 32, 33, 34, 35, 140, 141, 142, 143, 144, 145, 146, 147, 148, 149, 150, 151, 152, 153, 154, 155, 156, 157, 158, 159, 160, 105, 106, 107, 108, 109, 110, 111, 112, 113, 114, 115, 116, 117, 118, 123, 124, 125, 126, 127, 128, 129, 130, 131, 132, 133, 134, 135, 136, 137, 138, 139] (by decide +kernel) (by decide +kernel)
set_option maxRecDepth 20000 in
theorem gX6_goodSpot_X6_firstSpotOfSquare : GoodIn wsX6_goodSpot (wsV RX6 395 RX6 yX6_firstSpotOfSquare wsX6_firstSpotOfSquare) := goodIn_app (goodIn_of _ (by decide +kernel)) ggX6_goodSpot_X6_firstSpotOfSquare
theorem dX6_goodSpot_0 : decode cX6_goodSpot 0 = .ok (.aload_n 1, 1) := by decide +kernel
theorem dX6_goodSpot_1 : decode cX6_goodSpot 1 = .ok (.invokestatic 351, 3) := by decide +kernel
theorem dX6_goodSpot_4 : decode cX6_goodSpot 4 = .ok (.ifCond .ne 19, 3) := by decide +kernel
theorem dX6_goodSpot_7 : decode cX6_goodSpot 7 = .ok (.aload_n 0, 1) := by decide +kernel
theorem dX6_goodSpot_8 : decode cX6_goodSpot 8 = .ok (.aload_n 1, 1) := by decide +kernel
theorem dX6_goodSpot_9 : decode cX6_goodSpot 9 = .ok (.invokevirtual 365, 3) := by decide +kernel
theorem dX6_goodSpot_12 : decode cX6_goodSpot 12 = .ok (.ifCond .ne 11, 3) := by decide +kernel
theorem dX6_goodSpot_15 : decode cX6_goodSpot 15 = .ok (.aload_n 0, 1) := by decide +kernel
theorem dX6_goodSpot_16 : decode cX6_goodSpot 16 = .ok (.aload_n 1, 1) := by decide +kernel
theorem dX6_goodSpot_17 : decode cX6_goodSpot 17 = .ok (.invokevirtual 368, 3) := by decide +kernel
theorem dX6_goodSpot_20 : decode cX6_goodSpot 20 = .ok (.ifCond .eq 5, 3) := by decide +kernel
theorem dX6_goodSpot_23 : decode cX6_goodSpot 23 = .ok (.iconst (-1), 1) := by decide +kernel
theorem dX6_goodSpot_24 : decode cX6_goodSpot 24 = .ok (.ireturn, 1) := by decide +kernel
theorem dX6_goodSpot_25 : decode cX6_goodSpot 25 = .ok (.iconst 0, 1) := by decide +kernel
theorem dX6_goodSpot_26 : decode cX6_goodSpot 26 = .ok (.istore_n 2, 1) := by decide +kernel
theorem dX6_goodSpot_27 : decode cX6_goodSpot 27 = .ok (.iload_n 2, 1) := by decide +kernel
theorem dX6_goodSpot_28 : decode cX6_goodSpot 28 = .ok (.aload_n 1, 1) := by decide +kernel
theorem dX6_goodSpot_29 : decode cX6_goodSpot 29 = .ok (.getfield 136, 3) := by decide +kernel
theorem dX6_goodSpot_32 : decode cX6_goodSpot 32 = .ok (.getfield 291, 3) := by decide +kernel
theorem dX6_goodSpot_35 : decode cX6_goodSpot 35 = .ok (.if_icmp .ge 59, 3) := by decide +kernel
theorem dX6_goodSpot_38 : decode cX6_goodSpot 38 = .ok (.aload_n 0, 1) := by decide +kernel
theorem dX6_goodSpot_39 : decode cX6_goodSpot 39 = .ok (.aload_n 1, 1) := by decide +kernel
theorem dX6_goodSpot_40 : decode cX6_goodSpot 40 = .ok (.aload_n 1, 1) := by decide +kernel
theorem dX6_goodSpot_41 : decode cX6_goodSpot 41 = .ok (.getfield 136, 3) := by decide +kernel
theorem dX6_goodSpot_44 : decode cX6_goodSpot 44 = .ok (.getfield 390, 3) := by decide +kernel
theorem dX6_goodSpot_47 : decode cX6_goodSpot 47 = .ok (.iload_n 2, 1) := by decide +kernel
theorem dX6_goodSpot_48 : decode cX6_goodSpot 48 = .ok (.iaload, 1) := by decide +kernel
theorem dX6_goodSpot_49 : decode cX6_goodSpot 49 = .ok (.aload_n 1, 1) := by decide +kernel
theorem dX6_goodSpot_50 : decode cX6_goodSpot 50 = .ok (.getfield 136, 3) := by decide +kernel
theorem dX6_goodSpot_53 : decode cX6_goodSpot 53 = .ok (.getfield 393, 3) := by decide +kernel
theorem dX6_goodSpot_56 : decode cX6_goodSpot 56 = .ok (.iload_n 2, 1) := by decide +kernel
theorem dX6_goodSpot_57 : decode cX6_goodSpot 57 = .ok (.iaload, 1) := by decide +kernel
theorem dX6_goodSpot_58 : decode cX6_goodSpot 58 = .ok (.invokevirtual 199, 3) := by decide +kernel
theorem dX6_goodSpot_61 : decode cX6_goodSpot 61 = .ok (.ifCond .ne 27, 3) := by decide +kernel
theorem dX6_goodSpot_64 : decode cX6_goodSpot 64 = .ok (.aload_n 1, 1) := by decide +kernel
theorem dX6_goodSpot_65 : decode cX6_goodSpot 65 = .ok (.getfield 136, 3) := by decide +kernel
theorem dX6_goodSpot_68 : decode cX6_goodSpot 68 = .ok (.getfield 390, 3) := by decide +kernel
theorem dX6_goodSpot_71 : decode cX6_goodSpot 71 = .ok (.iload_n 2, 1) := by decide +kernel
theorem dX6_goodSpot_72 : decode cX6_goodSpot 72 = .ok (.iaload, 1) := by decide +kernel
theorem dX6_goodSpot_73 : decode cX6_goodSpot 73 = .ok (.sipush 200, 3) := by decide +kernel
theorem dX6_goodSpot_76 : decode cX6_goodSpot 76 = .ok (.imul, 1) := by decide +kernel
theorem dX6_goodSpot_77 : decode cX6_goodSpot 77 = .ok (.aload_n 1, 1) := by decide +kernel
theorem dX6_goodSpot_78 : decode cX6_goodSpot 78 = .ok (.getfield 136, 3) := by decide +kernel
theorem dX6_goodSpot_81 : decode cX6_goodSpot 81 = .ok (.getfield 393, 3) := by decide +kernel
theorem dX6_goodSpot_84 : decode cX6_goodSpot 84 = .ok (.iload_n 2, 1) := by decide +kernel
theorem dX6_goodSpot_85 : decode cX6_goodSpot 85 = .ok (.iaload, 1) := by decide +kernel
theorem dX6_goodSpot_86 : decode cX6_goodSpot 86 = .ok (.iadd, 1) := by decide +kernel
theorem dX6_goodSpot_87 : decode cX6_goodSpot 87 = .ok (.ireturn, 1) := by decide +kernel
theorem dX6_goodSpot_88 : decode cX6_goodSpot 88 = .ok (.iinc 2 1, 3) := by decide +kernel
theorem dX6_goodSpot_91 : decode cX6_goodSpot 91 = .ok (.goto (-64), 3) := by decide +kernel
theorem dX6_goodSpot_94 : decode cX6_goodSpot 94 = .ok (.aload_n 1, 1) := by decide +kernel
theorem dX6_goodSpot_95 : decode cX6_goodSpot 95 = .ok (.getfield 136, 3) := by decide +kernel
theorem dX6_goodSpot_98 : decode cX6_goodSpot 98 = .ok (.getfield 294, 3) := by decide +kernel
theorem dX6_goodSpot_101 : decode cX6_goodSpot 101 = .ok (.ifCond .eq 11, 3) := by decide +kernel
theorem dX6_goodSpot_104 : decode cX6_goodSpot 104 = .ok (.aload_n 0, 1) := by decide +kernel
theorem dX6_goodSpot_105 : decode cX6_goodSpot 105 = .ok (.aload_n 1, 1) := by decide +kernel
theorem dX6_goodSpot_106 : decode cX6_goodSpot 106 = .ok (.invokevirtual 395, 3) := by decide +kernel
theorem dX6_goodSpot_109 : decode cX6_goodSpot 109 = .ok (.goto 4, 3) := by decide +kernel
theorem dX6_goodSpot_112 : decode cX6_goodSpot 112 = .ok (.iconst (-1), 1) := by decide +kernel
theorem dX6_goodSpot_113 : decode cX6_goodSpot 113 = .ok (.ireturn, 1) := by decide +kernel
set_option maxRecDepth 20000 in
theorem ggX6_firstSpotOfSquare_X0_isOpenFor : GoodIn wsX6_firstSpotOfSquare wsX0_isOpenFor := goodIn_r _ [8, 9, 10, 11, 7, 12, 13, 14, 15, 16, 17, 18, 19, 20, 21, 22, 23, 114, 115, 116] (by decide +kernel) (by decide +kernel)
set_option maxRecDepth 20000 in
theorem gX6_firstSpotOfSquare_X0_isOpenFor : GoodIn wsX6_firstSpotOfSquare (wsV RX6 398 RX0 yX0_isOpenFor wsX0_isOpenFor) := goodIn_app (goodIn_of _ (by decide +kernel)) ggX6_firstSpotOfSquare_X0_isOpenFor
set_option maxRecDepth 20000 in
theorem ggX6_firstSpotOfSquare_X6_against : GoodIn wsX6_firstSpotOfSquare wsX6_against := goodIn_r _ [28, 3, 29, 30, 31, 32, 27, 33, 1, 34, 35, 36, 7, 37, 18, 38, 20, 21, 22, 23, 14, 15, 16, 17, 39, 40, 41, 42, 43, 9, 10, 11, 12, 13, 44, 45, 46, 47, 48, 49, 50, 51, 52, 53, 54, 55, 56, 57, 58, 59, 60, 61, 62, 63, 64, 65, 66, 67, 68, 69, 70, 71, 72, 73, 74, 75, 76, 77, 78, 79, 80, 81, 82, 83, 84, 85, 86, 87, 88, 89, 90, 91, 92, 93, 94, 95, 117, 118, 119, 120, 121, 122, 123, 124, 125, 126, 127, 128, 129, 130, 96, 97, 98, 99, 100, 101, 102, 103, 104, 105, 106, 107, 108, 109, 110, 111, 112, 113, 114, 115, 116, 131, 132, 133, 134, 135, 136, 137, 138, 139, 140, 141, 142, 143, 144, 145, 146, 147] (by decide +kernel) (by decide +kernel)
set_option maxRecDepth 20000 in
theorem gX6_firstSpotOfSquare_X6_against : GoodIn wsX6_firstSpotOfSquare (wsV RX6 199 RX6 yX6_against wsX6_against) := goodIn_app (goodIn_of _ (by decide +kernel)) ggX6_firstSpotOfSquare_X6_against
theorem dX6_firstSpotOfSquare_0 : decode cX6_firstSpotOfSquare 0 = .ok (.iconst 0, 1) := by decide +kernel
theorem dX6_firstSpotOfSquare_1 : decode cX6_firstSpotOfSquare 1 = .ok (.istore_n 2, 1) := by decide +kernel
theorem dX6_firstSpotOfSquare_2 : decode cX6_firstSpotOfSquare 2 = .ok (.iload_n 2, 1) := by decide +kernel
theorem dX6_firstSpotOfSquare_3 : decode cX6_firstSpotOfSquare 3 = .ok (.bipush 40, 2) := by decide +kernel
theorem dX6_firstSpotOfSquare_5 : decode cX6_firstSpotOfSquare 5 = .ok (.if_icmp .ge 97, 3) := by decide +kernel
theorem dX6_firstSpotOfSquare_8 : decode cX6_firstSpotOfSquare 8 = .ok (.aload_n 0, 1) := by decide +kernel
theorem dX6_firstSpotOfSquare_9 : decode cX6_firstSpotOfSquare 9 = .ok (.getfield 11, 3) := by decide +kernel
theorem dX6_firstSpotOfSquare_12 : decode cX6_firstSpotOfSquare 12 = .ok (.iload_n 2, 1) := by decide +kernel
theorem dX6_firstSpotOfSquare_13 : decode cX6_firstSpotOfSquare 13 = .ok (.aaload, 1) := by decide +kernel
theorem dX6_firstSpotOfSquare_14 : decode cX6_firstSpotOfSquare 14 = .ok (.astore_n 3, 1) := by decide +kernel
theorem dX6_firstSpotOfSquare_15 : decode cX6_firstSpotOfSquare 15 = .ok (.iconst 0, 1) := by decide +kernel
theorem dX6_firstSpotOfSquare_16 : decode cX6_firstSpotOfSquare 16 = .ok (.istore 4, 2) := by decide +kernel
theorem dX6_firstSpotOfSquare_18 : decode cX6_firstSpotOfSquare 18 = .ok (.iconst 0, 1) := by decide +kernel
theorem dX6_firstSpotOfSquare_19 : decode cX6_firstSpotOfSquare 19 = .ok (.istore 5, 2) := by decide +kernel
theorem dX6_firstSpotOfSquare_21 : decode cX6_firstSpotOfSquare 21 = .ok (.iload 5, 2) := by decide +kernel
theorem dX6_firstSpotOfSquare_23 : decode cX6_firstSpotOfSquare 23 = .ok (.aload_n 3, 1) := by decide +kernel
theorem dX6_firstSpotOfSquare_24 : decode cX6_firstSpotOfSquare 24 = .ok (.getfield 305, 3) := by decide +kernel
theorem dX6_firstSpotOfSquare_27 : decode cX6_firstSpotOfSquare 27 = .ok (.if_icmp .ge 69, 3) := by decide +kernel
theorem dX6_firstSpotOfSquare_30 : decode cX6_firstSpotOfSquare 30 = .ok (.aload_n 3, 1) := by decide +kernel
theorem dX6_firstSpotOfSquare_31 : decode cX6_firstSpotOfSquare 31 = .ok (.aload_n 1, 1) := by decide +kernel
theorem dX6_firstSpotOfSquare_32 : decode cX6_firstSpotOfSquare 32 = .ok (.iload 5, 2) := by decide +kernel
theorem dX6_firstSpotOfSquare_34 : decode cX6_firstSpotOfSquare 34 = .ok (.invokevirtual 398, 3) := by decide +kernel
theorem dX6_firstSpotOfSquare_37 : decode cX6_firstSpotOfSquare 37 = .ok (.ifCond .eq 10, 3) := by decide +kernel
theorem dX6_firstSpotOfSquare_40 : decode cX6_firstSpotOfSquare 40 = .ok (.iload 4, 2) := by decide +kernel
theorem dX6_firstSpotOfSquare_42 : decode cX6_firstSpotOfSquare 42 = .ok (.iconst 1, 1) := by decide +kernel
theorem dX6_firstSpotOfSquare_43 : decode cX6_firstSpotOfSquare 43 = .ok (.iadd, 1) := by decide +kernel
theorem dX6_firstSpotOfSquare_44 : decode cX6_firstSpotOfSquare 44 = .ok (.goto 4, 3) := by decide +kernel
theorem dX6_firstSpotOfSquare_47 : decode cX6_firstSpotOfSquare 47 = .ok (.iconst 0, 1) := by decide +kernel
theorem dX6_firstSpotOfSquare_48 : decode cX6_firstSpotOfSquare 48 = .ok (.istore 4, 2) := by decide +kernel
theorem dX6_firstSpotOfSquare_50 : decode cX6_firstSpotOfSquare 50 = .ok (.iload 5, 2) := by decide +kernel
theorem dX6_firstSpotOfSquare_52 : decode cX6_firstSpotOfSquare 52 = .ok (.aload_n 1, 1) := by decide +kernel
theorem dX6_firstSpotOfSquare_53 : decode cX6_firstSpotOfSquare 53 = .ok (.getfield 260, 3) := by decide +kernel
theorem dX6_firstSpotOfSquare_56 : decode cX6_firstSpotOfSquare 56 = .ok (.isub, 1) := by decide +kernel
theorem dX6_firstSpotOfSquare_57 : decode cX6_firstSpotOfSquare 57 = .ok (.iconst 1, 1) := by decide +kernel
theorem dX6_firstSpotOfSquare_58 : decode cX6_firstSpotOfSquare 58 = .ok (.iadd, 1) := by decide +kernel
theorem dX6_firstSpotOfSquare_59 : decode cX6_firstSpotOfSquare 59 = .ok (.istore 6, 2) := by decide +kernel
theorem dX6_firstSpotOfSquare_61 : decode cX6_firstSpotOfSquare 61 = .ok (.iload 4, 2) := by decide +kernel
theorem dX6_firstSpotOfSquare_63 : decode cX6_firstSpotOfSquare 63 = .ok (.aload_n 1, 1) := by decide +kernel
theorem dX6_firstSpotOfSquare_64 : decode cX6_firstSpotOfSquare 64 = .ok (.getfield 260, 3) := by decide +kernel
theorem dX6_firstSpotOfSquare_67 : decode cX6_firstSpotOfSquare 67 = .ok (.if_icmp .lt 23, 3) := by decide +kernel
theorem dX6_firstSpotOfSquare_70 : decode cX6_firstSpotOfSquare 70 = .ok (.aload_n 0, 1) := by decide +kernel
theorem dX6_firstSpotOfSquare_71 : decode cX6_firstSpotOfSquare 71 = .ok (.aload_n 1, 1) := by decide +kernel
theorem dX6_firstSpotOfSquare_72 : decode cX6_firstSpotOfSquare 72 = .ok (.iload_n 2, 1) := by decide +kernel
theorem dX6_firstSpotOfSquare_73 : decode cX6_firstSpotOfSquare 73 = .ok (.iload 6, 2) := by decide +kernel
theorem dX6_firstSpotOfSquare_75 : decode cX6_firstSpotOfSquare 75 = .ok (.invokevirtual 199, 3) := by decide +kernel
theorem dX6_firstSpotOfSquare_78 : decode cX6_firstSpotOfSquare 78 = .ok (.ifCond .ne 12, 3) := by decide +kernel
theorem dX6_firstSpotOfSquare_81 : decode cX6_firstSpotOfSquare 81 = .ok (.iload_n 2, 1) := by decide +kernel
theorem dX6_firstSpotOfSquare_82 : decode cX6_firstSpotOfSquare 82 = .ok (.sipush 200, 3) := by decide +kernel
theorem dX6_firstSpotOfSquare_85 : decode cX6_firstSpotOfSquare 85 = .ok (.imul, 1) := by decide +kernel
theorem dX6_firstSpotOfSquare_86 : decode cX6_firstSpotOfSquare 86 = .ok (.iload 6, 2) := by decide +kernel
theorem dX6_firstSpotOfSquare_88 : decode cX6_firstSpotOfSquare 88 = .ok (.iadd, 1) := by decide +kernel
theorem dX6_firstSpotOfSquare_89 : decode cX6_firstSpotOfSquare 89 = .ok (.ireturn, 1) := by decide +kernel
theorem dX6_firstSpotOfSquare_90 : decode cX6_firstSpotOfSquare 90 = .ok (.iinc 5 1, 3) := by decide +kernel
theorem dX6_firstSpotOfSquare_93 : decode cX6_firstSpotOfSquare 93 = .ok (.goto (-72), 3) := by decide +kernel
theorem dX6_firstSpotOfSquare_96 : decode cX6_firstSpotOfSquare 96 = .ok (.iinc 2 1, 3) := by decide +kernel
theorem dX6_firstSpotOfSquare_99 : decode cX6_firstSpotOfSquare 99 = .ok (.goto (-97), 3) := by decide +kernel
theorem dX6_firstSpotOfSquare_102 : decode cX6_firstSpotOfSquare 102 = .ok (.iconst (-1), 1) := by decide +kernel
theorem dX6_firstSpotOfSquare_103 : decode cX6_firstSpotOfSquare 103 = .ok (.ireturn, 1) := by decide +kernel
set_option maxRecDepth 20000 in
theorem ggX6_lineUpWaiting_X4_isWaiting : GoodIn wsX6_lineUpWaiting wsX4_isWaiting := goodIn_r _ [7, 8, 9, 10, 11, 12, 61, 62, 63, 64, 65, 66, 67, 68, 69, 70, 71, 72, 73, 74, 75, 76, 77, 78, 79, 80, 81, 82, 83, 84, 85] (by decide +kernel) (by decide +kernel)
set_option maxRecDepth 20000 in
theorem gX6_lineUpWaiting_X4_isWaiting : GoodIn wsX6_lineUpWaiting (wsV RX6 220 RX4 yX4_isWaiting wsX4_isWaiting) := goodIn_app (goodIn_of _ (by decide +kernel)) ggX6_lineUpWaiting_X4_isWaiting
set_option maxRecDepth 20000 in
theorem ggX6_lineUpWaiting_X6_insert : GoodIn wsX6_lineUpWaiting wsX6_insert := goodIn_r _ [17, 18, 19, 20, 16, 21, 22, 23, 24, 25, 26, 27, 28, 29, 30, 31, 32, 6, 33, 34, 35, 36, 37, 38, 39, 40, 41, 42, 43, 44, 45, 46, 47, 48, 49, 50, 51, 52, 53, 54, 55, 56, 57, 58, 59, 60, 61, 62, 63, 64, 65, 66, 67, 68, 69, 70, 71, 72, 73, 74, 75, 76, 77, 78, 79, 80, 81, 82] (by decide +kernel) (by decide +kernel)
set_option maxRecDepth 20000 in
theorem gX6_lineUpWaiting_X6_insert : GoodIn wsX6_lineUpWaiting (wsV RX6 401 RX6 yX6_insert wsX6_insert) := goodIn_app (goodIn_of _ (by decide +kernel)) ggX6_lineUpWaiting_X6_insert
theorem dX6_lineUpWaiting_0 : decode cX6_lineUpWaiting 0 = .ok (.iconst 0, 1) := by decide +kernel
theorem dX6_lineUpWaiting_1 : decode cX6_lineUpWaiting 1 = .ok (.istore_n 1, 1) := by decide +kernel
theorem dX6_lineUpWaiting_2 : decode cX6_lineUpWaiting 2 = .ok (.iconst 0, 1) := by decide +kernel
theorem dX6_lineUpWaiting_3 : decode cX6_lineUpWaiting 3 = .ok (.istore_n 2, 1) := by decide +kernel
theorem dX6_lineUpWaiting_4 : decode cX6_lineUpWaiting 4 = .ok (.iload_n 2, 1) := by decide +kernel
theorem dX6_lineUpWaiting_5 : decode cX6_lineUpWaiting 5 = .ok (.aload_n 0, 1) := by decide +kernel
theorem dX6_lineUpWaiting_6 : decode cX6_lineUpWaiting 6 = .ok (.getfield 100, 3) := by decide +kernel
theorem dX6_lineUpWaiting_9 : decode cX6_lineUpWaiting 9 = .ok (.if_icmp .ge 32, 3) := by decide +kernel
theorem dX6_lineUpWaiting_12 : decode cX6_lineUpWaiting 12 = .ok (.aload_n 0, 1) := by decide +kernel
theorem dX6_lineUpWaiting_13 : decode cX6_lineUpWaiting 13 = .ok (.getfield 27, 3) := by decide +kernel
theorem dX6_lineUpWaiting_16 : decode cX6_lineUpWaiting 16 = .ok (.iload_n 2, 1) := by decide +kernel
theorem dX6_lineUpWaiting_17 : decode cX6_lineUpWaiting 17 = .ok (.aaload, 1) := by decide +kernel
theorem dX6_lineUpWaiting_18 : decode cX6_lineUpWaiting 18 = .ok (.astore_n 3, 1) := by decide +kernel
theorem dX6_lineUpWaiting_19 : decode cX6_lineUpWaiting 19 = .ok (.aload_n 3, 1) := by decide +kernel
theorem dX6_lineUpWaiting_20 : decode cX6_lineUpWaiting 20 = .ok (.invokevirtual 220, 3) := by decide +kernel
theorem dX6_lineUpWaiting_23 : decode cX6_lineUpWaiting 23 = .ok (.ifCond .eq 12, 3) := by decide +kernel
theorem dX6_lineUpWaiting_26 : decode cX6_lineUpWaiting 26 = .ok (.aload_n 0, 1) := by decide +kernel
theorem dX6_lineUpWaiting_27 : decode cX6_lineUpWaiting 27 = .ok (.aload_n 3, 1) := by decide +kernel
theorem dX6_lineUpWaiting_28 : decode cX6_lineUpWaiting 28 = .ok (.iload_n 1, 1) := by decide +kernel
theorem dX6_lineUpWaiting_29 : decode cX6_lineUpWaiting 29 = .ok (.invokevirtual 401, 3) := by decide +kernel
theorem dX6_lineUpWaiting_32 : decode cX6_lineUpWaiting 32 = .ok (.iinc 1 1, 3) := by decide +kernel
theorem dX6_lineUpWaiting_35 : decode cX6_lineUpWaiting 35 = .ok (.iinc 2 1, 3) := by decide +kernel
theorem dX6_lineUpWaiting_38 : decode cX6_lineUpWaiting 38 = .ok (.goto (-34), 3) := by decide +kernel
theorem dX6_lineUpWaiting_41 : decode cX6_lineUpWaiting 41 = .ok (.iload_n 1, 1) := by decide +kernel
theorem dX6_lineUpWaiting_42 : decode cX6_lineUpWaiting 42 = .ok (.ireturn, 1) := by decide +kernel
set_option maxRecDepth 20000 in
theorem ggX6_insert_X6_isAhead : GoodIn wsX6_insert wsX6_isAhead := goodIn_r _ [5, 6, 7, 8, 9, 10, 4, 11, 12, 13, 14, 15, 16, 17, 18, 19, 20, 21, 22, 23, 24, 25, 26, 27, 46, 47, 48, 49, 50, 51, 52, 53, 54, 55, 56, 57, 58, 59, 60, 61, 62, 63, 64, 65, 66, 67] (by decide +kernel) (by decide +kernel)
set_option maxRecDepth 20000 in
theorem gX6_insert_X6_isAhead : GoodIn wsX6_insert (va_wsS RX6 405 yX6_isAhead wsX6_isAhead) := goodIn_app (goodIn_of _ (by decide +kernel)) ggX6_insert_X6_isAhead
theorem dX6_insert_0 : decode cX6_insert 0 = .ok (.iload_n 2, 1) := by decide +kernel
theorem dX6_insert_1 : decode cX6_insert 1 = .ok (.istore_n 3, 1) := by decide +kernel
theorem dX6_insert_2 : decode cX6_insert 2 = .ok (.iload_n 3, 1) := by decide +kernel
theorem dX6_insert_3 : decode cX6_insert 3 = .ok (.ifCond .le 38, 3) := by decide +kernel
theorem dX6_insert_6 : decode cX6_insert 6 = .ok (.aload_n 1, 1) := by decide +kernel
theorem dX6_insert_7 : decode cX6_insert 7 = .ok (.aload_n 0, 1) := by decide +kernel
theorem dX6_insert_8 : decode cX6_insert 8 = .ok (.getfield 30, 3) := by decide +kernel
theorem dX6_insert_11 : decode cX6_insert 11 = .ok (.iload_n 3, 1) := by decide +kernel
theorem dX6_insert_12 : decode cX6_insert 12 = .ok (.iconst 1, 1) := by decide +kernel
theorem dX6_insert_13 : decode cX6_insert 13 = .ok (.isub, 1) := by decide +kernel
theorem dX6_insert_14 : decode cX6_insert 14 = .ok (.aaload, 1) := by decide +kernel
theorem dX6_insert_15 : decode cX6_insert 15 = .ok (.invokestatic 405, 3) := by decide +kernel
theorem dX6_insert_18 : decode cX6_insert 18 = .ok (.ifCond .eq 23, 3) := by decide +kernel
theorem dX6_insert_21 : decode cX6_insert 21 = .ok (.aload_n 0, 1) := by decide +kernel
theorem dX6_insert_22 : decode cX6_insert 22 = .ok (.getfield 30, 3) := by decide +kernel
theorem dX6_insert_25 : decode cX6_insert 25 = .ok (.iload_n 3, 1) := by decide +kernel
theorem dX6_insert_26 : decode cX6_insert 26 = .ok (.aload_n 0, 1) := by decide +kernel
theorem dX6_insert_27 : decode cX6_insert 27 = .ok (.getfield 30, 3) := by decide +kernel
theorem dX6_insert_30 : decode cX6_insert 30 = .ok (.iload_n 3, 1) := by decide +kernel
theorem dX6_insert_31 : decode cX6_insert 31 = .ok (.iconst 1, 1) := by decide +kernel
theorem dX6_insert_32 : decode cX6_insert 32 = .ok (.isub, 1) := by decide +kernel
theorem dX6_insert_33 : decode cX6_insert 33 = .ok (.aaload, 1) := by decide +kernel
theorem dX6_insert_34 : decode cX6_insert 34 = .ok (.aastore, 1) := by decide +kernel
theorem dX6_insert_35 : decode cX6_insert 35 = .ok (.iinc 3 (-1), 3) := by decide +kernel
theorem dX6_insert_38 : decode cX6_insert 38 = .ok (.goto (-36), 3) := by decide +kernel
theorem dX6_insert_41 : decode cX6_insert 41 = .ok (.aload_n 0, 1) := by decide +kernel
theorem dX6_insert_42 : decode cX6_insert 42 = .ok (.getfield 30, 3) := by decide +kernel
theorem dX6_insert_45 : decode cX6_insert 45 = .ok (.iload_n 3, 1) := by decide +kernel
theorem dX6_insert_46 : decode cX6_insert 46 = .ok (.aload_n 1, 1) := by decide +kernel
theorem dX6_insert_47 : decode cX6_insert 47 = .ok (.aastore, 1) := by decide +kernel
theorem dX6_insert_48 : decode cX6_insert 48 = .ok (.return_, 1) := by decide +kernel
set_option maxRecDepth 20000 in
theorem ggX6_isAhead_X6_isAheadUnslighted : GoodIn wsX6_isAhead wsX6_isAheadUnslighted := goodIn_r _ [7, 8, 9, 3, 10, 11, 12, 13, 14, 15, 16, 17, 18, 19, 20, 21, 22, 23, 24, 25, 26, 27, 28, 29, 30, 31, 32, 33, 34, 35, 36, 37] (by decide +kernel) (by decide +kernel)
set_option maxRecDepth 20000 in
theorem gX6_isAhead_X6_isAheadUnslighted : GoodIn wsX6_isAhead (va_wsS RX6 408 yX6_isAheadUnslighted wsX6_isAheadUnslighted) := goodIn_app (goodIn_of _ (by decide +kernel)) ggX6_isAhead_X6_isAheadUnslighted
theorem dX6_isAhead_0 : decode cX6_isAhead 0 = .ok (.aload_n 0, 1) := by decide +kernel
theorem dX6_isAhead_1 : decode cX6_isAhead 1 = .ok (.getfield 168, 3) := by decide +kernel
theorem dX6_isAhead_4 : decode cX6_isAhead 4 = .ok (.getfield 273, 3) := by decide +kernel
theorem dX6_isAhead_7 : decode cX6_isAhead 7 = .ok (.aload_n 1, 1) := by decide +kernel
theorem dX6_isAhead_8 : decode cX6_isAhead 8 = .ok (.getfield 168, 3) := by decide +kernel
theorem dX6_isAhead_11 : decode cX6_isAhead 11 = .ok (.getfield 273, 3) := by decide +kernel
theorem dX6_isAhead_14 : decode cX6_isAhead 14 = .ok (.if_icmp .eq 11, 3) := by decide +kernel
theorem dX6_isAhead_17 : decode cX6_isAhead 17 = .ok (.aload_n 0, 1) := by decide +kernel
theorem dX6_isAhead_18 : decode cX6_isAhead 18 = .ok (.getfield 168, 3) := by decide +kernel
theorem dX6_isAhead_21 : decode cX6_isAhead 21 = .ok (.getfield 273, 3) := by decide +kernel
theorem dX6_isAhead_24 : decode cX6_isAhead 24 = .ok (.ireturn, 1) := by decide +kernel
theorem dX6_isAhead_25 : decode cX6_isAhead 25 = .ok (.aload_n 0, 1) := by decide +kernel
theorem dX6_isAhead_26 : decode cX6_isAhead 26 = .ok (.getfield 168, 3) := by decide +kernel
theorem dX6_isAhead_29 : decode cX6_isAhead 29 = .ok (.getfield 273, 3) := by decide +kernel
theorem dX6_isAhead_32 : decode cX6_isAhead 32 = .ok (.ifCond .eq 22, 3) := by decide +kernel
theorem dX6_isAhead_35 : decode cX6_isAhead 35 = .ok (.aload_n 0, 1) := by decide +kernel
theorem dX6_isAhead_36 : decode cX6_isAhead 36 = .ok (.getfield 263, 3) := by decide +kernel
theorem dX6_isAhead_39 : decode cX6_isAhead 39 = .ok (.aload_n 1, 1) := by decide +kernel
theorem dX6_isAhead_40 : decode cX6_isAhead 40 = .ok (.getfield 263, 3) := by decide +kernel
theorem dX6_isAhead_43 : decode cX6_isAhead 43 = .ok (.if_icmp .ge 7, 3) := by decide +kernel
theorem dX6_isAhead_46 : decode cX6_isAhead 46 = .ok (.iconst 1, 1) := by decide +kernel
theorem dX6_isAhead_47 : decode cX6_isAhead 47 = .ok (.goto 12, 3) := by decide +kernel
theorem dX6_isAhead_50 : decode cX6_isAhead 50 = .ok (.iconst 0, 1) := by decide +kernel
theorem dX6_isAhead_51 : decode cX6_isAhead 51 = .ok (.goto 8, 3) := by decide +kernel
theorem dX6_isAhead_54 : decode cX6_isAhead 54 = .ok (.aload_n 0, 1) := by decide +kernel
theorem dX6_isAhead_55 : decode cX6_isAhead 55 = .ok (.aload_n 1, 1) := by decide +kernel
theorem dX6_isAhead_56 : decode cX6_isAhead 56 = .ok (.invokestatic 408, 3) := by decide +kernel
theorem dX6_isAhead_59 : decode cX6_isAhead 59 = .ok (.ireturn, 1) := by decide +kernel
set_option maxRecDepth 20000 in
theorem ggX6_isAheadUnslighted_X4_isInDebt : GoodIn wsX6_isAheadUnslighted wsX4_isInDebt := goodIn_r _ [8, 9, 10, 18, 19, 20, 21, 22, 23, 24, 25, 26, 27, 28, 29, 30, 31] (by decide +kernel) (by decide +kernel)
set_option maxRecDepth 20000 in
theorem gX6_isAheadUnslighted_X4_isInDebt : GoodIn wsX6_isAheadUnslighted (wsV RX6 411 RX4 yX4_isInDebt wsX4_isInDebt) := goodIn_app (goodIn_of _ (by decide +kernel)) ggX6_isAheadUnslighted_X4_isInDebt
set_option maxRecDepth 20000 in
theorem ggX6_isAheadUnslighted_J6_bitCount_0f7a4 : GoodIn wsX6_isAheadUnslighted wsJ6_bitCount_0f7a4 := goodIn_r _ [14, 15, 16, 17] (by decide +kernel) (by decide +kernel)
set_option maxRecDepth 20000 in
theorem gX6_isAheadUnslighted_J6_bitCount_0f7a4 : GoodIn wsX6_isAheadUnslighted (va_wsS RX6 279 yJ6_bitCount_0f7a4 wsJ6_bitCount_0f7a4) := goodIn_app (goodIn_of _ (by decide +kernel)) ggX6_isAheadUnslighted_J6_bitCount_0f7a4
theorem dX6_isAheadUnslighted_0 : decode cX6_isAheadUnslighted 0 = .ok (.aload_n 0, 1) := by decide +kernel
theorem dX6_isAheadUnslighted_1 : decode cX6_isAheadUnslighted 1 = .ok (.invokevirtual 411, 3) := by decide +kernel
theorem dX6_isAheadUnslighted_4 : decode cX6_isAheadUnslighted 4 = .ok (.aload_n 1, 1) := by decide +kernel
theorem dX6_isAheadUnslighted_5 : decode cX6_isAheadUnslighted 5 = .ok (.invokevirtual 411, 3) := by decide +kernel
theorem dX6_isAheadUnslighted_8 : decode cX6_isAheadUnslighted 8 = .ok (.if_icmp .eq 8, 3) := by decide +kernel
theorem dX6_isAheadUnslighted_11 : decode cX6_isAheadUnslighted 11 = .ok (.aload_n 1, 1) := by decide +kernel
theorem dX6_isAheadUnslighted_12 : decode cX6_isAheadUnslighted 12 = .ok (.invokevirtual 411, 3) := by decide +kernel
theorem dX6_isAheadUnslighted_15 : decode cX6_isAheadUnslighted 15 = .ok (.ireturn, 1) := by decide +kernel
theorem dX6_isAheadUnslighted_16 : decode cX6_isAheadUnslighted 16 = .ok (.aload_n 0, 1) := by decide +kernel
theorem dX6_isAheadUnslighted_17 : decode cX6_isAheadUnslighted 17 = .ok (.getfield 276, 3) := by decide +kernel
theorem dX6_isAheadUnslighted_20 : decode cX6_isAheadUnslighted 20 = .ok (.invokestatic 279, 3) := by decide +kernel
theorem dX6_isAheadUnslighted_23 : decode cX6_isAheadUnslighted 23 = .ok (.istore_n 2, 1) := by decide +kernel
theorem dX6_isAheadUnslighted_24 : decode cX6_isAheadUnslighted 24 = .ok (.aload_n 1, 1) := by decide +kernel
theorem dX6_isAheadUnslighted_25 : decode cX6_isAheadUnslighted 25 = .ok (.getfield 276, 3) := by decide +kernel
theorem dX6_isAheadUnslighted_28 : decode cX6_isAheadUnslighted 28 = .ok (.invokestatic 279, 3) := by decide +kernel
theorem dX6_isAheadUnslighted_31 : decode cX6_isAheadUnslighted 31 = .ok (.istore_n 3, 1) := by decide +kernel
theorem dX6_isAheadUnslighted_32 : decode cX6_isAheadUnslighted 32 = .ok (.iload_n 2, 1) := by decide +kernel
theorem dX6_isAheadUnslighted_33 : decode cX6_isAheadUnslighted 33 = .ok (.iload_n 3, 1) := by decide +kernel
theorem dX6_isAheadUnslighted_34 : decode cX6_isAheadUnslighted 34 = .ok (.if_icmp .eq 14, 3) := by decide +kernel
theorem dX6_isAheadUnslighted_37 : decode cX6_isAheadUnslighted 37 = .ok (.iload_n 2, 1) := by decide +kernel
theorem dX6_isAheadUnslighted_38 : decode cX6_isAheadUnslighted 38 = .ok (.iload_n 3, 1) := by decide +kernel
theorem dX6_isAheadUnslighted_39 : decode cX6_isAheadUnslighted 39 = .ok (.if_icmp .le 7, 3) := by decide +kernel
theorem dX6_isAheadUnslighted_42 : decode cX6_isAheadUnslighted 42 = .ok (.iconst 1, 1) := by decide +kernel
theorem dX6_isAheadUnslighted_43 : decode cX6_isAheadUnslighted 43 = .ok (.goto 4, 3) := by decide +kernel
theorem dX6_isAheadUnslighted_46 : decode cX6_isAheadUnslighted 46 = .ok (.iconst 0, 1) := by decide +kernel
theorem dX6_isAheadUnslighted_47 : decode cX6_isAheadUnslighted 47 = .ok (.ireturn, 1) := by decide +kernel
theorem dX6_isAheadUnslighted_48 : decode cX6_isAheadUnslighted 48 = .ok (.aload_n 0, 1) := by decide +kernel
theorem dX6_isAheadUnslighted_49 : decode cX6_isAheadUnslighted 49 = .ok (.getfield 285, 3) := by decide +kernel
theorem dX6_isAheadUnslighted_52 : decode cX6_isAheadUnslighted 52 = .ok (.aload_n 1, 1) := by decide +kernel
theorem dX6_isAheadUnslighted_53 : decode cX6_isAheadUnslighted 53 = .ok (.getfield 285, 3) := by decide +kernel
theorem dX6_isAheadUnslighted_56 : decode cX6_isAheadUnslighted 56 = .ok (.if_icmp .eq 22, 3) := by decide +kernel
theorem dX6_isAheadUnslighted_59 : decode cX6_isAheadUnslighted 59 = .ok (.aload_n 0, 1) := by decide +kernel
theorem dX6_isAheadUnslighted_60 : decode cX6_isAheadUnslighted 60 = .ok (.getfield 285, 3) := by decide +kernel
theorem dX6_isAheadUnslighted_63 : decode cX6_isAheadUnslighted 63 = .ok (.aload_n 1, 1) := by decide +kernel
theorem dX6_isAheadUnslighted_64 : decode cX6_isAheadUnslighted 64 = .ok (.getfield 285, 3) := by decide +kernel
theorem dX6_isAheadUnslighted_67 : decode cX6_isAheadUnslighted 67 = .ok (.if_icmp .ge 7, 3) := by decide +kernel
theorem dX6_isAheadUnslighted_70 : decode cX6_isAheadUnslighted 70 = .ok (.iconst 1, 1) := by decide +kernel
theorem dX6_isAheadUnslighted_71 : decode cX6_isAheadUnslighted 71 = .ok (.goto 23, 3) := by decide +kernel
theorem dX6_isAheadUnslighted_74 : decode cX6_isAheadUnslighted 74 = .ok (.iconst 0, 1) := by decide +kernel
theorem dX6_isAheadUnslighted_75 : decode cX6_isAheadUnslighted 75 = .ok (.goto 19, 3) := by decide +kernel
theorem dX6_isAheadUnslighted_78 : decode cX6_isAheadUnslighted 78 = .ok (.aload_n 0, 1) := by decide +kernel
theorem dX6_isAheadUnslighted_79 : decode cX6_isAheadUnslighted 79 = .ok (.getfield 263, 3) := by decide +kernel
theorem dX6_isAheadUnslighted_82 : decode cX6_isAheadUnslighted 82 = .ok (.aload_n 1, 1) := by decide +kernel
theorem dX6_isAheadUnslighted_83 : decode cX6_isAheadUnslighted 83 = .ok (.getfield 263, 3) := by decide +kernel
theorem dX6_isAheadUnslighted_86 : decode cX6_isAheadUnslighted 86 = .ok (.if_icmp .ge 7, 3) := by decide +kernel
theorem dX6_isAheadUnslighted_89 : decode cX6_isAheadUnslighted 89 = .ok (.iconst 1, 1) := by decide +kernel
theorem dX6_isAheadUnslighted_90 : decode cX6_isAheadUnslighted 90 = .ok (.goto 4, 3) := by decide +kernel
theorem dX6_isAheadUnslighted_93 : decode cX6_isAheadUnslighted 93 = .ok (.iconst 0, 1) := by decide +kernel
theorem dX6_isAheadUnslighted_94 : decode cX6_isAheadUnslighted 94 = .ok (.ireturn, 1) := by decide +kernel
set_option maxRecDepth 20000 in
theorem ggX6_giveOutPitches_X6_against : GoodIn wsX6_giveOutPitches wsX6_against := goodIn_r _ [14, 15, 16, 17, 18, 19, 13, 20, 21, 22, 23, 24, 25, 26, 27, 28, 29, 30, 31, 32, 33, 34, 35, 36, 37, 38, 39, 40, 41, 42, 43, 44, 45, 46, 47, 48, 49, 50, 51, 5, 52, 4, 53, 54, 55, 56, 57, 58, 59, 60, 61, 62, 63, 64, 65, 66, 67, 68, 69, 70, 71, 72, 73, 74, 75, 76, 77, 78, 79, 80, 81, 82, 83, 84, 85, 86, 87, 88, 89, 90, 91, 92, 93, 94, 95, 96, 138, 139, 140, 141, 142, 143, 144, 145, 146, 147, 148, 149, 150, 151, 120, 121, 122, 123, 124, 125, 126, 127, 128, 129, 130, 131, 132, 133, 134, 135, 136, 137, 163, 164, 165, 166, 167, 168, 169, 170, 171, 155, 156, 157, 158, 159, 160, 161, 162, 152, 153, 154] (by decide +kernel) (by decide +kernel)
set_option maxRecDepth 20000 in
theorem gX6_giveOutPitches_X6_against : GoodIn wsX6_giveOutPitches (wsV RX6 199 RX6 yX6_against wsX6_against) := goodIn_app (goodIn_of _ (by decide +kernel)) ggX6_giveOutPitches_X6_against
set_option maxRecDepth 20000 in
theorem ggX6_giveOutPitches_X6_open : GoodIn wsX6_giveOutPitches wsX6_open := goodIn_r _ [100, 5, 101, 102, 103, 104, 105, 13, 106, 15, 52, 50, 51, 107, 96, 16, 17, 18, 19, 20, 21, 108, 109, 110, 25, 111, 46, 33, 34, 35, 36, 27, 112, 113, 114, 115, 116, 117, 118, 119, 54, 55, 56, 138, 139, 140, 141, 142, 143, 144, 145, 146, 147, 148, 149, 150, 151, 120, 121, 122, 123, 124, 125, 126, 127, 128, 129, 130, 131, 132, 133, 134, 135, 136, 137, 155, 156, 157, 158, 159, 160, 161, 162, 166, 167, 168, 169, 170, 171, 163, 164, 165, 152, 153, 154] (by decide +kernel) (by decide +kernel)
set_option maxRecDepth 20000 in
theorem gX6_giveOutPitches_X6_open : GoodIn wsX6_giveOutPitches (wsV RX6 210 RX6 yX6_open wsX6_open) := goodIn_app (goodIn_of _ (by decide +kernel)) ggX6_giveOutPitches_X6_open
theorem dX6_giveOutPitches_0 : decode cX6_giveOutPitches 0 = .ok (.iconst 0, 1) := by decide +kernel
theorem dX6_giveOutPitches_1 : decode cX6_giveOutPitches 1 = .ok (.istore_n 1, 1) := by decide +kernel
theorem dX6_giveOutPitches_2 : decode cX6_giveOutPitches 2 = .ok (.iconst 0, 1) := by decide +kernel
theorem dX6_giveOutPitches_3 : decode cX6_giveOutPitches 3 = .ok (.istore_n 2, 1) := by decide +kernel
theorem dX6_giveOutPitches_4 : decode cX6_giveOutPitches 4 = .ok (.iload_n 2, 1) := by decide +kernel
theorem dX6_giveOutPitches_5 : decode cX6_giveOutPitches 5 = .ok (.aload_n 0, 1) := by decide +kernel
theorem dX6_giveOutPitches_6 : decode cX6_giveOutPitches 6 = .ok (.getfield 100, 3) := by decide +kernel
theorem dX6_giveOutPitches_9 : decode cX6_giveOutPitches 9 = .ok (.if_icmp .ge 94, 3) := by decide +kernel
theorem dX6_giveOutPitches_12 : decode cX6_giveOutPitches 12 = .ok (.aload_n 0, 1) := by decide +kernel
theorem dX6_giveOutPitches_13 : decode cX6_giveOutPitches 13 = .ok (.getfield 27, 3) := by decide +kernel
theorem dX6_giveOutPitches_16 : decode cX6_giveOutPitches 16 = .ok (.iload_n 2, 1) := by decide +kernel
theorem dX6_giveOutPitches_17 : decode cX6_giveOutPitches 17 = .ok (.aaload, 1) := by decide +kernel
theorem dX6_giveOutPitches_18 : decode cX6_giveOutPitches 18 = .ok (.astore_n 3, 1) := by decide +kernel
theorem dX6_giveOutPitches_19 : decode cX6_giveOutPitches 19 = .ok (.aload_n 3, 1) := by decide +kernel
theorem dX6_giveOutPitches_20 : decode cX6_giveOutPitches 20 = .ok (.getfield 120, 3) := by decide +kernel
theorem dX6_giveOutPitches_23 : decode cX6_giveOutPitches 23 = .ok (.getfield 227, 3) := by decide +kernel
theorem dX6_giveOutPitches_26 : decode cX6_giveOutPitches 26 = .ok (.ifCond .eq 71, 3) := by decide +kernel
theorem dX6_giveOutPitches_29 : decode cX6_giveOutPitches 29 = .ok (.aload_n 3, 1) := by decide +kernel
theorem dX6_giveOutPitches_30 : decode cX6_giveOutPitches 30 = .ok (.getfield 168, 3) := by decide +kernel
theorem dX6_giveOutPitches_33 : decode cX6_giveOutPitches 33 = .ok (.getfield 172, 3) := by decide +kernel
theorem dX6_giveOutPitches_36 : decode cX6_giveOutPitches 36 = .ok (.ifCond .ne 6, 3) := by decide +kernel
theorem dX6_giveOutPitches_39 : decode cX6_giveOutPitches 39 = .ok (.goto 58, 3) := by decide +kernel
theorem dX6_giveOutPitches_42 : decode cX6_giveOutPitches 42 = .ok (.aload_n 0, 1) := by decide +kernel
theorem dX6_giveOutPitches_43 : decode cX6_giveOutPitches 43 = .ok (.aload_n 3, 1) := by decide +kernel
theorem dX6_giveOutPitches_44 : decode cX6_giveOutPitches 44 = .ok (.aload_n 3, 1) := by decide +kernel
theorem dX6_giveOutPitches_45 : decode cX6_giveOutPitches 45 = .ok (.getfield 120, 3) := by decide +kernel
theorem dX6_giveOutPitches_48 : decode cX6_giveOutPitches 48 = .ok (.getfield 414, 3) := by decide +kernel
theorem dX6_giveOutPitches_51 : decode cX6_giveOutPitches 51 = .ok (.aload_n 3, 1) := by decide +kernel
theorem dX6_giveOutPitches_52 : decode cX6_giveOutPitches 52 = .ok (.getfield 120, 3) := by decide +kernel
theorem dX6_giveOutPitches_55 : decode cX6_giveOutPitches 55 = .ok (.getfield 417, 3) := by decide +kernel
theorem dX6_giveOutPitches_58 : decode cX6_giveOutPitches 58 = .ok (.invokevirtual 199, 3) := by decide +kernel
theorem dX6_giveOutPitches_61 : decode cX6_giveOutPitches 61 = .ok (.ifCond .ne 28, 3) := by decide +kernel
theorem dX6_giveOutPitches_64 : decode cX6_giveOutPitches 64 = .ok (.aload_n 0, 1) := by decide +kernel
theorem dX6_giveOutPitches_65 : decode cX6_giveOutPitches 65 = .ok (.aload_n 3, 1) := by decide +kernel
theorem dX6_giveOutPitches_66 : decode cX6_giveOutPitches 66 = .ok (.aload_n 3, 1) := by decide +kernel
theorem dX6_giveOutPitches_67 : decode cX6_giveOutPitches 67 = .ok (.getfield 120, 3) := by decide +kernel
theorem dX6_giveOutPitches_70 : decode cX6_giveOutPitches 70 = .ok (.getfield 414, 3) := by decide +kernel
theorem dX6_giveOutPitches_73 : decode cX6_giveOutPitches 73 = .ok (.aload_n 3, 1) := by decide +kernel
theorem dX6_giveOutPitches_74 : decode cX6_giveOutPitches 74 = .ok (.getfield 120, 3) := by decide +kernel
theorem dX6_giveOutPitches_77 : decode cX6_giveOutPitches 77 = .ok (.getfield 417, 3) := by decide +kernel
theorem dX6_giveOutPitches_80 : decode cX6_giveOutPitches 80 = .ok (.invokevirtual 210, 3) := by decide +kernel
theorem dX6_giveOutPitches_83 : decode cX6_giveOutPitches 83 = .ok (.iinc 1 1, 3) := by decide +kernel
theorem dX6_giveOutPitches_86 : decode cX6_giveOutPitches 86 = .ok (.goto 11, 3) := by decide +kernel
theorem dX6_giveOutPitches_89 : decode cX6_giveOutPitches 89 = .ok (.aload_n 3, 1) := by decide +kernel
theorem dX6_giveOutPitches_90 : decode cX6_giveOutPitches 90 = .ok (.getfield 168, 3) := by decide +kernel
theorem dX6_giveOutPitches_93 : decode cX6_giveOutPitches 93 = .ok (.iconst 1, 1) := by decide +kernel
theorem dX6_giveOutPitches_94 : decode cX6_giveOutPitches 94 = .ok (.putfield 273, 3) := by decide +kernel
theorem dX6_giveOutPitches_97 : decode cX6_giveOutPitches 97 = .ok (.iinc 2 1, 3) := by decide +kernel
theorem dX6_giveOutPitches_100 : decode cX6_giveOutPitches 100 = .ok (.goto (-96), 3) := by decide +kernel
theorem dX6_giveOutPitches_103 : decode cX6_giveOutPitches 103 = .ok (.iload_n 1, 1) := by decide +kernel
theorem dX6_giveOutPitches_104 : decode cX6_giveOutPitches 104 = .ok (.ireturn, 1) := by decide +kernel
set_option maxRecDepth 20000 in
theorem ggX6_open_X6_setUp : GoodIn wsX6_open wsX6_setUp := goodIn_r _ [8, 9, 1, 10, 11, 12, 13, 14, 15, 16, 17, 18, 7, 19, 20, 21, 22, 23, 24, 25, 26, 27, 28, 29, 30, 31, 32, 33, 34, 35, 36, 37, 38, 39, 40, 41, 42, 43, 44, 45, 46, 47, 48, 49, 50, 51, 52, 53, 54, 55, 56, 75, 76, 77, 78, 79, 80, 81, 82, 83, 84, 85, 86, 87, 88, 57, 58, 59, 60, 61, 62, 63, 64, 65, 66, 67, 68, 69, 70, 71, 72, 73, 74, 89, 90, 91, 92, 93, 94] (by decide +kernel) (by decide +kernel)
set_option maxRecDepth 20000 in
theorem gX6_open_X6_setUp : GoodIn wsX6_open (wsV RX6 233 RX6 yX6_setUp wsX6_setUp) := goodIn_app (goodIn_of _ (by decide +kernel)) ggX6_open_X6_setUp
theorem dX6_open_0 : decode cX6_open 0 = .ok (.aload_n 1, 1) := by decide +kernel
theorem dX6_open_1 : decode cX6_open 1 = .ok (.getfield 168, 3) := by decide +kernel
theorem dX6_open_4 : decode cX6_open 4 = .ok (.aload_n 0, 1) := by decide +kernel
theorem dX6_open_5 : decode cX6_open 5 = .ok (.getfield 159, 3) := by decide +kernel
theorem dX6_open_8 : decode cX6_open 8 = .ok (.putfield 420, 3) := by decide +kernel
theorem dX6_open_11 : decode cX6_open 11 = .ok (.aload_n 0, 1) := by decide +kernel
theorem dX6_open_12 : decode cX6_open 12 = .ok (.aload_n 1, 1) := by decide +kernel
theorem dX6_open_13 : decode cX6_open 13 = .ok (.iload_n 2, 1) := by decide +kernel
theorem dX6_open_14 : decode cX6_open 14 = .ok (.iload_n 3, 1) := by decide +kernel
theorem dX6_open_15 : decode cX6_open 15 = .ok (.invokevirtual 233, 3) := by decide +kernel
theorem dX6_open_18 : decode cX6_open 18 = .ok (.return_, 1) := by decide +kernel
set_option maxRecDepth 20000 in
theorem ggX6_setUp_X6_rowOrNull : GoodIn wsX6_setUp wsX6_rowOrNull := goodIn_r _ [13, 14, 65, 66, 67, 68, 69, 70, 71, 72, 73, 74, 75, 76, 77, 78, 79, 80, 81, 82] (by decide +kernel) (by decide +kernel)
set_option maxRecDepth 20000 in
theorem gX6_setUp_X6_rowOrNull : GoodIn wsX6_setUp (wsV RX6 299 RX6 yX6_rowOrNull wsX6_rowOrNull) := goodIn_app (goodIn_of _ (by decide +kernel)) ggX6_setUp_X6_rowOrNull
set_option maxRecDepth 20000 in
theorem ggX6_setUp_X0_setHolder : GoodIn wsX6_setUp wsX0_setHolder := goodIn_r _ [19, 20, 21, 22, 23, 18, 24, 25, 83, 84, 85] (by decide +kernel) (by decide +kernel)
set_option maxRecDepth 20000 in
theorem gX6_setUp_X0_setHolder : GoodIn wsX6_setUp (wsV RX6 423 RX0 yX0_setHolder wsX0_setHolder) := goodIn_app (goodIn_of _ (by decide +kernel)) ggX6_setUp_X0_setHolder
set_option maxRecDepth 20000 in
theorem ggX6_setUp_X1_put : GoodIn wsX6_setUp wsX1_put := goodIn_r _ [30, 31, 32, 33, 86, 87, 88] (by decide +kernel) (by decide +kernel)
set_option maxRecDepth 20000 in
theorem gX6_setUp_X1_put : GoodIn wsX6_setUp (wsV RX6 124 RX1 yX1_put wsX1_put) := goodIn_app (goodIn_of _ (by decide +kernel)) ggX6_setUp_X1_put
set_option maxRecDepth 20000 in
theorem ggX6_setUp_X6_oneIf : GoodIn wsX6_setUp wsX6_oneIf := goodIn_r _ [36] (by decide +kernel) (by decide +kernel)
set_option maxRecDepth 20000 in
theorem gX6_setUp_X6_oneIf : GoodIn wsX6_setUp (va_wsS RX6 269 yX6_oneIf wsX6_oneIf) := goodIn_app (goodIn_of _ (by decide +kernel)) ggX6_setUp_X6_oneIf
theorem dX6_setUp_0 : decode cX6_setUp 0 = .ok (.aload_n 0, 1) := by decide +kernel
theorem dX6_setUp_1 : decode cX6_setUp 1 = .ok (.iload_n 2, 1) := by decide +kernel
theorem dX6_setUp_2 : decode cX6_setUp 2 = .ok (.invokevirtual 299, 3) := by decide +kernel
theorem dX6_setUp_5 : decode cX6_setUp 5 = .ok (.astore 4, 2) := by decide +kernel
theorem dX6_setUp_7 : decode cX6_setUp 7 = .ok (.aload 4, 2) := by decide +kernel
theorem dX6_setUp_9 : decode cX6_setUp 9 = .ok (.ifnonnull 4, 3) := by decide +kernel
theorem dX6_setUp_12 : decode cX6_setUp 12 = .ok (.return_, 1) := by decide +kernel
theorem dX6_setUp_13 : decode cX6_setUp 13 = .ok (.aload 4, 2) := by decide +kernel
theorem dX6_setUp_15 : decode cX6_setUp 15 = .ok (.iload_n 3, 1) := by decide +kernel
theorem dX6_setUp_16 : decode cX6_setUp 16 = .ok (.aload_n 1, 1) := by decide +kernel
theorem dX6_setUp_17 : decode cX6_setUp 17 = .ok (.getfield 260, 3) := by decide +kernel
theorem dX6_setUp_20 : decode cX6_setUp 20 = .ok (.aload_n 1, 1) := by decide +kernel
theorem dX6_setUp_21 : decode cX6_setUp 21 = .ok (.invokevirtual 423, 3) := by decide +kernel
theorem dX6_setUp_24 : decode cX6_setUp 24 = .ok (.aload_n 1, 1) := by decide +kernel
theorem dX6_setUp_25 : decode cX6_setUp 25 = .ok (.getfield 168, 3) := by decide +kernel
theorem dX6_setUp_28 : decode cX6_setUp 28 = .ok (.getfield 224, 3) := by decide +kernel
theorem dX6_setUp_31 : decode cX6_setUp 31 = .ok (.iload_n 2, 1) := by decide +kernel
theorem dX6_setUp_32 : decode cX6_setUp 32 = .ok (.iload_n 3, 1) := by decide +kernel
theorem dX6_setUp_33 : decode cX6_setUp 33 = .ok (.invokevirtual 124, 3) := by decide +kernel
theorem dX6_setUp_36 : decode cX6_setUp 36 = .ok (.aload_n 1, 1) := by decide +kernel
theorem dX6_setUp_37 : decode cX6_setUp 37 = .ok (.getfield 255, 3) := by decide +kernel
theorem dX6_setUp_40 : decode cX6_setUp 40 = .ok (.dup, 1) := by decide +kernel
theorem dX6_setUp_41 : decode cX6_setUp 41 = .ok (.getfield 371, 3) := by decide +kernel
theorem dX6_setUp_44 : decode cX6_setUp 44 = .ok (.iconst 1, 1) := by decide +kernel
theorem dX6_setUp_45 : decode cX6_setUp 45 = .ok (.iadd, 1) := by decide +kernel
theorem dX6_setUp_46 : decode cX6_setUp 46 = .ok (.putfield 371, 3) := by decide +kernel
theorem dX6_setUp_49 : decode cX6_setUp 49 = .ok (.aload_n 0, 1) := by decide +kernel
theorem dX6_setUp_50 : decode cX6_setUp 50 = .ok (.dup, 1) := by decide +kernel
theorem dX6_setUp_51 : decode cX6_setUp 51 = .ok (.getfield 314, 3) := by decide +kernel
theorem dX6_setUp_54 : decode cX6_setUp 54 = .ok (.iconst 1, 1) := by decide +kernel
theorem dX6_setUp_55 : decode cX6_setUp 55 = .ok (.iadd, 1) := by decide +kernel
theorem dX6_setUp_56 : decode cX6_setUp 56 = .ok (.putfield 314, 3) := by decide +kernel
theorem dX6_setUp_59 : decode cX6_setUp 59 = .ok (.aload_n 0, 1) := by decide +kernel
theorem dX6_setUp_60 : decode cX6_setUp 60 = .ok (.dup, 1) := by decide +kernel
theorem dX6_setUp_61 : decode cX6_setUp 61 = .ok (.getfield 387, 3) := by decide +kernel
theorem dX6_setUp_64 : decode cX6_setUp 64 = .ok (.aload_n 1, 1) := by decide +kernel
theorem dX6_setUp_65 : decode cX6_setUp 65 = .ok (.getfield 115, 3) := by decide +kernel
theorem dX6_setUp_68 : decode cX6_setUp 68 = .ok (.iconst 4, 1) := by decide +kernel
theorem dX6_setUp_69 : decode cX6_setUp 69 = .ok (.if_icmp .ne 7, 3) := by decide +kernel
theorem dX6_setUp_72 : decode cX6_setUp 72 = .ok (.iconst 1, 1) := by decide +kernel
theorem dX6_setUp_73 : decode cX6_setUp 73 = .ok (.goto 4, 3) := by decide +kernel
theorem dX6_setUp_76 : decode cX6_setUp 76 = .ok (.iconst 0, 1) := by decide +kernel
theorem dX6_setUp_77 : decode cX6_setUp 77 = .ok (.invokestatic 269, 3) := by decide +kernel
theorem dX6_setUp_80 : decode cX6_setUp 80 = .ok (.iadd, 1) := by decide +kernel
theorem dX6_setUp_81 : decode cX6_setUp 81 = .ok (.putfield 387, 3) := by decide +kernel
theorem dX6_setUp_84 : decode cX6_setUp 84 = .ok (.return_, 1) := by decide +kernel
set_option maxRecDepth 20000 in
theorem ggX6_takeDown_X6_rowOrNull : GoodIn wsX6_takeDown wsX6_rowOrNull := goodIn_r _ [15, 16, 68, 69, 70, 71, 72, 73, 74, 75, 76, 77, 78, 79, 80, 81, 82, 83, 84, 85] (by decide +kernel) (by decide +kernel)
set_option maxRecDepth 20000 in
theorem gX6_takeDown_X6_rowOrNull : GoodIn wsX6_takeDown (wsV RX6 299 RX6 yX6_rowOrNull wsX6_rowOrNull) := goodIn_app (goodIn_of _ (by decide +kernel)) ggX6_takeDown_X6_rowOrNull
set_option maxRecDepth 20000 in
theorem ggX6_takeDown_X0_setHolder : GoodIn wsX6_takeDown wsX0_setHolder := goodIn_r _ [21, 22, 23, 24, 25, 20, 26, 27, 86, 87, 88] (by decide +kernel) (by decide +kernel)
set_option maxRecDepth 20000 in
theorem gX6_takeDown_X0_setHolder : GoodIn wsX6_takeDown (wsV RX6 423 RX0 yX0_setHolder wsX0_setHolder) := goodIn_app (goodIn_of _ (by decide +kernel)) ggX6_takeDown_X0_setHolder
set_option maxRecDepth 20000 in
theorem ggX6_takeDown_X1_remove : GoodIn wsX6_takeDown wsX1_remove := goodIn_r _ [32, 33, 59, 60, 61] (by decide +kernel) (by decide +kernel)
set_option maxRecDepth 20000 in
theorem gX6_takeDown_X1_remove : GoodIn wsX6_takeDown (wsV RX6 427 RX1 yX1_remove wsX1_remove) := goodIn_app (goodIn_of _ (by decide +kernel)) ggX6_takeDown_X1_remove
set_option maxRecDepth 20000 in
theorem ggX6_takeDown_X6_oneIf : GoodIn wsX6_takeDown wsX6_oneIf := goodIn_r _ [36] (by decide +kernel) (by decide +kernel)
set_option maxRecDepth 20000 in
theorem gX6_takeDown_X6_oneIf : GoodIn wsX6_takeDown (va_wsS RX6 269 yX6_oneIf wsX6_oneIf) := goodIn_app (goodIn_of _ (by decide +kernel)) ggX6_takeDown_X6_oneIf
theorem dX6_takeDown_0 : decode cX6_takeDown 0 = .ok (.aload_n 0, 1) := by decide +kernel
theorem dX6_takeDown_1 : decode cX6_takeDown 1 = .ok (.aload_n 1, 1) := by decide +kernel
theorem dX6_takeDown_2 : decode cX6_takeDown 2 = .ok (.getfield 168, 3) := by decide +kernel
theorem dX6_takeDown_5 : decode cX6_takeDown 5 = .ok (.getfield 224, 3) := by decide +kernel
theorem dX6_takeDown_8 : decode cX6_takeDown 8 = .ok (.getfield 414, 3) := by decide +kernel
theorem dX6_takeDown_11 : decode cX6_takeDown 11 = .ok (.invokevirtual 299, 3) := by decide +kernel
theorem dX6_takeDown_14 : decode cX6_takeDown 14 = .ok (.astore_n 2, 1) := by decide +kernel
theorem dX6_takeDown_15 : decode cX6_takeDown 15 = .ok (.aload_n 2, 1) := by decide +kernel
theorem dX6_takeDown_16 : decode cX6_takeDown 16 = .ok (.ifnonnull 4, 3) := by decide +kernel
theorem dX6_takeDown_19 : decode cX6_takeDown 19 = .ok (.return_, 1) := by decide +kernel
theorem dX6_takeDown_20 : decode cX6_takeDown 20 = .ok (.aload_n 2, 1) := by decide +kernel
theorem dX6_takeDown_21 : decode cX6_takeDown 21 = .ok (.aload_n 1, 1) := by decide +kernel
theorem dX6_takeDown_22 : decode cX6_takeDown 22 = .ok (.getfield 168, 3) := by decide +kernel
theorem dX6_takeDown_25 : decode cX6_takeDown 25 = .ok (.getfield 224, 3) := by decide +kernel
theorem dX6_takeDown_28 : decode cX6_takeDown 28 = .ok (.getfield 417, 3) := by decide +kernel
theorem dX6_takeDown_31 : decode cX6_takeDown 31 = .ok (.aload_n 1, 1) := by decide +kernel
theorem dX6_takeDown_32 : decode cX6_takeDown 32 = .ok (.getfield 260, 3) := by decide +kernel
theorem dX6_takeDown_35 : decode cX6_takeDown 35 = .ok (.aconst_null, 1) := by decide +kernel
theorem dX6_takeDown_36 : decode cX6_takeDown 36 = .ok (.invokevirtual 423, 3) := by decide +kernel
theorem dX6_takeDown_39 : decode cX6_takeDown 39 = .ok (.aload_n 1, 1) := by decide +kernel
theorem dX6_takeDown_40 : decode cX6_takeDown 40 = .ok (.getfield 168, 3) := by decide +kernel
theorem dX6_takeDown_43 : decode cX6_takeDown 43 = .ok (.getfield 224, 3) := by decide +kernel
theorem dX6_takeDown_46 : decode cX6_takeDown 46 = .ok (.invokevirtual 427, 3) := by decide +kernel
theorem dX6_takeDown_49 : decode cX6_takeDown 49 = .ok (.aload_n 1, 1) := by decide +kernel
theorem dX6_takeDown_50 : decode cX6_takeDown 50 = .ok (.getfield 255, 3) := by decide +kernel
theorem dX6_takeDown_53 : decode cX6_takeDown 53 = .ok (.dup, 1) := by decide +kernel
theorem dX6_takeDown_54 : decode cX6_takeDown 54 = .ok (.getfield 371, 3) := by decide +kernel
theorem dX6_takeDown_57 : decode cX6_takeDown 57 = .ok (.iconst 1, 1) := by decide +kernel
theorem dX6_takeDown_58 : decode cX6_takeDown 58 = .ok (.isub, 1) := by decide +kernel
theorem dX6_takeDown_59 : decode cX6_takeDown 59 = .ok (.putfield 371, 3) := by decide +kernel
theorem dX6_takeDown_62 : decode cX6_takeDown 62 = .ok (.aload_n 0, 1) := by decide +kernel
theorem dX6_takeDown_63 : decode cX6_takeDown 63 = .ok (.dup, 1) := by decide +kernel
theorem dX6_takeDown_64 : decode cX6_takeDown 64 = .ok (.getfield 314, 3) := by decide +kernel
theorem dX6_takeDown_67 : decode cX6_takeDown 67 = .ok (.iconst 1, 1) := by decide +kernel
theorem dX6_takeDown_68 : decode cX6_takeDown 68 = .ok (.isub, 1) := by decide +kernel
theorem dX6_takeDown_69 : decode cX6_takeDown 69 = .ok (.putfield 314, 3) := by decide +kernel
theorem dX6_takeDown_72 : decode cX6_takeDown 72 = .ok (.aload_n 0, 1) := by decide +kernel
theorem dX6_takeDown_73 : decode cX6_takeDown 73 = .ok (.dup, 1) := by decide +kernel
theorem dX6_takeDown_74 : decode cX6_takeDown 74 = .ok (.getfield 387, 3) := by decide +kernel
theorem dX6_takeDown_77 : decode cX6_takeDown 77 = .ok (.aload_n 1, 1) := by decide +kernel
theorem dX6_takeDown_78 : decode cX6_takeDown 78 = .ok (.getfield 115, 3) := by decide +kernel
theorem dX6_takeDown_81 : decode cX6_takeDown 81 = .ok (.iconst 4, 1) := by decide +kernel
theorem dX6_takeDown_82 : decode cX6_takeDown 82 = .ok (.if_icmp .ne 7, 3) := by decide +kernel
theorem dX6_takeDown_85 : decode cX6_takeDown 85 = .ok (.iconst 1, 1) := by decide +kernel
theorem dX6_takeDown_86 : decode cX6_takeDown 86 = .ok (.goto 4, 3) := by decide +kernel
theorem dX6_takeDown_89 : decode cX6_takeDown 89 = .ok (.iconst 0, 1) := by decide +kernel
theorem dX6_takeDown_90 : decode cX6_takeDown 90 = .ok (.invokestatic 269, 3) := by decide +kernel
theorem dX6_takeDown_93 : decode cX6_takeDown 93 = .ok (.isub, 1) := by decide +kernel
theorem dX6_takeDown_94 : decode cX6_takeDown 94 = .ok (.putfield 387, 3) := by decide +kernel
theorem dX6_takeDown_97 : decode cX6_takeDown 97 = .ok (.return_, 1) := by decide +kernel
set_option maxRecDepth 20000 in
theorem ggX6_swapIfBothSuit_X6_takeDown : GoodIn wsX6_swapIfBothSuit wsX6_takeDown := goodIn_r _ [9, 1, 2, 3, 4, 10, 11, 12, 13, 14, 15, 16, 17, 18, 8, 19, 20, 21, 22, 23, 24, 25, 26, 27, 28, 29, 30, 31, 32, 33, 34, 35, 36, 37, 38, 39, 40, 117, 118, 119, 120, 121, 122, 123, 124, 125, 126, 127, 128, 129, 130, 131, 132, 133, 134, 135, 136, 137, 138, 139, 140, 141, 142, 143, 144, 145, 146, 147, 148, 149, 150, 151, 152, 153, 154, 155, 156, 157, 158, 159, 160, 161, 162, 163, 164, 165, 166, 167, 168] (by decide +kernel) (by decide +kernel)
set_option maxRecDepth 20000 in
theorem gX6_swapIfBothSuit_X6_takeDown : GoodIn wsX6_swapIfBothSuit (wsV RX6 230 RX6 yX6_takeDown wsX6_takeDown) := goodIn_app (goodIn_of _ (by decide +kernel)) ggX6_swapIfBothSuit_X6_takeDown
set_option maxRecDepth 20000 in
theorem ggX6_swapIfBothSuit_X6_against : GoodIn wsX6_swapIfBothSuit wsX6_against := goodIn_r _ [44, 10, 15, 16, 17, 18, 8, 19, 20, 45, 46, 47, 24, 48, 31, 49, 50, 51, 52, 53, 27, 28, 29, 30, 54, 55, 56, 57, 58, 59, 60, 61, 62, 26, 63, 64, 65, 11, 12, 1, 2, 66, 67, 38, 39, 40, 68, 69, 70, 71, 72, 73, 74, 75, 76, 77, 78, 79, 80, 81, 82, 83, 84, 85, 86, 87, 88, 89, 90, 91, 92, 93, 94, 95, 96, 97, 98, 99, 100, 101, 102, 103, 104, 105, 106, 14, 117, 118, 119, 120, 121, 122, 123, 124, 125, 126, 127, 128, 129, 130, 148, 149, 150, 151, 152, 153, 154, 155, 156, 157, 158, 159, 160, 161, 162, 163, 164, 165, 166, 167, 168, 142, 143, 144, 145, 146, 147, 131, 132, 133, 134, 135, 136, 137, 138, 139, 140, 141] (by decide +kernel) (by decide +kernel)
set_option maxRecDepth 20000 in
theorem gX6_swapIfBothSuit_X6_against : GoodIn wsX6_swapIfBothSuit (wsV RX6 199 RX6 yX6_against wsX6_against) := goodIn_app (goodIn_of _ (by decide +kernel)) ggX6_swapIfBothSuit_X6_against
set_option maxRecDepth 20000 in
theorem ggX6_swapIfBothSuit_X6_setUp : GoodIn wsX6_swapIfBothSuit wsX6_setUp := goodIn_r _ [110, 10, 1, 2, 11, 12, 13, 14, 15, 16, 17, 18, 8, 19, 20, 21, 22, 23, 24, 25, 26, 27, 28, 29, 30, 31, 111, 112, 113, 35, 114, 37, 115, 116, 38, 39, 40, 117, 118, 119, 120, 121, 122, 123, 124, 125, 126, 127, 128, 129, 130, 131, 132, 133, 134, 135, 136, 137, 138, 142, 143, 144, 145, 146, 147, 148, 149, 150, 151, 152, 153, 154, 155, 156, 157, 158, 159, 160, 161, 162, 163, 164, 165, 166, 167, 168, 139, 140, 141] (by decide +kernel) (by decide +kernel)
set_option maxRecDepth 20000 in
theorem gX6_swapIfBothSuit_X6_setUp : GoodIn wsX6_swapIfBothSuit (wsV RX6 233 RX6 yX6_setUp wsX6_setUp) := goodIn_app (goodIn_of _ (by decide +kernel)) ggX6_swapIfBothSuit_X6_setUp
theorem dX6_swapIfBothSuit_0 : decode cX6_swapIfBothSuit 0 = .ok (.aload_n 1, 1) := by decide +kernel
theorem dX6_swapIfBothSuit_1 : decode cX6_swapIfBothSuit 1 = .ok (.getfield 168, 3) := by decide +kernel
theorem dX6_swapIfBothSuit_4 : decode cX6_swapIfBothSuit 4 = .ok (.getfield 224, 3) := by decide +kernel
theorem dX6_swapIfBothSuit_7 : decode cX6_swapIfBothSuit 7 = .ok (.getfield 414, 3) := by decide +kernel
theorem dX6_swapIfBothSuit_10 : decode cX6_swapIfBothSuit 10 = .ok (.istore_n 3, 1) := by decide +kernel
theorem dX6_swapIfBothSuit_11 : decode cX6_swapIfBothSuit 11 = .ok (.aload_n 1, 1) := by decide +kernel
theorem dX6_swapIfBothSuit_12 : decode cX6_swapIfBothSuit 12 = .ok (.getfield 168, 3) := by decide +kernel
theorem dX6_swapIfBothSuit_15 : decode cX6_swapIfBothSuit 15 = .ok (.getfield 224, 3) := by decide +kernel
theorem dX6_swapIfBothSuit_18 : decode cX6_swapIfBothSuit 18 = .ok (.getfield 417, 3) := by decide +kernel
theorem dX6_swapIfBothSuit_21 : decode cX6_swapIfBothSuit 21 = .ok (.istore 4, 2) := by decide +kernel
theorem dX6_swapIfBothSuit_23 : decode cX6_swapIfBothSuit 23 = .ok (.aload_n 2, 1) := by decide +kernel
theorem dX6_swapIfBothSuit_24 : decode cX6_swapIfBothSuit 24 = .ok (.getfield 168, 3) := by decide +kernel
theorem dX6_swapIfBothSuit_27 : decode cX6_swapIfBothSuit 27 = .ok (.getfield 224, 3) := by decide +kernel
theorem dX6_swapIfBothSuit_30 : decode cX6_swapIfBothSuit 30 = .ok (.getfield 414, 3) := by decide +kernel
theorem dX6_swapIfBothSuit_33 : decode cX6_swapIfBothSuit 33 = .ok (.istore 5, 2) := by decide +kernel
theorem dX6_swapIfBothSuit_35 : decode cX6_swapIfBothSuit 35 = .ok (.aload_n 2, 1) := by decide +kernel
theorem dX6_swapIfBothSuit_36 : decode cX6_swapIfBothSuit 36 = .ok (.getfield 168, 3) := by decide +kernel
theorem dX6_swapIfBothSuit_39 : decode cX6_swapIfBothSuit 39 = .ok (.getfield 224, 3) := by decide +kernel
theorem dX6_swapIfBothSuit_42 : decode cX6_swapIfBothSuit 42 = .ok (.getfield 417, 3) := by decide +kernel
theorem dX6_swapIfBothSuit_45 : decode cX6_swapIfBothSuit 45 = .ok (.istore 6, 2) := by decide +kernel
theorem dX6_swapIfBothSuit_47 : decode cX6_swapIfBothSuit 47 = .ok (.aload_n 0, 1) := by decide +kernel
theorem dX6_swapIfBothSuit_48 : decode cX6_swapIfBothSuit 48 = .ok (.aload_n 1, 1) := by decide +kernel
theorem dX6_swapIfBothSuit_49 : decode cX6_swapIfBothSuit 49 = .ok (.invokevirtual 230, 3) := by decide +kernel
theorem dX6_swapIfBothSuit_52 : decode cX6_swapIfBothSuit 52 = .ok (.aload_n 0, 1) := by decide +kernel
theorem dX6_swapIfBothSuit_53 : decode cX6_swapIfBothSuit 53 = .ok (.aload_n 2, 1) := by decide +kernel
theorem dX6_swapIfBothSuit_54 : decode cX6_swapIfBothSuit 54 = .ok (.invokevirtual 230, 3) := by decide +kernel
theorem dX6_swapIfBothSuit_57 : decode cX6_swapIfBothSuit 57 = .ok (.aload_n 0, 1) := by decide +kernel
theorem dX6_swapIfBothSuit_58 : decode cX6_swapIfBothSuit 58 = .ok (.aload_n 1, 1) := by decide +kernel
theorem dX6_swapIfBothSuit_59 : decode cX6_swapIfBothSuit 59 = .ok (.iload 5, 2) := by decide +kernel
theorem dX6_swapIfBothSuit_61 : decode cX6_swapIfBothSuit 61 = .ok (.iload 6, 2) := by decide +kernel
theorem dX6_swapIfBothSuit_63 : decode cX6_swapIfBothSuit 63 = .ok (.invokevirtual 199, 3) := by decide +kernel
theorem dX6_swapIfBothSuit_66 : decode cX6_swapIfBothSuit 66 = .ok (.ifCond .ne 38, 3) := by decide +kernel
theorem dX6_swapIfBothSuit_69 : decode cX6_swapIfBothSuit 69 = .ok (.aload_n 0, 1) := by decide +kernel
theorem dX6_swapIfBothSuit_70 : decode cX6_swapIfBothSuit 70 = .ok (.aload_n 1, 1) := by decide +kernel
theorem dX6_swapIfBothSuit_71 : decode cX6_swapIfBothSuit 71 = .ok (.iload 5, 2) := by decide +kernel
theorem dX6_swapIfBothSuit_73 : decode cX6_swapIfBothSuit 73 = .ok (.iload 6, 2) := by decide +kernel
theorem dX6_swapIfBothSuit_75 : decode cX6_swapIfBothSuit 75 = .ok (.invokevirtual 233, 3) := by decide +kernel
theorem dX6_swapIfBothSuit_78 : decode cX6_swapIfBothSuit 78 = .ok (.aload_n 0, 1) := by decide +kernel
theorem dX6_swapIfBothSuit_79 : decode cX6_swapIfBothSuit 79 = .ok (.aload_n 2, 1) := by decide +kernel
theorem dX6_swapIfBothSuit_80 : decode cX6_swapIfBothSuit 80 = .ok (.iload_n 3, 1) := by decide +kernel
theorem dX6_swapIfBothSuit_81 : decode cX6_swapIfBothSuit 81 = .ok (.iload 4, 2) := by decide +kernel
theorem dX6_swapIfBothSuit_83 : decode cX6_swapIfBothSuit 83 = .ok (.invokevirtual 199, 3) := by decide +kernel
theorem dX6_swapIfBothSuit_86 : decode cX6_swapIfBothSuit 86 = .ok (.ifCond .ne 13, 3) := by decide +kernel
theorem dX6_swapIfBothSuit_89 : decode cX6_swapIfBothSuit 89 = .ok (.aload_n 0, 1) := by decide +kernel
theorem dX6_swapIfBothSuit_90 : decode cX6_swapIfBothSuit 90 = .ok (.aload_n 2, 1) := by decide +kernel
theorem dX6_swapIfBothSuit_91 : decode cX6_swapIfBothSuit 91 = .ok (.iload_n 3, 1) := by decide +kernel
theorem dX6_swapIfBothSuit_92 : decode cX6_swapIfBothSuit 92 = .ok (.iload 4, 2) := by decide +kernel
theorem dX6_swapIfBothSuit_94 : decode cX6_swapIfBothSuit 94 = .ok (.invokevirtual 233, 3) := by decide +kernel
theorem dX6_swapIfBothSuit_97 : decode cX6_swapIfBothSuit 97 = .ok (.iconst 1, 1) := by decide +kernel
theorem dX6_swapIfBothSuit_98 : decode cX6_swapIfBothSuit 98 = .ok (.ireturn, 1) := by decide +kernel
theorem dX6_swapIfBothSuit_99 : decode cX6_swapIfBothSuit 99 = .ok (.aload_n 0, 1) := by decide +kernel
theorem dX6_swapIfBothSuit_100 : decode cX6_swapIfBothSuit 100 = .ok (.aload_n 1, 1) := by decide +kernel
theorem dX6_swapIfBothSuit_101 : decode cX6_swapIfBothSuit 101 = .ok (.invokevirtual 230, 3) := by decide +kernel
theorem dX6_swapIfBothSuit_104 : decode cX6_swapIfBothSuit 104 = .ok (.aload_n 0, 1) := by decide +kernel
theorem dX6_swapIfBothSuit_105 : decode cX6_swapIfBothSuit 105 = .ok (.aload_n 1, 1) := by decide +kernel
theorem dX6_swapIfBothSuit_106 : decode cX6_swapIfBothSuit 106 = .ok (.iload_n 3, 1) := by decide +kernel
theorem dX6_swapIfBothSuit_107 : decode cX6_swapIfBothSuit 107 = .ok (.iload 4, 2) := by decide +kernel
theorem dX6_swapIfBothSuit_109 : decode cX6_swapIfBothSuit 109 = .ok (.invokevirtual 233, 3) := by decide +kernel
theorem dX6_swapIfBothSuit_112 : decode cX6_swapIfBothSuit 112 = .ok (.aload_n 0, 1) := by decide +kernel
theorem dX6_swapIfBothSuit_113 : decode cX6_swapIfBothSuit 113 = .ok (.aload_n 2, 1) := by decide +kernel
theorem dX6_swapIfBothSuit_114 : decode cX6_swapIfBothSuit 114 = .ok (.iload 5, 2) := by decide +kernel
theorem dX6_swapIfBothSuit_116 : decode cX6_swapIfBothSuit 116 = .ok (.iload 6, 2) := by decide +kernel
theorem dX6_swapIfBothSuit_118 : decode cX6_swapIfBothSuit 118 = .ok (.invokevirtual 233, 3) := by decide +kernel
theorem dX6_swapIfBothSuit_121 : decode cX6_swapIfBothSuit 121 = .ok (.iconst 0, 1) := by decide +kernel
theorem dX6_swapIfBothSuit_122 : decode cX6_swapIfBothSuit 122 = .ok (.ireturn, 1) := by decide +kernel
set_option maxRecDepth 20000 in
theorem ggX6_chargeAndTakeDown_X6_feeOf : GoodIn wsX6_chargeAndTakeDown wsX6_feeOf := goodIn_r _ [7, 8, 9, 10, 11, 12, 13, 14, 15, 16, 17, 18, 54, 55, 56, 57, 58, 59, 60, 61, 62, 63, 64, 65, 66, 67, 68, 69, 70, 71, 72, 73, 74, 75, 76, 77, 78, 79, 80, 81, 82, 83, 84, 85, 86, 87, 88, 89, 90, 91, 92, 93, 94, 95, 96, 97, 98, 99] (by decide +kernel) (by decide +kernel)
set_option maxRecDepth 20000 in
theorem gX6_chargeAndTakeDown_X6_feeOf : GoodIn wsX6_chargeAndTakeDown (wsV RX6 430 RX6 yX6_feeOf wsX6_feeOf) := goodIn_app (goodIn_of _ (by decide +kernel)) ggX6_chargeAndTakeDown_X6_feeOf
set_option maxRecDepth 20000 in
theorem ggX6_chargeAndTakeDown_X6_takeDown : GoodIn wsX6_chargeAndTakeDown wsX6_takeDown := goodIn_r _ [22, 11, 23, 24, 25, 9, 17, 26, 27, 28, 8, 29, 30, 31, 6, 32, 33, 34, 35, 36, 37, 38, 39, 40, 41, 42, 43, 44, 45, 46, 47, 48, 49, 50, 51, 52, 53, 54, 55, 56, 57, 58, 59, 60, 61, 62, 63, 64, 65, 66, 67, 86, 87, 88, 89, 90, 91, 92, 93, 100, 101, 102, 94, 95, 96, 97, 98, 99, 68, 69, 70, 71, 72, 73, 74, 75, 76, 77, 78, 79, 80, 81, 82, 83, 84, 85, 103, 104, 105] (by decide +kernel) (by decide +kernel)
set_option maxRecDepth 20000 in
theorem gX6_chargeAndTakeDown_X6_takeDown : GoodIn wsX6_chargeAndTakeDown (wsV RX6 230 RX6 yX6_takeDown wsX6_takeDown) := goodIn_app (goodIn_of _ (by decide +kernel)) ggX6_chargeAndTakeDown_X6_takeDown
theorem dX6_chargeAndTakeDown_0 : decode cX6_chargeAndTakeDown 0 = .ok (.aload_n 0, 1) := by decide +kernel
theorem dX6_chargeAndTakeDown_1 : decode cX6_chargeAndTakeDown 1 = .ok (.aload_n 1, 1) := by decide +kernel
theorem dX6_chargeAndTakeDown_2 : decode cX6_chargeAndTakeDown 2 = .ok (.invokevirtual 430, 3) := by decide +kernel
theorem dX6_chargeAndTakeDown_5 : decode cX6_chargeAndTakeDown 5 = .ok (.istore_n 2, 1) := by decide +kernel
theorem dX6_chargeAndTakeDown_6 : decode cX6_chargeAndTakeDown 6 = .ok (.aload_n 1, 1) := by decide +kernel
theorem dX6_chargeAndTakeDown_7 : decode cX6_chargeAndTakeDown 7 = .ok (.dup, 1) := by decide +kernel
theorem dX6_chargeAndTakeDown_8 : decode cX6_chargeAndTakeDown 8 = .ok (.getfield 246, 3) := by decide +kernel
theorem dX6_chargeAndTakeDown_11 : decode cX6_chargeAndTakeDown 11 = .ok (.iload_n 2, 1) := by decide +kernel
theorem dX6_chargeAndTakeDown_12 : decode cX6_chargeAndTakeDown 12 = .ok (.i2l, 1) := by decide +kernel
theorem dX6_chargeAndTakeDown_13 : decode cX6_chargeAndTakeDown 13 = .ok (.ladd, 1) := by decide +kernel
theorem dX6_chargeAndTakeDown_14 : decode cX6_chargeAndTakeDown 14 = .ok (.putfield 246, 3) := by decide +kernel
theorem dX6_chargeAndTakeDown_17 : decode cX6_chargeAndTakeDown 17 = .ok (.aload_n 0, 1) := by decide +kernel
theorem dX6_chargeAndTakeDown_18 : decode cX6_chargeAndTakeDown 18 = .ok (.dup, 1) := by decide +kernel
theorem dX6_chargeAndTakeDown_19 : decode cX6_chargeAndTakeDown 19 = .ok (.getfield 317, 3) := by decide +kernel
theorem dX6_chargeAndTakeDown_22 : decode cX6_chargeAndTakeDown 22 = .ok (.iload_n 2, 1) := by decide +kernel
theorem dX6_chargeAndTakeDown_23 : decode cX6_chargeAndTakeDown 23 = .ok (.i2l, 1) := by decide +kernel
theorem dX6_chargeAndTakeDown_24 : decode cX6_chargeAndTakeDown 24 = .ok (.ladd, 1) := by decide +kernel
theorem dX6_chargeAndTakeDown_25 : decode cX6_chargeAndTakeDown 25 = .ok (.putfield 317, 3) := by decide +kernel
theorem dX6_chargeAndTakeDown_28 : decode cX6_chargeAndTakeDown 28 = .ok (.aload_n 0, 1) := by decide +kernel
theorem dX6_chargeAndTakeDown_29 : decode cX6_chargeAndTakeDown 29 = .ok (.aload_n 1, 1) := by decide +kernel
theorem dX6_chargeAndTakeDown_30 : decode cX6_chargeAndTakeDown 30 = .ok (.invokevirtual 230, 3) := by decide +kernel
theorem dX6_chargeAndTakeDown_33 : decode cX6_chargeAndTakeDown 33 = .ok (.iload_n 2, 1) := by decide +kernel
theorem dX6_chargeAndTakeDown_34 : decode cX6_chargeAndTakeDown 34 = .ok (.ireturn, 1) := by decide +kernel
theorem dX6_feeOf_0 : decode cX6_feeOf 0 = .ok (.aload_n 1, 1) := by decide +kernel
theorem dX6_feeOf_1 : decode cX6_feeOf 1 = .ok (.getfield 115, 3) := by decide +kernel
theorem dX6_feeOf_4 : decode cX6_feeOf 4 = .ok (.iconst 4, 1) := by decide +kernel
theorem dX6_feeOf_5 : decode cX6_feeOf 5 = .ok (.if_icmp .ne 5, 3) := by decide +kernel
theorem dX6_feeOf_8 : decode cX6_feeOf 8 = .ok (.iconst 0, 1) := by decide +kernel
theorem dX6_feeOf_9 : decode cX6_feeOf 9 = .ok (.ireturn, 1) := by decide +kernel
theorem dX6_feeOf_10 : decode cX6_feeOf 10 = .ok (.aload_n 1, 1) := by decide +kernel
theorem dX6_feeOf_11 : decode cX6_feeOf 11 = .ok (.getfield 260, 3) := by decide +kernel
theorem dX6_feeOf_14 : decode cX6_feeOf 14 = .ok (.iconst 1, 1) := by decide +kernel
theorem dX6_feeOf_15 : decode cX6_feeOf 15 = .ok (.iadd, 1) := by decide +kernel
theorem dX6_feeOf_16 : decode cX6_feeOf 16 = .ok (.iconst 2, 1) := by decide +kernel
theorem dX6_feeOf_17 : decode cX6_feeOf 17 = .ok (.idiv, 1) := by decide +kernel
theorem dX6_feeOf_18 : decode cX6_feeOf 18 = .ok (.istore_n 2, 1) := by decide +kernel
theorem dX6_feeOf_19 : decode cX6_feeOf 19 = .ok (.aload_n 0, 1) := by decide +kernel
theorem dX6_feeOf_20 : decode cX6_feeOf 20 = .ok (.getfield 159, 3) := by decide +kernel
theorem dX6_feeOf_23 : decode cX6_feeOf 23 = .ok (.aload_n 1, 1) := by decide +kernel
theorem dX6_feeOf_24 : decode cX6_feeOf 24 = .ok (.getfield 168, 3) := by decide +kernel
theorem dX6_feeOf_27 : decode cX6_feeOf 27 = .ok (.getfield 420, 3) := by decide +kernel
theorem dX6_feeOf_30 : decode cX6_feeOf 30 = .ok (.isub, 1) := by decide +kernel
theorem dX6_feeOf_31 : decode cX6_feeOf 31 = .ok (.iconst 1, 1) := by decide +kernel
theorem dX6_feeOf_32 : decode cX6_feeOf 32 = .ok (.invokestatic 433, 3) := by decide +kernel
theorem dX6_feeOf_35 : decode cX6_feeOf 35 = .ok (.istore_n 3, 1) := by decide +kernel
theorem dX6_feeOf_36 : decode cX6_feeOf 36 = .ok (.iload_n 2, 1) := by decide +kernel
theorem dX6_feeOf_37 : decode cX6_feeOf 37 = .ok (.iload_n 3, 1) := by decide +kernel
theorem dX6_feeOf_38 : decode cX6_feeOf 38 = .ok (.imul, 1) := by decide +kernel
theorem dX6_feeOf_39 : decode cX6_feeOf 39 = .ok (.aload_n 1, 1) := by decide +kernel
theorem dX6_feeOf_40 : decode cX6_feeOf 40 = .ok (.getfield 255, 3) := by decide +kernel
theorem dX6_feeOf_43 : decode cX6_feeOf 43 = .ok (.getfield 438, 3) := by decide +kernel
theorem dX6_feeOf_46 : decode cX6_feeOf 46 = .ok (.imul, 1) := by decide +kernel
theorem dX6_feeOf_47 : decode cX6_feeOf 47 = .ok (.ireturn, 1) := by decide +kernel
set_option maxRecDepth 20000 in
theorem ggX6_writeUpDay_X6_chargeAndTakeDown : GoodIn wsX6_writeUpDay wsX6_chargeAndTakeDown := goodIn_r _ [16, 17, 18, 19, 20, 21, 15, 22, 23, 24, 25, 1, 26, 27, 28, 29, 30, 31, 32, 33, 34, 35, 36, 2, 37, 38, 39, 40, 41, 42, 43, 44, 45, 46, 47, 48, 49, 50, 51, 52, 53, 54, 55, 56, 57, 58, 59, 60, 61, 62, 63, 64, 65, 66, 84, 85, 86, 87, 88, 89, 90, 91, 92, 93, 94, 95, 96, 97, 109, 110, 111, 112, 113, 114, 115, 116, 117, 118, 119, 120, 121, 122, 123, 124, 125, 126, 98, 99, 100, 101, 102, 103, 104, 105, 127, 128, 129, 130, 131, 132, 106, 107, 108, 133, 134, 135] (by decide +kernel) (by decide +kernel)
set_option maxRecDepth 20000 in
theorem gX6_writeUpDay_X6_chargeAndTakeDown : GoodIn wsX6_writeUpDay (wsV RX6 243 RX6 yX6_chargeAndTakeDown wsX6_chargeAndTakeDown) := goodIn_app (goodIn_of _ (by decide +kernel)) ggX6_writeUpDay_X6_chargeAndTakeDown
set_option maxRecDepth 20000 in
theorem ggX6_writeUpDay_X6_oneIf : GoodIn wsX6_writeUpDay wsX6_oneIf := goodIn_r _ [66] (by decide +kernel) (by decide +kernel)
set_option maxRecDepth 20000 in
theorem gX6_writeUpDay_X6_oneIf : GoodIn wsX6_writeUpDay (va_wsS RX6 269 yX6_oneIf wsX6_oneIf) := goodIn_app (goodIn_of _ (by decide +kernel)) ggX6_writeUpDay_X6_oneIf
set_option maxRecDepth 20000 in
theorem ggX6_writeUpDay_X6_couldStand : GoodIn wsX6_writeUpDay wsX6_couldStand := goodIn_r _ [70, 71, 3, 37, 72, 73, 74, 75, 15, 76, 23, 77, 78, 79, 80, 81, 82, 83, 42, 43, 44, 45, 46, 84, 85, 86, 87, 88, 89, 90, 91, 92, 93, 94, 95, 96, 97, 106, 107, 108, 133, 134, 135, 109, 110, 111, 112, 113, 114, 115, 116, 117, 118, 119, 120, 121, 122, 123, 124, 125, 126] (by decide +kernel) (by decide +kernel)
set_option maxRecDepth 20000 in
theorem gX6_writeUpDay_X6_couldStand : GoodIn wsX6_writeUpDay (wsV RX6 441 RX6 yX6_couldStand wsX6_couldStand) := goodIn_app (goodIn_of _ (by decide +kernel)) ggX6_writeUpDay_X6_couldStand
theorem dX6_writeUpDay_0 : decode cX6_writeUpDay 0 = .ok (.aload_n 1, 1) := by decide +kernel
theorem dX6_writeUpDay_1 : decode cX6_writeUpDay 1 = .ok (.getfield 168, 3) := by decide +kernel
theorem dX6_writeUpDay_4 : decode cX6_writeUpDay 4 = .ok (.astore_n 2, 1) := by decide +kernel
theorem dX6_writeUpDay_5 : decode cX6_writeUpDay 5 = .ok (.aload_n 2, 1) := by decide +kernel
theorem dX6_writeUpDay_6 : decode cX6_writeUpDay 6 = .ok (.getfield 224, 3) := by decide +kernel
theorem dX6_writeUpDay_9 : decode cX6_writeUpDay 9 = .ok (.getfield 227, 3) := by decide +kernel
theorem dX6_writeUpDay_12 : decode cX6_writeUpDay 12 = .ok (.ifCond .ne 10, 3) := by decide +kernel
theorem dX6_writeUpDay_15 : decode cX6_writeUpDay 15 = .ok (.aload_n 2, 1) := by decide +kernel
theorem dX6_writeUpDay_16 : decode cX6_writeUpDay 16 = .ok (.getfield 240, 3) := by decide +kernel
theorem dX6_writeUpDay_19 : decode cX6_writeUpDay 19 = .ok (.ifCond .eq 13, 3) := by decide +kernel
theorem dX6_writeUpDay_22 : decode cX6_writeUpDay 22 = .ok (.aload_n 1, 1) := by decide +kernel
theorem dX6_writeUpDay_23 : decode cX6_writeUpDay 23 = .ok (.aload_n 0, 1) := by decide +kernel
theorem dX6_writeUpDay_24 : decode cX6_writeUpDay 24 = .ok (.getfield 165, 3) := by decide +kernel
theorem dX6_writeUpDay_27 : decode cX6_writeUpDay 27 = .ok (.iconst 1, 1) := by decide +kernel
theorem dX6_writeUpDay_28 : decode cX6_writeUpDay 28 = .ok (.isub, 1) := by decide +kernel
theorem dX6_writeUpDay_29 : decode cX6_writeUpDay 29 = .ok (.putfield 285, 3) := by decide +kernel
theorem dX6_writeUpDay_32 : decode cX6_writeUpDay 32 = .ok (.aload_n 2, 1) := by decide +kernel
theorem dX6_writeUpDay_33 : decode cX6_writeUpDay 33 = .ok (.getfield 224, 3) := by decide +kernel
theorem dX6_writeUpDay_36 : decode cX6_writeUpDay 36 = .ok (.getfield 227, 3) := by decide +kernel
theorem dX6_writeUpDay_39 : decode cX6_writeUpDay 39 = .ok (.ifCond .eq 9, 3) := by decide +kernel
theorem dX6_writeUpDay_42 : decode cX6_writeUpDay 42 = .ok (.aload_n 0, 1) := by decide +kernel
theorem dX6_writeUpDay_43 : decode cX6_writeUpDay 43 = .ok (.aload_n 1, 1) := by decide +kernel
theorem dX6_writeUpDay_44 : decode cX6_writeUpDay 44 = .ok (.invokevirtual 243, 3) := by decide +kernel
theorem dX6_writeUpDay_47 : decode cX6_writeUpDay 47 = .ok (.pop, 1) := by decide +kernel
theorem dX6_writeUpDay_48 : decode cX6_writeUpDay 48 = .ok (.aload_n 1, 1) := by decide +kernel
theorem dX6_writeUpDay_49 : decode cX6_writeUpDay 49 = .ok (.aload_n 1, 1) := by decide +kernel
theorem dX6_writeUpDay_50 : decode cX6_writeUpDay 50 = .ok (.getfield 276, 3) := by decide +kernel
theorem dX6_writeUpDay_53 : decode cX6_writeUpDay 53 = .ok (.iconst 1, 1) := by decide +kernel
theorem dX6_writeUpDay_54 : decode cX6_writeUpDay 54 = .ok (.ishl, 1) := by decide +kernel
theorem dX6_writeUpDay_55 : decode cX6_writeUpDay 55 = .ok (.aload_n 2, 1) := by decide +kernel
theorem dX6_writeUpDay_56 : decode cX6_writeUpDay 56 = .ok (.getfield 172, 3) := by decide +kernel
theorem dX6_writeUpDay_59 : decode cX6_writeUpDay 59 = .ok (.invokestatic 269, 3) := by decide +kernel
theorem dX6_writeUpDay_62 : decode cX6_writeUpDay 62 = .ok (.ior, 1) := by decide +kernel
theorem dX6_writeUpDay_63 : decode cX6_writeUpDay 63 = .ok (.sipush 255, 3) := by decide +kernel
theorem dX6_writeUpDay_66 : decode cX6_writeUpDay 66 = .ok (.iand, 1) := by decide +kernel
theorem dX6_writeUpDay_67 : decode cX6_writeUpDay 67 = .ok (.putfield 276, 3) := by decide +kernel
theorem dX6_writeUpDay_70 : decode cX6_writeUpDay 70 = .ok (.aload_n 0, 1) := by decide +kernel
theorem dX6_writeUpDay_71 : decode cX6_writeUpDay 71 = .ok (.aload_n 1, 1) := by decide +kernel
theorem dX6_writeUpDay_72 : decode cX6_writeUpDay 72 = .ok (.invokevirtual 441, 3) := by decide +kernel
theorem dX6_writeUpDay_75 : decode cX6_writeUpDay 75 = .ok (.ifCond .eq 48, 3) := by decide +kernel
theorem dX6_writeUpDay_78 : decode cX6_writeUpDay 78 = .ok (.aload_n 2, 1) := by decide +kernel
theorem dX6_writeUpDay_79 : decode cX6_writeUpDay 79 = .ok (.aload_n 2, 1) := by decide +kernel
theorem dX6_writeUpDay_80 : decode cX6_writeUpDay 80 = .ok (.getfield 172, 3) := by decide +kernel
theorem dX6_writeUpDay_83 : decode cX6_writeUpDay 83 = .ok (.ifCond .ne 14, 3) := by decide +kernel
theorem dX6_writeUpDay_86 : decode cX6_writeUpDay 86 = .ok (.aload_n 2, 1) := by decide +kernel
theorem dX6_writeUpDay_87 : decode cX6_writeUpDay 87 = .ok (.getfield 177, 3) := by decide +kernel
theorem dX6_writeUpDay_90 : decode cX6_writeUpDay 90 = .ok (.ifCond .ne 7, 3) := by decide +kernel
theorem dX6_writeUpDay_93 : decode cX6_writeUpDay 93 = .ok (.iconst 1, 1) := by decide +kernel
theorem dX6_writeUpDay_94 : decode cX6_writeUpDay 94 = .ok (.goto 4, 3) := by decide +kernel
theorem dX6_writeUpDay_97 : decode cX6_writeUpDay 97 = .ok (.iconst 0, 1) := by decide +kernel
theorem dX6_writeUpDay_98 : decode cX6_writeUpDay 98 = .ok (.putfield 444, 3) := by decide +kernel
theorem dX6_writeUpDay_101 : decode cX6_writeUpDay 101 = .ok (.aload_n 1, 1) := by decide +kernel
theorem dX6_writeUpDay_102 : decode cX6_writeUpDay 102 = .ok (.aload_n 1, 1) := by decide +kernel
theorem dX6_writeUpDay_103 : decode cX6_writeUpDay 103 = .ok (.getfield 288, 3) := by decide +kernel
theorem dX6_writeUpDay_106 : decode cX6_writeUpDay 106 = .ok (.iconst 1, 1) := by decide +kernel
theorem dX6_writeUpDay_107 : decode cX6_writeUpDay 107 = .ok (.ishl, 1) := by decide +kernel
theorem dX6_writeUpDay_108 : decode cX6_writeUpDay 108 = .ok (.aload_n 2, 1) := by decide +kernel
theorem dX6_writeUpDay_109 : decode cX6_writeUpDay 109 = .ok (.getfield 444, 3) := by decide +kernel
theorem dX6_writeUpDay_112 : decode cX6_writeUpDay 112 = .ok (.invokestatic 269, 3) := by decide +kernel
theorem dX6_writeUpDay_115 : decode cX6_writeUpDay 115 = .ok (.ior, 1) := by decide +kernel
theorem dX6_writeUpDay_116 : decode cX6_writeUpDay 116 = .ok (.sipush 255, 3) := by decide +kernel
theorem dX6_writeUpDay_119 : decode cX6_writeUpDay 119 = .ok (.iand, 1) := by decide +kernel
theorem dX6_writeUpDay_120 : decode cX6_writeUpDay 120 = .ok (.putfield 288, 3) := by decide +kernel
theorem dX6_writeUpDay_123 : decode cX6_writeUpDay 123 = .ok (.return_, 1) := by decide +kernel
set_option maxRecDepth 20000 in
theorem ggX6_couldStand_X6_isOutOfMonth : GoodIn wsX6_couldStand wsX6_isOutOfMonth := goodIn_r _ [9, 10, 11, 12, 13, 14, 15, 16, 17, 23, 24, 25, 26, 27, 28, 29, 30, 31, 32, 33, 34, 35, 36, 43, 44, 45, 46, 47, 48, 49, 50, 51, 52, 53, 54, 55, 56, 57, 58, 59, 60] (by decide +kernel) (by decide +kernel)
set_option maxRecDepth 20000 in
theorem gX6_couldStand_X6_isOutOfMonth : GoodIn wsX6_couldStand (wsV RX6 365 RX6 yX6_isOutOfMonth wsX6_isOutOfMonth) := goodIn_app (goodIn_of _ (by decide +kernel)) ggX6_couldStand_X6_isOutOfMonth
set_option maxRecDepth 20000 in
theorem ggX6_couldStand_X6_rowOrNull : GoodIn wsX6_couldStand wsX6_rowOrNull := goodIn_r _ [21, 22, 43, 44, 45, 46, 47, 48, 49, 50, 51, 52, 53, 54, 55, 56, 57, 58, 59, 60] (by decide +kernel) (by decide +kernel)
set_option maxRecDepth 20000 in
theorem gX6_couldStand_X6_rowOrNull : GoodIn wsX6_couldStand (wsV RX6 299 RX6 yX6_rowOrNull wsX6_rowOrNull) := goodIn_app (goodIn_of _ (by decide +kernel)) ggX6_couldStand_X6_rowOrNull
theorem dX6_couldStand_0 : decode cX6_couldStand 0 = .ok (.aload_n 1, 1) := by decide +kernel
theorem dX6_couldStand_1 : decode cX6_couldStand 1 = .ok (.getfield 120, 3) := by decide +kernel
theorem dX6_couldStand_4 : decode cX6_couldStand 4 = .ok (.getfield 227, 3) := by decide +kernel
theorem dX6_couldStand_7 : decode cX6_couldStand 7 = .ok (.ifCond .eq 11, 3) := by decide +kernel
theorem dX6_couldStand_10 : decode cX6_couldStand 10 = .ok (.aload_n 0, 1) := by decide +kernel
theorem dX6_couldStand_11 : decode cX6_couldStand 11 = .ok (.aload_n 1, 1) := by decide +kernel
theorem dX6_couldStand_12 : decode cX6_couldStand 12 = .ok (.invokevirtual 365, 3) := by decide +kernel
theorem dX6_couldStand_15 : decode cX6_couldStand 15 = .ok (.ifCond .eq 5, 3) := by decide +kernel
theorem dX6_couldStand_18 : decode cX6_couldStand 18 = .ok (.iconst 0, 1) := by decide +kernel
theorem dX6_couldStand_19 : decode cX6_couldStand 19 = .ok (.ireturn, 1) := by decide +kernel
theorem dX6_couldStand_20 : decode cX6_couldStand 20 = .ok (.aload_n 0, 1) := by decide +kernel
theorem dX6_couldStand_21 : decode cX6_couldStand 21 = .ok (.aload_n 1, 1) := by decide +kernel
theorem dX6_couldStand_22 : decode cX6_couldStand 22 = .ok (.getfield 120, 3) := by decide +kernel
theorem dX6_couldStand_25 : decode cX6_couldStand 25 = .ok (.getfield 414, 3) := by decide +kernel
theorem dX6_couldStand_28 : decode cX6_couldStand 28 = .ok (.invokevirtual 299, 3) := by decide +kernel
theorem dX6_couldStand_31 : decode cX6_couldStand 31 = .ok (.astore_n 2, 1) := by decide +kernel
theorem dX6_couldStand_32 : decode cX6_couldStand 32 = .ok (.aload_n 2, 1) := by decide +kernel
theorem dX6_couldStand_33 : decode cX6_couldStand 33 = .ok (.ifnull 14, 3) := by decide +kernel
theorem dX6_couldStand_36 : decode cX6_couldStand 36 = .ok (.aload_n 2, 1) := by decide +kernel
theorem dX6_couldStand_37 : decode cX6_couldStand 37 = .ok (.getfield 305, 3) := by decide +kernel
theorem dX6_couldStand_40 : decode cX6_couldStand 40 = .ok (.ifCond .le 7, 3) := by decide +kernel
theorem dX6_couldStand_43 : decode cX6_couldStand 43 = .ok (.iconst 1, 1) := by decide +kernel
theorem dX6_couldStand_44 : decode cX6_couldStand 44 = .ok (.goto 4, 3) := by decide +kernel
theorem dX6_couldStand_47 : decode cX6_couldStand 47 = .ok (.iconst 0, 1) := by decide +kernel
theorem dX6_couldStand_48 : decode cX6_couldStand 48 = .ok (.ireturn, 1) := by decide +kernel
set_option maxRecDepth 20000 in
theorem ggX6_lineUpLosers_J6_bitCount_0f7a4 : GoodIn wsX6_lineUpLosers wsJ6_bitCount_0f7a4 := goodIn_r _ [10, 11, 12, 13] (by decide +kernel) (by decide +kernel)
set_option maxRecDepth 20000 in
theorem gX6_lineUpLosers_J6_bitCount_0f7a4 : GoodIn wsX6_lineUpLosers (va_wsS RX6 279 yJ6_bitCount_0f7a4 wsJ6_bitCount_0f7a4) := goodIn_app (goodIn_of _ (by decide +kernel)) ggX6_lineUpLosers_J6_bitCount_0f7a4
theorem dX6_lineUpLosers_0 : decode cX6_lineUpLosers 0 = .ok (.iconst 0, 1) := by decide +kernel
theorem dX6_lineUpLosers_1 : decode cX6_lineUpLosers 1 = .ok (.istore_n 1, 1) := by decide +kernel
theorem dX6_lineUpLosers_2 : decode cX6_lineUpLosers 2 = .ok (.iconst 0, 1) := by decide +kernel
theorem dX6_lineUpLosers_3 : decode cX6_lineUpLosers 3 = .ok (.istore_n 2, 1) := by decide +kernel
theorem dX6_lineUpLosers_4 : decode cX6_lineUpLosers 4 = .ok (.iload_n 2, 1) := by decide +kernel
theorem dX6_lineUpLosers_5 : decode cX6_lineUpLosers 5 = .ok (.aload_n 0, 1) := by decide +kernel
theorem dX6_lineUpLosers_6 : decode cX6_lineUpLosers 6 = .ok (.getfield 100, 3) := by decide +kernel
theorem dX6_lineUpLosers_9 : decode cX6_lineUpLosers 9 = .ok (.if_icmp .ge 47, 3) := by decide +kernel
theorem dX6_lineUpLosers_12 : decode cX6_lineUpLosers 12 = .ok (.aload_n 0, 1) := by decide +kernel
theorem dX6_lineUpLosers_13 : decode cX6_lineUpLosers 13 = .ok (.getfield 27, 3) := by decide +kernel
theorem dX6_lineUpLosers_16 : decode cX6_lineUpLosers 16 = .ok (.iload_n 2, 1) := by decide +kernel
theorem dX6_lineUpLosers_17 : decode cX6_lineUpLosers 17 = .ok (.aaload, 1) := by decide +kernel
theorem dX6_lineUpLosers_18 : decode cX6_lineUpLosers 18 = .ok (.astore_n 3, 1) := by decide +kernel
theorem dX6_lineUpLosers_19 : decode cX6_lineUpLosers 19 = .ok (.aload_n 3, 1) := by decide +kernel
theorem dX6_lineUpLosers_20 : decode cX6_lineUpLosers 20 = .ok (.getfield 168, 3) := by decide +kernel
theorem dX6_lineUpLosers_23 : decode cX6_lineUpLosers 23 = .ok (.getfield 444, 3) := by decide +kernel
theorem dX6_lineUpLosers_26 : decode cX6_lineUpLosers 26 = .ok (.ifCond .eq 24, 3) := by decide +kernel
theorem dX6_lineUpLosers_29 : decode cX6_lineUpLosers 29 = .ok (.aload_n 3, 1) := by decide +kernel
theorem dX6_lineUpLosers_30 : decode cX6_lineUpLosers 30 = .ok (.getfield 288, 3) := by decide +kernel
theorem dX6_lineUpLosers_33 : decode cX6_lineUpLosers 33 = .ok (.invokestatic 279, 3) := by decide +kernel
theorem dX6_lineUpLosers_36 : decode cX6_lineUpLosers 36 = .ok (.iconst 3, 1) := by decide +kernel
theorem dX6_lineUpLosers_37 : decode cX6_lineUpLosers 37 = .ok (.if_icmp .lt 13, 3) := by decide +kernel
theorem dX6_lineUpLosers_40 : decode cX6_lineUpLosers 40 = .ok (.aload_n 0, 1) := by decide +kernel
theorem dX6_lineUpLosers_41 : decode cX6_lineUpLosers 41 = .ok (.getfield 30, 3) := by decide +kernel
theorem dX6_lineUpLosers_44 : decode cX6_lineUpLosers 44 = .ok (.iload_n 1, 1) := by decide +kernel
theorem dX6_lineUpLosers_45 : decode cX6_lineUpLosers 45 = .ok (.aload_n 3, 1) := by decide +kernel
theorem dX6_lineUpLosers_46 : decode cX6_lineUpLosers 46 = .ok (.aastore, 1) := by decide +kernel
theorem dX6_lineUpLosers_47 : decode cX6_lineUpLosers 47 = .ok (.iinc 1 1, 3) := by decide +kernel
theorem dX6_lineUpLosers_50 : decode cX6_lineUpLosers 50 = .ok (.iinc 2 1, 3) := by decide +kernel
theorem dX6_lineUpLosers_53 : decode cX6_lineUpLosers 53 = .ok (.goto (-49), 3) := by decide +kernel
theorem dX6_lineUpLosers_56 : decode cX6_lineUpLosers 56 = .ok (.iload_n 1, 1) := by decide +kernel
theorem dX6_lineUpLosers_57 : decode cX6_lineUpLosers 57 = .ok (.ireturn, 1) := by decide +kernel
set_option maxRecDepth 20000 in
theorem ggX6_losePitch_X1_remove : GoodIn wsX6_losePitch wsX1_remove := goodIn_r _ [13, 14, 70, 71, 72] (by decide +kernel) (by decide +kernel)
set_option maxRecDepth 20000 in
theorem gX6_losePitch_X1_remove : GoodIn wsX6_losePitch (wsV RX6 427 RX1 yX1_remove wsX1_remove) := goodIn_app (goodIn_of _ (by decide +kernel)) ggX6_losePitch_X1_remove
set_option maxRecDepth 20000 in
theorem ggX6_losePitch_X6_firstHeir : GoodIn wsX6_losePitch wsX6_firstHeir := goodIn_r _ [19, 20, 21, 7, 22, 1, 23, 6, 24, 25, 18, 26, 27, 28, 29, 30, 31, 32, 33, 34, 35, 36, 37, 38, 39, 40, 41, 42, 43, 73, 74, 75, 76, 77, 78, 79, 80, 81, 82, 83, 84, 85, 86, 87, 88, 89, 90, 56, 57, 58, 59, 60, 61, 62, 63, 64, 65, 66, 67, 68, 69, 70, 71, 72] (by decide +kernel) (by decide +kernel)
set_option maxRecDepth 20000 in
theorem gX6_losePitch_X6_firstHeir : GoodIn wsX6_losePitch (wsV RX6 447 RX6 yX6_firstHeir wsX6_firstHeir) := goodIn_app (goodIn_of _ (by decide +kernel)) ggX6_losePitch_X6_firstHeir
set_option maxRecDepth 20000 in
theorem ggX6_losePitch_X1_put : GoodIn wsX6_losePitch wsX1_put := goodIn_r _ [47, 14, 48, 49, 70, 71, 72] (by decide +kernel) (by decide +kernel)
set_option maxRecDepth 20000 in
theorem gX6_losePitch_X1_put : GoodIn wsX6_losePitch (wsV RX6 124 RX1 yX1_put wsX1_put) := goodIn_app (goodIn_of _ (by decide +kernel)) ggX6_losePitch_X1_put
set_option maxRecDepth 20000 in
theorem ggX6_losePitch_X6_rankLast : GoodIn wsX6_losePitch wsX6_rankLast := goodIn_r _ [53, 20, 54, 55, 29, 73, 74, 75, 76, 77, 78, 79, 80, 81, 82, 83, 84, 85, 86, 87, 88, 89, 90, 56, 57, 58, 59, 60, 61, 62, 63, 64, 65, 66, 67, 68, 69] (by decide +kernel) (by decide +kernel)
set_option maxRecDepth 20000 in
theorem gX6_losePitch_X6_rankLast : GoodIn wsX6_losePitch (wsV RX6 450 RX6 yX6_rankLast wsX6_rankLast) := goodIn_app (goodIn_of _ (by decide +kernel)) ggX6_losePitch_X6_rankLast
theorem dX6_losePitch_0 : decode cX6_losePitch 0 = .ok (.aload_n 1, 1) := by decide +kernel
theorem dX6_losePitch_1 : decode cX6_losePitch 1 = .ok (.getfield 120, 3) := by decide +kernel
theorem dX6_losePitch_4 : decode cX6_losePitch 4 = .ok (.getfield 414, 3) := by decide +kernel
theorem dX6_losePitch_7 : decode cX6_losePitch 7 = .ok (.istore_n 2, 1) := by decide +kernel
theorem dX6_losePitch_8 : decode cX6_losePitch 8 = .ok (.aload_n 1, 1) := by decide +kernel
theorem dX6_losePitch_9 : decode cX6_losePitch 9 = .ok (.getfield 120, 3) := by decide +kernel
theorem dX6_losePitch_12 : decode cX6_losePitch 12 = .ok (.getfield 417, 3) := by decide +kernel
theorem dX6_losePitch_15 : decode cX6_losePitch 15 = .ok (.istore_n 3, 1) := by decide +kernel
theorem dX6_losePitch_16 : decode cX6_losePitch 16 = .ok (.aload_n 1, 1) := by decide +kernel
theorem dX6_losePitch_17 : decode cX6_losePitch 17 = .ok (.getfield 120, 3) := by decide +kernel
theorem dX6_losePitch_20 : decode cX6_losePitch 20 = .ok (.invokevirtual 427, 3) := by decide +kernel
theorem dX6_losePitch_23 : decode cX6_losePitch 23 = .ok (.aload_n 1, 1) := by decide +kernel
theorem dX6_losePitch_24 : decode cX6_losePitch 24 = .ok (.iconst 0, 1) := by decide +kernel
theorem dX6_losePitch_25 : decode cX6_losePitch 25 = .ok (.putfield 288, 3) := by decide +kernel
theorem dX6_losePitch_28 : decode cX6_losePitch 28 = .ok (.aload_n 0, 1) := by decide +kernel
theorem dX6_losePitch_29 : decode cX6_losePitch 29 = .ok (.dup, 1) := by decide +kernel
theorem dX6_losePitch_30 : decode cX6_losePitch 30 = .ok (.getfield 320, 3) := by decide +kernel
theorem dX6_losePitch_33 : decode cX6_losePitch 33 = .ok (.lconst 1, 1) := by decide +kernel
theorem dX6_losePitch_34 : decode cX6_losePitch 34 = .ok (.ladd, 1) := by decide +kernel
theorem dX6_losePitch_35 : decode cX6_losePitch 35 = .ok (.putfield 320, 3) := by decide +kernel
theorem dX6_losePitch_38 : decode cX6_losePitch 38 = .ok (.aload_n 0, 1) := by decide +kernel
theorem dX6_losePitch_39 : decode cX6_losePitch 39 = .ok (.aload_n 1, 1) := by decide +kernel
theorem dX6_losePitch_40 : decode cX6_losePitch 40 = .ok (.getfield 260, 3) := by decide +kernel
theorem dX6_losePitch_43 : decode cX6_losePitch 43 = .ok (.invokevirtual 447, 3) := by decide +kernel
theorem dX6_losePitch_46 : decode cX6_losePitch 46 = .ok (.astore 4, 2) := by decide +kernel
theorem dX6_losePitch_48 : decode cX6_losePitch 48 = .ok (.aload 4, 2) := by decide +kernel
theorem dX6_losePitch_50 : decode cX6_losePitch 50 = .ok (.ifnull 35, 3) := by decide +kernel
theorem dX6_losePitch_53 : decode cX6_losePitch 53 = .ok (.aload 4, 2) := by decide +kernel
theorem dX6_losePitch_55 : decode cX6_losePitch 55 = .ok (.iconst 0, 1) := by decide +kernel
theorem dX6_losePitch_56 : decode cX6_losePitch 56 = .ok (.putfield 115, 3) := by decide +kernel
theorem dX6_losePitch_59 : decode cX6_losePitch 59 = .ok (.aload 4, 2) := by decide +kernel
theorem dX6_losePitch_61 : decode cX6_losePitch 61 = .ok (.getfield 120, 3) := by decide +kernel
theorem dX6_losePitch_64 : decode cX6_losePitch 64 = .ok (.iload_n 2, 1) := by decide +kernel
theorem dX6_losePitch_65 : decode cX6_losePitch 65 = .ok (.iload_n 3, 1) := by decide +kernel
theorem dX6_losePitch_66 : decode cX6_losePitch 66 = .ok (.invokevirtual 124, 3) := by decide +kernel
theorem dX6_losePitch_69 : decode cX6_losePitch 69 = .ok (.aload_n 0, 1) := by decide +kernel
theorem dX6_losePitch_70 : decode cX6_losePitch 70 = .ok (.aload 4, 2) := by decide +kernel
theorem dX6_losePitch_72 : decode cX6_losePitch 72 = .ok (.invokevirtual 450, 3) := by decide +kernel
theorem dX6_losePitch_75 : decode cX6_losePitch 75 = .ok (.aload_n 0, 1) := by decide +kernel
theorem dX6_losePitch_76 : decode cX6_losePitch 76 = .ok (.dup, 1) := by decide +kernel
theorem dX6_losePitch_77 : decode cX6_losePitch 77 = .ok (.getfield 323, 3) := by decide +kernel
theorem dX6_losePitch_80 : decode cX6_losePitch 80 = .ok (.lconst 1, 1) := by decide +kernel
theorem dX6_losePitch_81 : decode cX6_losePitch 81 = .ok (.ladd, 1) := by decide +kernel
theorem dX6_losePitch_82 : decode cX6_losePitch 82 = .ok (.putfield 323, 3) := by decide +kernel
theorem dX6_losePitch_85 : decode cX6_losePitch 85 = .ok (.return_, 1) := by decide +kernel
set_option maxRecDepth 20000 in
theorem ggX6_firstHeir_X6_isAheadUnslighted : GoodIn wsX6_firstHeir wsX6_isAheadUnslighted := goodIn_r _ [11, 12, 13, 14, 15, 16, 17, 18, 19, 20, 21, 22, 23, 24, 25, 26, 27, 28, 47, 48, 49, 50, 51, 52, 53, 54, 55, 56, 57, 58, 59, 60] (by decide +kernel) (by decide +kernel)
set_option maxRecDepth 20000 in
theorem gX6_firstHeir_X6_isAheadUnslighted : GoodIn wsX6_firstHeir (va_wsS RX6 408 yX6_isAheadUnslighted wsX6_isAheadUnslighted) := goodIn_app (goodIn_of _ (by decide +kernel)) ggX6_firstHeir_X6_isAheadUnslighted
theorem dX6_firstHeir_0 : decode cX6_firstHeir 0 = .ok (.aconst_null, 1) := by decide +kernel
theorem dX6_firstHeir_1 : decode cX6_firstHeir 1 = .ok (.astore_n 2, 1) := by decide +kernel
theorem dX6_firstHeir_2 : decode cX6_firstHeir 2 = .ok (.iconst 0, 1) := by decide +kernel
theorem dX6_firstHeir_3 : decode cX6_firstHeir 3 = .ok (.istore_n 3, 1) := by decide +kernel
theorem dX6_firstHeir_4 : decode cX6_firstHeir 4 = .ok (.iload_n 3, 1) := by decide +kernel
theorem dX6_firstHeir_5 : decode cX6_firstHeir 5 = .ok (.aload_n 0, 1) := by decide +kernel
theorem dX6_firstHeir_6 : decode cX6_firstHeir 6 = .ok (.getfield 100, 3) := by decide +kernel
theorem dX6_firstHeir_9 : decode cX6_firstHeir 9 = .ok (.if_icmp .ge 82, 3) := by decide +kernel
theorem dX6_firstHeir_12 : decode cX6_firstHeir 12 = .ok (.aload_n 0, 1) := by decide +kernel
theorem dX6_firstHeir_13 : decode cX6_firstHeir 13 = .ok (.getfield 23, 3) := by decide +kernel
theorem dX6_firstHeir_16 : decode cX6_firstHeir 16 = .ok (.iload_n 3, 1) := by decide +kernel
theorem dX6_firstHeir_17 : decode cX6_firstHeir 17 = .ok (.aaload, 1) := by decide +kernel
theorem dX6_firstHeir_18 : decode cX6_firstHeir 18 = .ok (.astore 4, 2) := by decide +kernel
theorem dX6_firstHeir_20 : decode cX6_firstHeir 20 = .ok (.aload 4, 2) := by decide +kernel
theorem dX6_firstHeir_22 : decode cX6_firstHeir 22 = .ok (.getfield 115, 3) := by decide +kernel
theorem dX6_firstHeir_25 : decode cX6_firstHeir 25 = .ok (.iconst 1, 1) := by decide +kernel
theorem dX6_firstHeir_26 : decode cX6_firstHeir 26 = .ok (.if_icmp .ne 35, 3) := by decide +kernel
theorem dX6_firstHeir_29 : decode cX6_firstHeir 29 = .ok (.aload 4, 2) := by decide +kernel
theorem dX6_firstHeir_31 : decode cX6_firstHeir 31 = .ok (.getfield 150, 3) := by decide +kernel
theorem dX6_firstHeir_34 : decode cX6_firstHeir 34 = .ok (.ifCond .eq 27, 3) := by decide +kernel
theorem dX6_firstHeir_37 : decode cX6_firstHeir 37 = .ok (.aload 4, 2) := by decide +kernel
theorem dX6_firstHeir_39 : decode cX6_firstHeir 39 = .ok (.getfield 120, 3) := by decide +kernel
theorem dX6_firstHeir_42 : decode cX6_firstHeir 42 = .ok (.getfield 227, 3) := by decide +kernel
theorem dX6_firstHeir_45 : decode cX6_firstHeir 45 = .ok (.ifCond .ne 16, 3) := by decide +kernel
theorem dX6_firstHeir_48 : decode cX6_firstHeir 48 = .ok (.aload 4, 2) := by decide +kernel
theorem dX6_firstHeir_50 : decode cX6_firstHeir 50 = .ok (.getfield 260, 3) := by decide +kernel
theorem dX6_firstHeir_53 : decode cX6_firstHeir 53 = .ok (.iload_n 1, 1) := by decide +kernel
theorem dX6_firstHeir_54 : decode cX6_firstHeir 54 = .ok (.if_icmp .gt 7, 3) := by decide +kernel
theorem dX6_firstHeir_57 : decode cX6_firstHeir 57 = .ok (.iconst 1, 1) := by decide +kernel
theorem dX6_firstHeir_58 : decode cX6_firstHeir 58 = .ok (.goto 4, 3) := by decide +kernel
theorem dX6_firstHeir_61 : decode cX6_firstHeir 61 = .ok (.iconst 0, 1) := by decide +kernel
theorem dX6_firstHeir_62 : decode cX6_firstHeir 62 = .ok (.istore 5, 2) := by decide +kernel
theorem dX6_firstHeir_64 : decode cX6_firstHeir 64 = .ok (.iload 5, 2) := by decide +kernel
theorem dX6_firstHeir_66 : decode cX6_firstHeir 66 = .ok (.ifCond .eq 19, 3) := by decide +kernel
theorem dX6_firstHeir_69 : decode cX6_firstHeir 69 = .ok (.aload_n 2, 1) := by decide +kernel
theorem dX6_firstHeir_70 : decode cX6_firstHeir 70 = .ok (.ifnull 12, 3) := by decide +kernel
theorem dX6_firstHeir_73 : decode cX6_firstHeir 73 = .ok (.aload 4, 2) := by decide +kernel
theorem dX6_firstHeir_75 : decode cX6_firstHeir 75 = .ok (.aload_n 2, 1) := by decide +kernel
theorem dX6_firstHeir_76 : decode cX6_firstHeir 76 = .ok (.invokestatic 408, 3) := by decide +kernel
theorem dX6_firstHeir_79 : decode cX6_firstHeir 79 = .ok (.ifCond .eq 6, 3) := by decide +kernel
theorem dX6_firstHeir_82 : decode cX6_firstHeir 82 = .ok (.aload 4, 2) := by decide +kernel
theorem dX6_firstHeir_84 : decode cX6_firstHeir 84 = .ok (.astore_n 2, 1) := by decide +kernel
theorem dX6_firstHeir_85 : decode cX6_firstHeir 85 = .ok (.iinc 3 1, 3) := by decide +kernel
theorem dX6_firstHeir_88 : decode cX6_firstHeir 88 = .ok (.goto (-84), 3) := by decide +kernel
theorem dX6_firstHeir_91 : decode cX6_firstHeir 91 = .ok (.aload_n 2, 1) := by decide +kernel
theorem dX6_firstHeir_92 : decode cX6_firstHeir 92 = .ok (.areturn, 1) := by decide +kernel
theorem dX6_rankLast_0 : decode cX6_rankLast 0 = .ok (.iconst 0, 1) := by decide +kernel
theorem dX6_rankLast_1 : decode cX6_rankLast 1 = .ok (.istore_n 2, 1) := by decide +kernel
theorem dX6_rankLast_2 : decode cX6_rankLast 2 = .ok (.iconst 0, 1) := by decide +kernel
theorem dX6_rankLast_3 : decode cX6_rankLast 3 = .ok (.istore_n 3, 1) := by decide +kernel
theorem dX6_rankLast_4 : decode cX6_rankLast 4 = .ok (.iload_n 3, 1) := by decide +kernel
theorem dX6_rankLast_5 : decode cX6_rankLast 5 = .ok (.aload_n 0, 1) := by decide +kernel
theorem dX6_rankLast_6 : decode cX6_rankLast 6 = .ok (.getfield 100, 3) := by decide +kernel
theorem dX6_rankLast_9 : decode cX6_rankLast 9 = .ok (.if_icmp .ge 34, 3) := by decide +kernel
theorem dX6_rankLast_12 : decode cX6_rankLast 12 = .ok (.aload_n 0, 1) := by decide +kernel
theorem dX6_rankLast_13 : decode cX6_rankLast 13 = .ok (.getfield 27, 3) := by decide +kernel
theorem dX6_rankLast_16 : decode cX6_rankLast 16 = .ok (.iload_n 3, 1) := by decide +kernel
theorem dX6_rankLast_17 : decode cX6_rankLast 17 = .ok (.aaload, 1) := by decide +kernel
theorem dX6_rankLast_18 : decode cX6_rankLast 18 = .ok (.astore 4, 2) := by decide +kernel
theorem dX6_rankLast_20 : decode cX6_rankLast 20 = .ok (.aload 4, 2) := by decide +kernel
theorem dX6_rankLast_22 : decode cX6_rankLast 22 = .ok (.aload_n 1, 1) := by decide +kernel
theorem dX6_rankLast_23 : decode cX6_rankLast 23 = .ok (.if_acmp .eq 14, 3) := by decide +kernel
theorem dX6_rankLast_26 : decode cX6_rankLast 26 = .ok (.aload_n 0, 1) := by decide +kernel
theorem dX6_rankLast_27 : decode cX6_rankLast 27 = .ok (.getfield 27, 3) := by decide +kernel
theorem dX6_rankLast_30 : decode cX6_rankLast 30 = .ok (.iload_n 2, 1) := by decide +kernel
theorem dX6_rankLast_31 : decode cX6_rankLast 31 = .ok (.aload 4, 2) := by decide +kernel
theorem dX6_rankLast_33 : decode cX6_rankLast 33 = .ok (.aastore, 1) := by decide +kernel
theorem dX6_rankLast_34 : decode cX6_rankLast 34 = .ok (.iinc 2 1, 3) := by decide +kernel
theorem dX6_rankLast_37 : decode cX6_rankLast 37 = .ok (.iinc 3 1, 3) := by decide +kernel
theorem dX6_rankLast_40 : decode cX6_rankLast 40 = .ok (.goto (-36), 3) := by decide +kernel
theorem dX6_rankLast_43 : decode cX6_rankLast 43 = .ok (.iload_n 2, 1) := by decide +kernel
theorem dX6_rankLast_44 : decode cX6_rankLast 44 = .ok (.sipush 200, 3) := by decide +kernel
theorem dX6_rankLast_47 : decode cX6_rankLast 47 = .ok (.if_icmp .ge 10, 3) := by decide +kernel
theorem dX6_rankLast_50 : decode cX6_rankLast 50 = .ok (.aload_n 0, 1) := by decide +kernel
theorem dX6_rankLast_51 : decode cX6_rankLast 51 = .ok (.getfield 27, 3) := by decide +kernel
theorem dX6_rankLast_54 : decode cX6_rankLast 54 = .ok (.iload_n 2, 1) := by decide +kernel
theorem dX6_rankLast_55 : decode cX6_rankLast 55 = .ok (.aload_n 1, 1) := by decide +kernel
theorem dX6_rankLast_56 : decode cX6_rankLast 56 = .ok (.aastore, 1) := by decide +kernel
theorem dX6_rankLast_57 : decode cX6_rankLast 57 = .ok (.aload_n 1, 1) := by decide +kernel
theorem dX6_rankLast_58 : decode cX6_rankLast 58 = .ok (.aload_n 0, 1) := by decide +kernel
theorem dX6_rankLast_59 : decode cX6_rankLast 59 = .ok (.getfield 105, 3) := by decide +kernel
theorem dX6_rankLast_62 : decode cX6_rankLast 62 = .ok (.putfield 263, 3) := by decide +kernel
theorem dX6_rankLast_65 : decode cX6_rankLast 65 = .ok (.aload_n 0, 1) := by decide +kernel
theorem dX6_rankLast_66 : decode cX6_rankLast 66 = .ok (.dup, 1) := by decide +kernel
theorem dX6_rankLast_67 : decode cX6_rankLast 67 = .ok (.getfield 105, 3) := by decide +kernel
theorem dX6_rankLast_70 : decode cX6_rankLast 70 = .ok (.iconst 1, 1) := by decide +kernel
theorem dX6_rankLast_71 : decode cX6_rankLast 71 = .ok (.iadd, 1) := by decide +kernel
theorem dX6_rankLast_72 : decode cX6_rankLast 72 = .ok (.putfield 105, 3) := by decide +kernel
theorem dX6_rankLast_75 : decode cX6_rankLast 75 = .ok (.return_, 1) := by decide +kernel
theorem dJ6_bitCount_0f7a4_0 : decode cJ6_bitCount_0f7a4 0 = .ok (.iload_n 0, 1) := by decide +kernel
theorem dJ6_bitCount_0f7a4_1 : decode cJ6_bitCount_0f7a4 1 = .ok (.iload_n 0, 1) := by decide +kernel
theorem dJ6_bitCount_0f7a4_2 : decode cJ6_bitCount_0f7a4 2 = .ok (.iconst 1, 1) := by decide +kernel
theorem dJ6_bitCount_0f7a4_3 : decode cJ6_bitCount_0f7a4 3 = .ok (.iushr, 1) := by decide +kernel
theorem dJ6_bitCount_0f7a4_4 : decode cJ6_bitCount_0f7a4 4 = .ok (.ldc_w 265, 3) := by decide +kernel
theorem dJ6_bitCount_0f7a4_7 : decode cJ6_bitCount_0f7a4 7 = .ok (.iand, 1) := by decide +kernel
theorem dJ6_bitCount_0f7a4_8 : decode cJ6_bitCount_0f7a4 8 = .ok (.isub, 1) := by decide +kernel
theorem dJ6_bitCount_0f7a4_9 : decode cJ6_bitCount_0f7a4 9 = .ok (.istore_n 0, 1) := by decide +kernel
theorem dJ6_bitCount_0f7a4_10 : decode cJ6_bitCount_0f7a4 10 = .ok (.iload_n 0, 1) := by decide +kernel
theorem dJ6_bitCount_0f7a4_11 : decode cJ6_bitCount_0f7a4 11 = .ok (.ldc_w 266, 3) := by decide +kernel
theorem dJ6_bitCount_0f7a4_14 : decode cJ6_bitCount_0f7a4 14 = .ok (.iand, 1) := by decide +kernel
theorem dJ6_bitCount_0f7a4_15 : decode cJ6_bitCount_0f7a4 15 = .ok (.iload_n 0, 1) := by decide +kernel
theorem dJ6_bitCount_0f7a4_16 : decode cJ6_bitCount_0f7a4 16 = .ok (.iconst 2, 1) := by decide +kernel
theorem dJ6_bitCount_0f7a4_17 : decode cJ6_bitCount_0f7a4 17 = .ok (.iushr, 1) := by decide +kernel
theorem dJ6_bitCount_0f7a4_18 : decode cJ6_bitCount_0f7a4 18 = .ok (.ldc_w 266, 3) := by decide +kernel
theorem dJ6_bitCount_0f7a4_21 : decode cJ6_bitCount_0f7a4 21 = .ok (.iand, 1) := by decide +kernel
theorem dJ6_bitCount_0f7a4_22 : decode cJ6_bitCount_0f7a4 22 = .ok (.iadd, 1) := by decide +kernel
theorem dJ6_bitCount_0f7a4_23 : decode cJ6_bitCount_0f7a4 23 = .ok (.istore_n 0, 1) := by decide +kernel
theorem dJ6_bitCount_0f7a4_24 : decode cJ6_bitCount_0f7a4 24 = .ok (.iload_n 0, 1) := by decide +kernel
theorem dJ6_bitCount_0f7a4_25 : decode cJ6_bitCount_0f7a4 25 = .ok (.iload_n 0, 1) := by decide +kernel
theorem dJ6_bitCount_0f7a4_26 : decode cJ6_bitCount_0f7a4 26 = .ok (.iconst 4, 1) := by decide +kernel
theorem dJ6_bitCount_0f7a4_27 : decode cJ6_bitCount_0f7a4 27 = .ok (.iushr, 1) := by decide +kernel
theorem dJ6_bitCount_0f7a4_28 : decode cJ6_bitCount_0f7a4 28 = .ok (.iadd, 1) := by decide +kernel
theorem dJ6_bitCount_0f7a4_29 : decode cJ6_bitCount_0f7a4 29 = .ok (.ldc_w 267, 3) := by decide +kernel
theorem dJ6_bitCount_0f7a4_32 : decode cJ6_bitCount_0f7a4 32 = .ok (.iand, 1) := by decide +kernel
theorem dJ6_bitCount_0f7a4_33 : decode cJ6_bitCount_0f7a4 33 = .ok (.istore_n 0, 1) := by decide +kernel
theorem dJ6_bitCount_0f7a4_34 : decode cJ6_bitCount_0f7a4 34 = .ok (.iload_n 0, 1) := by decide +kernel
theorem dJ6_bitCount_0f7a4_35 : decode cJ6_bitCount_0f7a4 35 = .ok (.iload_n 0, 1) := by decide +kernel
theorem dJ6_bitCount_0f7a4_36 : decode cJ6_bitCount_0f7a4 36 = .ok (.bipush 8, 2) := by decide +kernel
theorem dJ6_bitCount_0f7a4_38 : decode cJ6_bitCount_0f7a4 38 = .ok (.iushr, 1) := by decide +kernel
theorem dJ6_bitCount_0f7a4_39 : decode cJ6_bitCount_0f7a4 39 = .ok (.iadd, 1) := by decide +kernel
theorem dJ6_bitCount_0f7a4_40 : decode cJ6_bitCount_0f7a4 40 = .ok (.istore_n 0, 1) := by decide +kernel
theorem dJ6_bitCount_0f7a4_41 : decode cJ6_bitCount_0f7a4 41 = .ok (.iload_n 0, 1) := by decide +kernel
theorem dJ6_bitCount_0f7a4_42 : decode cJ6_bitCount_0f7a4 42 = .ok (.iload_n 0, 1) := by decide +kernel
theorem dJ6_bitCount_0f7a4_43 : decode cJ6_bitCount_0f7a4 43 = .ok (.bipush 16, 2) := by decide +kernel
theorem dJ6_bitCount_0f7a4_45 : decode cJ6_bitCount_0f7a4 45 = .ok (.iushr, 1) := by decide +kernel
theorem dJ6_bitCount_0f7a4_46 : decode cJ6_bitCount_0f7a4 46 = .ok (.iadd, 1) := by decide +kernel
theorem dJ6_bitCount_0f7a4_47 : decode cJ6_bitCount_0f7a4 47 = .ok (.istore_n 0, 1) := by decide +kernel
theorem dJ6_bitCount_0f7a4_48 : decode cJ6_bitCount_0f7a4 48 = .ok (.iload_n 0, 1) := by decide +kernel
theorem dJ6_bitCount_0f7a4_49 : decode cJ6_bitCount_0f7a4 49 = .ok (.bipush 63, 2) := by decide +kernel
theorem dJ6_bitCount_0f7a4_51 : decode cJ6_bitCount_0f7a4 51 = .ok (.iand, 1) := by decide +kernel
theorem dJ6_bitCount_0f7a4_52 : decode cJ6_bitCount_0f7a4 52 = .ok (.ireturn, 1) := by decide +kernel
theorem dJ9_max_7cf53_0 : decode cJ9_max_7cf53 0 = .ok (.iload_n 0, 1) := by decide +kernel
theorem dJ9_max_7cf53_1 : decode cJ9_max_7cf53 1 = .ok (.iload_n 1, 1) := by decide +kernel
theorem dJ9_max_7cf53_2 : decode cJ9_max_7cf53 2 = .ok (.if_icmp .lt 7, 3) := by decide +kernel
theorem dJ9_max_7cf53_5 : decode cJ9_max_7cf53 5 = .ok (.iload_n 0, 1) := by decide +kernel
theorem dJ9_max_7cf53_6 : decode cJ9_max_7cf53 6 = .ok (.goto 4, 3) := by decide +kernel
theorem dJ9_max_7cf53_9 : decode cJ9_max_7cf53 9 = .ok (.iload_n 1, 1) := by decide +kernel
theorem dJ9_max_7cf53_10 : decode cJ9_max_7cf53 10 = .ok (.ireturn, 1) := by decide +kernel
