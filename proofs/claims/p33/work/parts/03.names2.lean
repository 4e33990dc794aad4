set_option maxRecDepth 20000 in
theorem gX1_closeGap_X5_put_n40 : GoodIn wsX1_closeGap (wsX5_put) := ggX1_closeGap_X5_put
theorem dX1_closeGap_0 : decode cX1_closeGap 0 = .ok (.iload_n 2, 1) := by decide +kernel
theorem dX1_closeGap_1 : decode cX1_closeGap 1 = .ok (.istore_n 3, 1) := by decide +kernel
theorem dX1_closeGap_2 : decode cX1_closeGap 2 = .ok (.iload_n 3, 1) := by decide +kernel
theorem dX1_closeGap_3 : decode cX1_closeGap 3 = .ok (.iconst 1, 1) := by decide +kernel
theorem dX1_closeGap_4 : decode cX1_closeGap 4 = .ok (.iadd, 1) := by decide +kernel
theorem dX1_closeGap_5 : decode cX1_closeGap 5 = .ok (.aload_n 0, 1) := by decide +kernel
theorem dX1_closeGap_6 : decode cX1_closeGap 6 = .ok (.getfield 36, 3) := by decide +kernel
theorem dX1_closeGap_9 : decode cX1_closeGap 9 = .ok (.if_icmp .ge 21, 3) := by decide +kernel
theorem dX1_closeGap_12 : decode cX1_closeGap 12 = .ok (.aload_n 1, 1) := by decide +kernel
theorem dX1_closeGap_13 : decode cX1_closeGap 13 = .ok (.iload_n 3, 1) := by decide +kernel
theorem dX1_closeGap_14 : decode cX1_closeGap 14 = .ok (.aload_n 1, 1) := by decide +kernel
theorem dX1_closeGap_15 : decode cX1_closeGap 15 = .ok (.iload_n 3, 1) := by decide +kernel
theorem dX1_closeGap_16 : decode cX1_closeGap 16 = .ok (.iconst 1, 1) := by decide +kernel
theorem dX1_closeGap_17 : decode cX1_closeGap 17 = .ok (.iadd, 1) := by decide +kernel
theorem dX1_closeGap_18 : decode cX1_closeGap 18 = .ok (.invokestatic 48, 3) := by decide +kernel
theorem dX1_closeGap_21 : decode cX1_closeGap 21 = .ok (.invokestatic 40, 3) := by decide +kernel
theorem dX1_closeGap_24 : decode cX1_closeGap 24 = .ok (.iinc 3 1, 3) := by decide +kernel
theorem dX1_closeGap_27 : decode cX1_closeGap 27 = .ok (.goto (-25), 3) := by decide +kernel
theorem dX1_closeGap_30 : decode cX1_closeGap 30 = .ok (.return_, 1) := by decide +kernel
theorem dX1_numberWithout_0 : decode cX1_numberWithout 0 = .ok (.iload_n 1, 1) := by decide +kernel
theorem dX1_numberWithout_1 : decode cX1_numberWithout 1 = .ok (.iload_n 0, 1) := by decide +kernel
theorem dX1_numberWithout_2 : decode cX1_numberWithout 2 = .ok (.if_icmp .le 9, 3) := by decide +kernel
theorem dX1_numberWithout_5 : decode cX1_numberWithout 5 = .ok (.iload_n 1, 1) := by decide +kernel
theorem dX1_numberWithout_6 : decode cX1_numberWithout 6 = .ok (.iconst 1, 1) := by decide +kernel
theorem dX1_numberWithout_7 : decode cX1_numberWithout 7 = .ok (.isub, 1) := by decide +kernel
theorem dX1_numberWithout_8 : decode cX1_numberWithout 8 = .ok (.goto 4, 3) := by decide +kernel
theorem dX1_numberWithout_11 : decode cX1_numberWithout 11 = .ok (.iload_n 1, 1) := by decide +kernel
theorem dX1_numberWithout_12 : decode cX1_numberWithout 12 = .ok (.ireturn, 1) := by decide +kernel
set_option maxRecDepth 20000 in
theorem ggX1_wornCoat_X5_at : GoodIn wsX1_wornCoat wsX5_at := goodIn_r _ [5] (by decide +kernel) (by decide +kernel)
set_option maxRecDepth 20000 in
theorem gX1_wornCoat_X5_at_n48 : GoodIn wsX1_wornCoat (wsX5_at) := ggX1_wornCoat_X5_at
theorem dX1_wornCoat_0 : decode cX1_wornCoat 0 = .ok (.aload_n 0, 1) := by decide +kernel
theorem dX1_wornCoat_1 : decode cX1_wornCoat 1 = .ok (.getfield 24, 3) := by decide +kernel
theorem dX1_wornCoat_4 : decode cX1_wornCoat 4 = .ok (.iload_n 1, 1) := by decide +kernel
theorem dX1_wornCoat_5 : decode cX1_wornCoat 5 = .ok (.invokestatic 48, 3) := by decide +kernel
theorem dX1_wornCoat_8 : decode cX1_wornCoat 8 = .ok (.istore_n 2, 1) := by decide +kernel
theorem dX1_wornCoat_9 : decode cX1_wornCoat 9 = .ok (.iload_n 2, 1) := by decide +kernel
theorem dX1_wornCoat_10 : decode cX1_wornCoat 10 = .ok (.iconst (-1), 1) := by decide +kernel
theorem dX1_wornCoat_11 : decode cX1_wornCoat 11 = .ok (.if_icmp .eq 5, 3) := by decide +kernel
theorem dX1_wornCoat_14 : decode cX1_wornCoat 14 = .ok (.iload_n 2, 1) := by decide +kernel
theorem dX1_wornCoat_15 : decode cX1_wornCoat 15 = .ok (.ireturn, 1) := by decide +kernel
theorem dX1_wornCoat_16 : decode cX1_wornCoat 16 = .ok (.aload_n 0, 1) := by decide +kernel
theorem dX1_wornCoat_17 : decode cX1_wornCoat 17 = .ok (.getfield 27, 3) := by decide +kernel
theorem dX1_wornCoat_20 : decode cX1_wornCoat 20 = .ok (.iload_n 1, 1) := by decide +kernel
theorem dX1_wornCoat_21 : decode cX1_wornCoat 21 = .ok (.invokestatic 48, 3) := by decide +kernel
theorem dX1_wornCoat_24 : decode cX1_wornCoat 24 = .ok (.iconst (-1), 1) := by decide +kernel
theorem dX1_wornCoat_25 : decode cX1_wornCoat 25 = .ok (.if_icmp .ne 7, 3) := by decide +kernel
theorem dX1_wornCoat_28 : decode cX1_wornCoat 28 = .ok (.iload_n 1, 1) := by decide +kernel
theorem dX1_wornCoat_29 : decode cX1_wornCoat 29 = .ok (.goto 4, 3) := by decide +kernel
theorem dX1_wornCoat_32 : decode cX1_wornCoat 32 = .ok (.iconst (-1), 1) := by decide +kernel
theorem dX1_wornCoat_33 : decode cX1_wornCoat 33 = .ok (.ireturn, 1) := by decide +kernel
set_option maxRecDepth 20000 in
theorem ggX1_wornLace_X1_wornCoat : GoodIn wsX1_wornLace wsX1_wornCoat := goodIn_r _ [6, 7, 8, 9, 10, 11, 12, 13, 14, 15, 16, 17, 18, 19, 20] (by decide +kernel) (by decide +kernel)
set_option maxRecDepth 20000 in
theorem gX1_wornLace_X1_wornCoat : GoodIn wsX1_wornLace (wsV RX1 56 RX1 yX1_wornCoat wsX1_wornCoat) := goodIn_app (goodIn_of _ (by decide +kernel)) ggX1_wornLace_X1_wornCoat
set_option maxRecDepth 20000 in
theorem ggX1_wornLace_X5_at : GoodIn wsX1_wornLace wsX5_at := goodIn_r _ [11] (by decide +kernel) (by decide +kernel)
set_option maxRecDepth 20000 in
theorem gX1_wornLace_X5_at_n48 : GoodIn wsX1_wornLace (wsX5_at) := ggX1_wornLace_X5_at
theorem dX1_wornLace_0 : decode cX1_wornLace 0 = .ok (.aload_n 0, 1) := by decide +kernel
theorem dX1_wornLace_1 : decode cX1_wornLace 1 = .ok (.iload_n 1, 1) := by decide +kernel
theorem dX1_wornLace_2 : decode cX1_wornLace 2 = .ok (.invokevirtual 56, 3) := by decide +kernel
theorem dX1_wornLace_5 : decode cX1_wornLace 5 = .ok (.istore_n 2, 1) := by decide +kernel
theorem dX1_wornLace_6 : decode cX1_wornLace 6 = .ok (.iload_n 2, 1) := by decide +kernel
theorem dX1_wornLace_7 : decode cX1_wornLace 7 = .ok (.iconst (-1), 1) := by decide +kernel
theorem dX1_wornLace_8 : decode cX1_wornLace 8 = .ok (.if_icmp .ne 7, 3) := by decide +kernel
theorem dX1_wornLace_11 : decode cX1_wornLace 11 = .ok (.iconst 0, 1) := by decide +kernel
theorem dX1_wornLace_12 : decode cX1_wornLace 12 = .ok (.goto 11, 3) := by decide +kernel
theorem dX1_wornLace_15 : decode cX1_wornLace 15 = .ok (.aload_n 0, 1) := by decide +kernel
theorem dX1_wornLace_16 : decode cX1_wornLace 16 = .ok (.getfield 21, 3) := by decide +kernel
theorem dX1_wornLace_19 : decode cX1_wornLace 19 = .ok (.iload_n 2, 1) := by decide +kernel
theorem dX1_wornLace_20 : decode cX1_wornLace 20 = .ok (.invokestatic 48, 3) := by decide +kernel
theorem dX1_wornLace_23 : decode cX1_wornLace 23 = .ok (.ireturn, 1) := by decide +kernel
set_option maxRecDepth 20000 in
theorem ggX1_isIn_X5_at : GoodIn wsX1_isIn wsX5_at := goodIn_r _ [4] (by decide +kernel) (by decide +kernel)
set_option maxRecDepth 20000 in
theorem gX1_isIn_X5_at_n48 : GoodIn wsX1_isIn (wsX5_at) := ggX1_isIn_X5_at
theorem dX1_isIn_0 : decode cX1_isIn 0 = .ok (.aload_n 0, 1) := by decide +kernel
theorem dX1_isIn_1 : decode cX1_isIn 1 = .ok (.getfield 33, 3) := by decide +kernel
theorem dX1_isIn_4 : decode cX1_isIn 4 = .ok (.iload_n 1, 1) := by decide +kernel
theorem dX1_isIn_5 : decode cX1_isIn 5 = .ok (.invokestatic 48, 3) := by decide +kernel
theorem dX1_isIn_8 : decode cX1_isIn 8 = .ok (.ifCond .eq 7, 3) := by decide +kernel
theorem dX1_isIn_11 : decode cX1_isIn 11 = .ok (.iconst 1, 1) := by decide +kernel
theorem dX1_isIn_12 : decode cX1_isIn 12 = .ok (.goto 4, 3) := by decide +kernel
theorem dX1_isIn_15 : decode cX1_isIn 15 = .ok (.iconst 0, 1) := by decide +kernel
theorem dX1_isIn_16 : decode cX1_isIn 16 = .ok (.ireturn, 1) := by decide +kernel
set_option maxRecDepth 20000 in
theorem ggX1_reasonNoLoan_X1_wornCoat : GoodIn wsX1_reasonNoLoan wsX1_wornCoat := goodIn_r _ [6, 1, 7, 8, 9, 10, 16, 17, 18, 19, 20, 21, 22, 23, 24] (by decide +kernel) (by decide +kernel)
set_option maxRecDepth 20000 in
theorem gX1_reasonNoLoan_X1_wornCoat : GoodIn wsX1_reasonNoLoan (wsV RX1 56 RX1 yX1_wornCoat wsX1_wornCoat) := goodIn_app (goodIn_of _ (by decide +kernel)) ggX1_reasonNoLoan_X1_wornCoat
set_option maxRecDepth 20000 in
theorem ggX1_reasonNoLoan_X5_at : GoodIn wsX1_reasonNoLoan wsX5_at := goodIn_r _ [10] (by decide +kernel) (by decide +kernel)
set_option maxRecDepth 20000 in
theorem gX1_reasonNoLoan_X5_at_n48 : GoodIn wsX1_reasonNoLoan (wsX5_at) := ggX1_reasonNoLoan_X5_at
set_option maxRecDepth 20000 in
theorem ggX1_reasonNoLoan_X1_isIn : GoodIn wsX1_reasonNoLoan wsX1_isIn := goodIn_r _ [14, 15, 8, 9, 10, 16, 17, 18, 19, 20, 21, 22, 23, 24] (by decide +kernel) (by decide +kernel)
set_option maxRecDepth 20000 in
theorem gX1_reasonNoLoan_X1_isIn : GoodIn wsX1_reasonNoLoan (wsV RX1 60 RX1 yX1_isIn wsX1_isIn) := goodIn_app (goodIn_of _ (by decide +kernel)) ggX1_reasonNoLoan_X1_isIn
theorem dX1_reasonNoLoan_0 : decode cX1_reasonNoLoan 0 = .ok (.iload_n 1, 1) := by decide +kernel
theorem dX1_reasonNoLoan_1 : decode cX1_reasonNoLoan 1 = .ok (.iload_n 2, 1) := by decide +kernel
theorem dX1_reasonNoLoan_2 : decode cX1_reasonNoLoan 2 = .ok (.if_icmp .ne 5, 3) := by decide +kernel
theorem dX1_reasonNoLoan_5 : decode cX1_reasonNoLoan 5 = .ok (.iconst 1, 1) := by decide +kernel
theorem dX1_reasonNoLoan_6 : decode cX1_reasonNoLoan 6 = .ok (.ireturn, 1) := by decide +kernel
theorem dX1_reasonNoLoan_7 : decode cX1_reasonNoLoan 7 = .ok (.aload_n 0, 1) := by decide +kernel
theorem dX1_reasonNoLoan_8 : decode cX1_reasonNoLoan 8 = .ok (.iload_n 1, 1) := by decide +kernel
theorem dX1_reasonNoLoan_9 : decode cX1_reasonNoLoan 9 = .ok (.invokevirtual 56, 3) := by decide +kernel
theorem dX1_reasonNoLoan_12 : decode cX1_reasonNoLoan 12 = .ok (.iload_n 1, 1) := by decide +kernel
theorem dX1_reasonNoLoan_13 : decode cX1_reasonNoLoan 13 = .ok (.if_icmp .eq 5, 3) := by decide +kernel
theorem dX1_reasonNoLoan_16 : decode cX1_reasonNoLoan 16 = .ok (.iconst 2, 1) := by decide +kernel
theorem dX1_reasonNoLoan_17 : decode cX1_reasonNoLoan 17 = .ok (.ireturn, 1) := by decide +kernel
theorem dX1_reasonNoLoan_18 : decode cX1_reasonNoLoan 18 = .ok (.aload_n 0, 1) := by decide +kernel
theorem dX1_reasonNoLoan_19 : decode cX1_reasonNoLoan 19 = .ok (.getfield 24, 3) := by decide +kernel
theorem dX1_reasonNoLoan_22 : decode cX1_reasonNoLoan 22 = .ok (.iload_n 2, 1) := by decide +kernel
theorem dX1_reasonNoLoan_23 : decode cX1_reasonNoLoan 23 = .ok (.invokestatic 48, 3) := by decide +kernel
theorem dX1_reasonNoLoan_26 : decode cX1_reasonNoLoan 26 = .ok (.iconst (-1), 1) := by decide +kernel
theorem dX1_reasonNoLoan_27 : decode cX1_reasonNoLoan 27 = .ok (.if_icmp .ne 11, 3) := by decide +kernel
theorem dX1_reasonNoLoan_30 : decode cX1_reasonNoLoan 30 = .ok (.aload_n 0, 1) := by decide +kernel
theorem dX1_reasonNoLoan_31 : decode cX1_reasonNoLoan 31 = .ok (.iload_n 2, 1) := by decide +kernel
theorem dX1_reasonNoLoan_32 : decode cX1_reasonNoLoan 32 = .ok (.invokevirtual 60, 3) := by decide +kernel
theorem dX1_reasonNoLoan_35 : decode cX1_reasonNoLoan 35 = .ok (.ifCond .eq 7, 3) := by decide +kernel
theorem dX1_reasonNoLoan_38 : decode cX1_reasonNoLoan 38 = .ok (.iconst 3, 1) := by decide +kernel
theorem dX1_reasonNoLoan_39 : decode cX1_reasonNoLoan 39 = .ok (.goto 4, 3) := by decide +kernel
theorem dX1_reasonNoLoan_42 : decode cX1_reasonNoLoan 42 = .ok (.iconst 0, 1) := by decide +kernel
theorem dX1_reasonNoLoan_43 : decode cX1_reasonNoLoan 43 = .ok (.ireturn, 1) := by decide +kernel
set_option maxRecDepth 20000 in
theorem ggX1_lendCoat_X5_put : GoodIn wsX1_lendCoat wsX5_put := goodIn_r _ [5] (by decide +kernel) (by decide +kernel)
set_option maxRecDepth 20000 in
theorem gX1_lendCoat_X5_put_n40 : GoodIn wsX1_lendCoat (wsX5_put) := ggX1_lendCoat_X5_put
theorem dX1_lendCoat_0 : decode cX1_lendCoat 0 = .ok (.aload_n 0, 1) := by decide +kernel
theorem dX1_lendCoat_1 : decode cX1_lendCoat 1 = .ok (.getfield 27, 3) := by decide +kernel
theorem dX1_lendCoat_4 : decode cX1_lendCoat 4 = .ok (.iload_n 1, 1) := by decide +kernel
theorem dX1_lendCoat_5 : decode cX1_lendCoat 5 = .ok (.iload_n 2, 1) := by decide +kernel
theorem dX1_lendCoat_6 : decode cX1_lendCoat 6 = .ok (.invokestatic 40, 3) := by decide +kernel
theorem dX1_lendCoat_9 : decode cX1_lendCoat 9 = .ok (.aload_n 0, 1) := by decide +kernel
theorem dX1_lendCoat_10 : decode cX1_lendCoat 10 = .ok (.getfield 24, 3) := by decide +kernel
theorem dX1_lendCoat_13 : decode cX1_lendCoat 13 = .ok (.iload_n 2, 1) := by decide +kernel
theorem dX1_lendCoat_14 : decode cX1_lendCoat 14 = .ok (.iload_n 1, 1) := by decide +kernel
theorem dX1_lendCoat_15 : decode cX1_lendCoat 15 = .ok (.invokestatic 40, 3) := by decide +kernel
theorem dX1_lendCoat_18 : decode cX1_lendCoat 18 = .ok (.return_, 1) := by decide +kernel
set_option maxRecDepth 20000 in
theorem ggX1_canReturnCoat_X5_at : GoodIn wsX1_canReturnCoat wsX5_at := goodIn_r _ [4] (by decide +kernel) (by decide +kernel)
set_option maxRecDepth 20000 in
theorem gX1_canReturnCoat_X5_at_n48 : GoodIn wsX1_canReturnCoat (wsX5_at) := ggX1_canReturnCoat_X5_at
set_option maxRecDepth 20000 in
theorem ggX1_canReturnCoat_X1_isIn : GoodIn wsX1_canReturnCoat wsX1_isIn := goodIn_r _ [9, 10, 2, 3, 4, 11, 12, 13, 14, 15, 16, 17, 18, 19] (by decide +kernel) (by decide +kernel)
set_option maxRecDepth 20000 in
theorem gX1_canReturnCoat_X1_isIn : GoodIn wsX1_canReturnCoat (wsV RX1 60 RX1 yX1_isIn wsX1_isIn) := goodIn_app (goodIn_of _ (by decide +kernel)) ggX1_canReturnCoat_X1_isIn
theorem dX1_canReturnCoat_0 : decode cX1_canReturnCoat 0 = .ok (.aload_n 0, 1) := by decide +kernel
theorem dX1_canReturnCoat_1 : decode cX1_canReturnCoat 1 = .ok (.getfield 24, 3) := by decide +kernel
theorem dX1_canReturnCoat_4 : decode cX1_canReturnCoat 4 = .ok (.iload_n 1, 1) := by decide +kernel
theorem dX1_canReturnCoat_5 : decode cX1_canReturnCoat 5 = .ok (.invokestatic 48, 3) := by decide +kernel
theorem dX1_canReturnCoat_8 : decode cX1_canReturnCoat 8 = .ok (.istore_n 2, 1) := by decide +kernel
theorem dX1_canReturnCoat_9 : decode cX1_canReturnCoat 9 = .ok (.iload_n 2, 1) := by decide +kernel
theorem dX1_canReturnCoat_10 : decode cX1_canReturnCoat 10 = .ok (.iconst (-1), 1) := by decide +kernel
theorem dX1_canReturnCoat_11 : decode cX1_canReturnCoat 11 = .ok (.if_icmp .eq 23, 3) := by decide +kernel
theorem dX1_canReturnCoat_14 : decode cX1_canReturnCoat 14 = .ok (.aload_n 0, 1) := by decide +kernel
theorem dX1_canReturnCoat_15 : decode cX1_canReturnCoat 15 = .ok (.iload_n 1, 1) := by decide +kernel
theorem dX1_canReturnCoat_16 : decode cX1_canReturnCoat 16 = .ok (.invokevirtual 60, 3) := by decide +kernel
theorem dX1_canReturnCoat_19 : decode cX1_canReturnCoat 19 = .ok (.ifCond .ne 15, 3) := by decide +kernel
theorem dX1_canReturnCoat_22 : decode cX1_canReturnCoat 22 = .ok (.aload_n 0, 1) := by decide +kernel
theorem dX1_canReturnCoat_23 : decode cX1_canReturnCoat 23 = .ok (.iload_n 2, 1) := by decide +kernel
theorem dX1_canReturnCoat_24 : decode cX1_canReturnCoat 24 = .ok (.invokevirtual 60, 3) := by decide +kernel
theorem dX1_canReturnCoat_27 : decode cX1_canReturnCoat 27 = .ok (.ifCond .ne 7, 3) := by decide +kernel
theorem dX1_canReturnCoat_30 : decode cX1_canReturnCoat 30 = .ok (.iconst 1, 1) := by decide +kernel
theorem dX1_canReturnCoat_31 : decode cX1_canReturnCoat 31 = .ok (.goto 4, 3) := by decide +kernel
theorem dX1_canReturnCoat_34 : decode cX1_canReturnCoat 34 = .ok (.iconst 0, 1) := by decide +kernel
theorem dX1_canReturnCoat_35 : decode cX1_canReturnCoat 35 = .ok (.ireturn, 1) := by decide +kernel
set_option maxRecDepth 20000 in
theorem ggX1_returnCoat_X5_at : GoodIn wsX1_returnCoat wsX5_at := goodIn_r _ [5] (by decide +kernel) (by decide +kernel)
set_option maxRecDepth 20000 in
theorem gX1_returnCoat_X5_at_n48 : GoodIn wsX1_returnCoat (wsX5_at) := ggX1_returnCoat_X5_at
set_option maxRecDepth 20000 in
theorem ggX1_returnCoat_X5_put : GoodIn wsX1_returnCoat wsX5_put := goodIn_r _ [7] (by decide +kernel) (by decide +kernel)
set_option maxRecDepth 20000 in
theorem gX1_returnCoat_X5_put_n40 : GoodIn wsX1_returnCoat (wsX5_put) := ggX1_returnCoat_X5_put
theorem dX1_returnCoat_0 : decode cX1_returnCoat 0 = .ok (.aload_n 0, 1) := by decide +kernel
theorem dX1_returnCoat_1 : decode cX1_returnCoat 1 = .ok (.getfield 24, 3) := by decide +kernel
theorem dX1_returnCoat_4 : decode cX1_returnCoat 4 = .ok (.iload_n 1, 1) := by decide +kernel
theorem dX1_returnCoat_5 : decode cX1_returnCoat 5 = .ok (.invokestatic 48, 3) := by decide +kernel
theorem dX1_returnCoat_8 : decode cX1_returnCoat 8 = .ok (.istore_n 2, 1) := by decide +kernel
theorem dX1_returnCoat_9 : decode cX1_returnCoat 9 = .ok (.aload_n 0, 1) := by decide +kernel
theorem dX1_returnCoat_10 : decode cX1_returnCoat 10 = .ok (.getfield 24, 3) := by decide +kernel
theorem dX1_returnCoat_13 : decode cX1_returnCoat 13 = .ok (.iload_n 1, 1) := by decide +kernel
theorem dX1_returnCoat_14 : decode cX1_returnCoat 14 = .ok (.iconst (-1), 1) := by decide +kernel
theorem dX1_returnCoat_15 : decode cX1_returnCoat 15 = .ok (.invokestatic 40, 3) := by decide +kernel
theorem dX1_returnCoat_18 : decode cX1_returnCoat 18 = .ok (.aload_n 0, 1) := by decide +kernel
theorem dX1_returnCoat_19 : decode cX1_returnCoat 19 = .ok (.getfield 27, 3) := by decide +kernel
theorem dX1_returnCoat_22 : decode cX1_returnCoat 22 = .ok (.iload_n 2, 1) := by decide +kernel
theorem dX1_returnCoat_23 : decode cX1_returnCoat 23 = .ok (.iconst (-1), 1) := by decide +kernel
theorem dX1_returnCoat_24 : decode cX1_returnCoat 24 = .ok (.invokestatic 40, 3) := by decide +kernel
theorem dX1_returnCoat_27 : decode cX1_returnCoat 27 = .ok (.iload_n 2, 1) := by decide +kernel
theorem dX1_returnCoat_28 : decode cX1_returnCoat 28 = .ok (.ireturn, 1) := by decide +kernel
set_option maxRecDepth 20000 in
theorem ggX1_payFromPurse_X5_at : GoodIn wsX1_payFromPurse wsX5_at := goodIn_r _ [4] (by decide +kernel) (by decide +kernel)
set_option maxRecDepth 20000 in
theorem gX1_payFromPurse_X5_at_n48 : GoodIn wsX1_payFromPurse (wsX5_at) := ggX1_payFromPurse_X5_at
set_option maxRecDepth 20000 in
theorem ggX1_payFromPurse_X5_put : GoodIn wsX1_payFromPurse wsX5_put := goodIn_r _ [6] (by decide +kernel) (by decide +kernel)
set_option maxRecDepth 20000 in
theorem gX1_payFromPurse_X5_put_n40 : GoodIn wsX1_payFromPurse (wsX5_put) := ggX1_payFromPurse_X5_put
theorem dX1_payFromPurse_0 : decode cX1_payFromPurse 0 = .ok (.aload_n 0, 1) := by decide +kernel
theorem dX1_payFromPurse_1 : decode cX1_payFromPurse 1 = .ok (.getfield 15, 3) := by decide +kernel
theorem dX1_payFromPurse_4 : decode cX1_payFromPurse 4 = .ok (.iload_n 1, 1) := by decide +kernel
theorem dX1_payFromPurse_5 : decode cX1_payFromPurse 5 = .ok (.aload_n 0, 1) := by decide +kernel
theorem dX1_payFromPurse_6 : decode cX1_payFromPurse 6 = .ok (.getfield 15, 3) := by decide +kernel
theorem dX1_payFromPurse_9 : decode cX1_payFromPurse 9 = .ok (.iload_n 1, 1) := by decide +kernel
theorem dX1_payFromPurse_10 : decode cX1_payFromPurse 10 = .ok (.invokestatic 48, 3) := by decide +kernel
theorem dX1_payFromPurse_13 : decode cX1_payFromPurse 13 = .ok (.iload_n 2, 1) := by decide +kernel
theorem dX1_payFromPurse_14 : decode cX1_payFromPurse 14 = .ok (.isub, 1) := by decide +kernel
theorem dX1_payFromPurse_15 : decode cX1_payFromPurse 15 = .ok (.invokestatic 40, 3) := by decide +kernel
theorem dX1_payFromPurse_18 : decode cX1_payFromPurse 18 = .ok (.iload_n 2, 1) := by decide +kernel
theorem dX1_payFromPurse_19 : decode cX1_payFromPurse 19 = .ok (.ireturn, 1) := by decide +kernel
set_option maxRecDepth 20000 in
theorem ggX1_howManyMasked_X5_at : GoodIn wsX1_howManyMasked wsX5_at := goodIn_r _ [5] (by decide +kernel) (by decide +kernel)
set_option maxRecDepth 20000 in
theorem gX1_howManyMasked_X5_at_n48 : GoodIn wsX1_howManyMasked (wsX5_at) := ggX1_howManyMasked_X5_at
theorem dX1_howManyMasked_0 : decode cX1_howManyMasked 0 = .ok (.iconst 0, 1) := by decide +kernel
theorem dX1_howManyMasked_1 : decode cX1_howManyMasked 1 = .ok (.istore_n 1, 1) := by decide +kernel
theorem dX1_howManyMasked_2 : decode cX1_howManyMasked 2 = .ok (.iconst 0, 1) := by decide +kernel
theorem dX1_howManyMasked_3 : decode cX1_howManyMasked 3 = .ok (.istore_n 2, 1) := by decide +kernel
theorem dX1_howManyMasked_4 : decode cX1_howManyMasked 4 = .ok (.iload_n 2, 1) := by decide +kernel
theorem dX1_howManyMasked_5 : decode cX1_howManyMasked 5 = .ok (.aload_n 0, 1) := by decide +kernel
theorem dX1_howManyMasked_6 : decode cX1_howManyMasked 6 = .ok (.getfield 36, 3) := by decide +kernel
theorem dX1_howManyMasked_9 : decode cX1_howManyMasked 9 = .ok (.if_icmp .ge 28, 3) := by decide +kernel
theorem dX1_howManyMasked_12 : decode cX1_howManyMasked 12 = .ok (.iload_n 1, 1) := by decide +kernel
theorem dX1_howManyMasked_13 : decode cX1_howManyMasked 13 = .ok (.aload_n 0, 1) := by decide +kernel
theorem dX1_howManyMasked_14 : decode cX1_howManyMasked 14 = .ok (.getfield 30, 3) := by decide +kernel
theorem dX1_howManyMasked_17 : decode cX1_howManyMasked 17 = .ok (.iload_n 2, 1) := by decide +kernel
theorem dX1_howManyMasked_18 : decode cX1_howManyMasked 18 = .ok (.invokestatic 48, 3) := by decide +kernel
theorem dX1_howManyMasked_21 : decode cX1_howManyMasked 21 = .ok (.ifCond .le 7, 3) := by decide +kernel
theorem dX1_howManyMasked_24 : decode cX1_howManyMasked 24 = .ok (.iconst 1, 1) := by decide +kernel
theorem dX1_howManyMasked_25 : decode cX1_howManyMasked 25 = .ok (.goto 4, 3) := by decide +kernel
theorem dX1_howManyMasked_28 : decode cX1_howManyMasked 28 = .ok (.iconst 0, 1) := by decide +kernel
theorem dX1_howManyMasked_29 : decode cX1_howManyMasked 29 = .ok (.iadd, 1) := by decide +kernel
theorem dX1_howManyMasked_30 : decode cX1_howManyMasked 30 = .ok (.istore_n 1, 1) := by decide +kernel
theorem dX1_howManyMasked_31 : decode cX1_howManyMasked 31 = .ok (.iinc 2 1, 3) := by decide +kernel
theorem dX1_howManyMasked_34 : decode cX1_howManyMasked 34 = .ok (.goto (-30), 3) := by decide +kernel
theorem dX1_howManyMasked_37 : decode cX1_howManyMasked 37 = .ok (.iload_n 1, 1) := by decide +kernel
theorem dX1_howManyMasked_38 : decode cX1_howManyMasked 38 = .ok (.ireturn, 1) := by decide +kernel
set_option maxRecDepth 20000 in
theorem ggX1_bitsOfInside_X1_isIn : GoodIn wsX1_bitsOfInside wsX1_isIn := goodIn_r _ [6, 7, 8, 9, 10, 11, 12, 13, 14, 15, 16, 17, 18, 19] (by decide +kernel) (by decide +kernel)
set_option maxRecDepth 20000 in
theorem gX1_bitsOfInside_X1_isIn : GoodIn wsX1_bitsOfInside (wsV RX1 60 RX1 yX1_isIn wsX1_isIn) := goodIn_app (goodIn_of _ (by decide +kernel)) ggX1_bitsOfInside_X1_isIn
theorem dX1_bitsOfInside_0 : decode cX1_bitsOfInside 0 = .ok (.iconst 0, 1) := by decide +kernel
theorem dX1_bitsOfInside_1 : decode cX1_bitsOfInside 1 = .ok (.istore_n 1, 1) := by decide +kernel
theorem dX1_bitsOfInside_2 : decode cX1_bitsOfInside 2 = .ok (.iconst 0, 1) := by decide +kernel
theorem dX1_bitsOfInside_3 : decode cX1_bitsOfInside 3 = .ok (.istore_n 2, 1) := by decide +kernel
theorem dX1_bitsOfInside_4 : decode cX1_bitsOfInside 4 = .ok (.iload_n 2, 1) := by decide +kernel
theorem dX1_bitsOfInside_5 : decode cX1_bitsOfInside 5 = .ok (.aload_n 0, 1) := by decide +kernel
theorem dX1_bitsOfInside_6 : decode cX1_bitsOfInside 6 = .ok (.getfield 36, 3) := by decide +kernel
theorem dX1_bitsOfInside_9 : decode cX1_bitsOfInside 9 = .ok (.if_icmp .ge 27, 3) := by decide +kernel
theorem dX1_bitsOfInside_12 : decode cX1_bitsOfInside 12 = .ok (.iload_n 1, 1) := by decide +kernel
theorem dX1_bitsOfInside_13 : decode cX1_bitsOfInside 13 = .ok (.aload_n 0, 1) := by decide +kernel
theorem dX1_bitsOfInside_14 : decode cX1_bitsOfInside 14 = .ok (.iload_n 2, 1) := by decide +kernel
theorem dX1_bitsOfInside_15 : decode cX1_bitsOfInside 15 = .ok (.invokevirtual 60, 3) := by decide +kernel
theorem dX1_bitsOfInside_18 : decode cX1_bitsOfInside 18 = .ok (.ifCond .eq 9, 3) := by decide +kernel
theorem dX1_bitsOfInside_21 : decode cX1_bitsOfInside 21 = .ok (.iconst 1, 1) := by decide +kernel
theorem dX1_bitsOfInside_22 : decode cX1_bitsOfInside 22 = .ok (.iload_n 2, 1) := by decide +kernel
theorem dX1_bitsOfInside_23 : decode cX1_bitsOfInside 23 = .ok (.ishl, 1) := by decide +kernel
theorem dX1_bitsOfInside_24 : decode cX1_bitsOfInside 24 = .ok (.goto 4, 3) := by decide +kernel
theorem dX1_bitsOfInside_27 : decode cX1_bitsOfInside 27 = .ok (.iconst 0, 1) := by decide +kernel
theorem dX1_bitsOfInside_28 : decode cX1_bitsOfInside 28 = .ok (.ior, 1) := by decide +kernel
theorem dX1_bitsOfInside_29 : decode cX1_bitsOfInside 29 = .ok (.istore_n 1, 1) := by decide +kernel
theorem dX1_bitsOfInside_30 : decode cX1_bitsOfInside 30 = .ok (.iinc 2 1, 3) := by decide +kernel
theorem dX1_bitsOfInside_33 : decode cX1_bitsOfInside 33 = .ok (.goto (-29), 3) := by decide +kernel
theorem dX1_bitsOfInside_36 : decode cX1_bitsOfInside 36 = .ok (.iload_n 1, 1) := by decide +kernel
theorem dX1_bitsOfInside_37 : decode cX1_bitsOfInside 37 = .ok (.ireturn, 1) := by decide +kernel
set_option maxRecDepth 20000 in
theorem ggX1_passNight_X5_put : GoodIn wsX1_passNight wsX5_put := goodIn_r _ [10] (by decide +kernel) (by decide +kernel)
set_option maxRecDepth 20000 in
theorem gX1_passNight_X5_put_n40 : GoodIn wsX1_passNight (wsX5_put) := ggX1_passNight_X5_put
set_option maxRecDepth 20000 in
theorem ggX1_passNight_X5_at : GoodIn wsX1_passNight wsX5_at := goodIn_r _ [12] (by decide +kernel) (by decide +kernel)
set_option maxRecDepth 20000 in
theorem gX1_passNight_X5_at_n48 : GoodIn wsX1_passNight (wsX5_at) := ggX1_passNight_X5_at
theorem dX1_passNight_0 : decode cX1_passNight 0 = .ok (.iconst 0, 1) := by decide +kernel
theorem dX1_passNight_1 : decode cX1_passNight 1 = .ok (.istore_n 1, 1) := by decide +kernel
theorem dX1_passNight_2 : decode cX1_passNight 2 = .ok (.iload_n 1, 1) := by decide +kernel
theorem dX1_passNight_3 : decode cX1_passNight 3 = .ok (.aload_n 0, 1) := by decide +kernel
theorem dX1_passNight_4 : decode cX1_passNight 4 = .ok (.getfield 36, 3) := by decide +kernel
theorem dX1_passNight_7 : decode cX1_passNight 7 = .ok (.if_icmp .ge 40, 3) := by decide +kernel
theorem dX1_passNight_10 : decode cX1_passNight 10 = .ok (.aload_n 0, 1) := by decide +kernel
theorem dX1_passNight_11 : decode cX1_passNight 11 = .ok (.getfield 33, 3) := by decide +kernel
theorem dX1_passNight_14 : decode cX1_passNight 14 = .ok (.iload_n 1, 1) := by decide +kernel
theorem dX1_passNight_15 : decode cX1_passNight 15 = .ok (.iconst 0, 1) := by decide +kernel
theorem dX1_passNight_16 : decode cX1_passNight 16 = .ok (.invokestatic 40, 3) := by decide +kernel
theorem dX1_passNight_19 : decode cX1_passNight 19 = .ok (.aload_n 0, 1) := by decide +kernel
theorem dX1_passNight_20 : decode cX1_passNight 20 = .ok (.getfield 30, 3) := by decide +kernel
theorem dX1_passNight_23 : decode cX1_passNight 23 = .ok (.iload_n 1, 1) := by decide +kernel
theorem dX1_passNight_24 : decode cX1_passNight 24 = .ok (.aload_n 0, 1) := by decide +kernel
theorem dX1_passNight_25 : decode cX1_passNight 25 = .ok (.getfield 30, 3) := by decide +kernel
theorem dX1_passNight_28 : decode cX1_passNight 28 = .ok (.iload_n 1, 1) := by decide +kernel
theorem dX1_passNight_29 : decode cX1_passNight 29 = .ok (.invokestatic 48, 3) := by decide +kernel
theorem dX1_passNight_32 : decode cX1_passNight 32 = .ok (.iconst 1, 1) := by decide +kernel
theorem dX1_passNight_33 : decode cX1_passNight 33 = .ok (.isub, 1) := by decide +kernel
theorem dX1_passNight_34 : decode cX1_passNight 34 = .ok (.iconst 0, 1) := by decide +kernel
theorem dX1_passNight_35 : decode cX1_passNight 35 = .ok (.invokestatic 64, 3) := by decide +kernel
theorem dX1_passNight_38 : decode cX1_passNight 38 = .ok (.invokestatic 40, 3) := by decide +kernel
theorem dX1_passNight_41 : decode cX1_passNight 41 = .ok (.iinc 1 1, 3) := by decide +kernel
theorem dX1_passNight_44 : decode cX1_passNight 44 = .ok (.goto (-42), 3) := by decide +kernel
theorem dX1_passNight_47 : decode cX1_passNight 47 = .ok (.return_, 1) := by decide +kernel
set_option maxRecDepth 20000 in
theorem ggX1_copyGuests_X5_copyRow : GoodIn wsX1_copyGuests wsX5_copyRow := goodIn_r _ [12, 13, 14, 15, 16, 17, 18, 19, 20] (by decide +kernel) (by decide +kernel)
set_option maxRecDepth 20000 in
theorem gX1_copyGuests_X5_copyRow_n69 : GoodIn wsX1_copyGuests (wsX5_copyRow) := ggX1_copyGuests_X5_copyRow
theorem dX1_copyGuests_0 : decode cX1_copyGuests 0 = .ok (.aload_n 1, 1) := by decide +kernel
theorem dX1_copyGuests_1 : decode cX1_copyGuests 1 = .ok (.getfield 9, 3) := by decide +kernel
theorem dX1_copyGuests_4 : decode cX1_copyGuests 4 = .ok (.aload_n 0, 1) := by decide +kernel
theorem dX1_copyGuests_5 : decode cX1_copyGuests 5 = .ok (.getfield 9, 3) := by decide +kernel
theorem dX1_copyGuests_8 : decode cX1_copyGuests 8 = .ok (.invokestatic 69, 3) := by decide +kernel
theorem dX1_copyGuests_11 : decode cX1_copyGuests 11 = .ok (.aload_n 1, 1) := by decide +kernel
theorem dX1_copyGuests_12 : decode cX1_copyGuests 12 = .ok (.getfield 15, 3) := by decide +kernel
theorem dX1_copyGuests_15 : decode cX1_copyGuests 15 = .ok (.aload_n 0, 1) := by decide +kernel
theorem dX1_copyGuests_16 : decode cX1_copyGuests 16 = .ok (.getfield 15, 3) := by decide +kernel
theorem dX1_copyGuests_19 : decode cX1_copyGuests 19 = .ok (.invokestatic 69, 3) := by decide +kernel
theorem dX1_copyGuests_22 : decode cX1_copyGuests 22 = .ok (.aload_n 1, 1) := by decide +kernel
theorem dX1_copyGuests_23 : decode cX1_copyGuests 23 = .ok (.getfield 18, 3) := by decide +kernel
theorem dX1_copyGuests_26 : decode cX1_copyGuests 26 = .ok (.aload_n 0, 1) := by decide +kernel
theorem dX1_copyGuests_27 : decode cX1_copyGuests 27 = .ok (.getfield 18, 3) := by decide +kernel
theorem dX1_copyGuests_30 : decode cX1_copyGuests 30 = .ok (.invokestatic 69, 3) := by decide +kernel
theorem dX1_copyGuests_33 : decode cX1_copyGuests 33 = .ok (.aload_n 1, 1) := by decide +kernel
theorem dX1_copyGuests_34 : decode cX1_copyGuests 34 = .ok (.getfield 21, 3) := by decide +kernel
theorem dX1_copyGuests_37 : decode cX1_copyGuests 37 = .ok (.aload_n 0, 1) := by decide +kernel
theorem dX1_copyGuests_38 : decode cX1_copyGuests 38 = .ok (.getfield 21, 3) := by decide +kernel
theorem dX1_copyGuests_41 : decode cX1_copyGuests 41 = .ok (.invokestatic 69, 3) := by decide +kernel
theorem dX1_copyGuests_44 : decode cX1_copyGuests 44 = .ok (.aload_n 1, 1) := by decide +kernel
theorem dX1_copyGuests_45 : decode cX1_copyGuests 45 = .ok (.getfield 24, 3) := by decide +kernel
theorem dX1_copyGuests_48 : decode cX1_copyGuests 48 = .ok (.aload_n 0, 1) := by decide +kernel
theorem dX1_copyGuests_49 : decode cX1_copyGuests 49 = .ok (.getfield 24, 3) := by decide +kernel
theorem dX1_copyGuests_52 : decode cX1_copyGuests 52 = .ok (.invokestatic 69, 3) := by decide +kernel
theorem dX1_copyGuests_55 : decode cX1_copyGuests 55 = .ok (.aload_n 1, 1) := by decide +kernel
theorem dX1_copyGuests_56 : decode cX1_copyGuests 56 = .ok (.getfield 27, 3) := by decide +kernel
theorem dX1_copyGuests_59 : decode cX1_copyGuests 59 = .ok (.aload_n 0, 1) := by decide +kernel
theorem dX1_copyGuests_60 : decode cX1_copyGuests 60 = .ok (.getfield 27, 3) := by decide +kernel
theorem dX1_copyGuests_63 : decode cX1_copyGuests 63 = .ok (.invokestatic 69, 3) := by decide +kernel
theorem dX1_copyGuests_66 : decode cX1_copyGuests 66 = .ok (.aload_n 1, 1) := by decide +kernel
theorem dX1_copyGuests_67 : decode cX1_copyGuests 67 = .ok (.getfield 30, 3) := by decide +kernel
theorem dX1_copyGuests_70 : decode cX1_copyGuests 70 = .ok (.aload_n 0, 1) := by decide +kernel
theorem dX1_copyGuests_71 : decode cX1_copyGuests 71 = .ok (.getfield 30, 3) := by decide +kernel
theorem dX1_copyGuests_74 : decode cX1_copyGuests 74 = .ok (.invokestatic 69, 3) := by decide +kernel
theorem dX1_copyGuests_77 : decode cX1_copyGuests 77 = .ok (.aload_n 1, 1) := by decide +kernel
theorem dX1_copyGuests_78 : decode cX1_copyGuests 78 = .ok (.getfield 33, 3) := by decide +kernel
theorem dX1_copyGuests_81 : decode cX1_copyGuests 81 = .ok (.aload_n 0, 1) := by decide +kernel
theorem dX1_copyGuests_82 : decode cX1_copyGuests 82 = .ok (.getfield 33, 3) := by decide +kernel
theorem dX1_copyGuests_85 : decode cX1_copyGuests 85 = .ok (.invokestatic 69, 3) := by decide +kernel
theorem dX1_copyGuests_88 : decode cX1_copyGuests 88 = .ok (.aload_n 0, 1) := by decide +kernel
theorem dX1_copyGuests_89 : decode cX1_copyGuests 89 = .ok (.aload_n 1, 1) := by decide +kernel
theorem dX1_copyGuests_90 : decode cX1_copyGuests 90 = .ok (.getfield 36, 3) := by decide +kernel
theorem dX1_copyGuests_93 : decode cX1_copyGuests 93 = .ok (.putfield 36, 3) := by decide +kernel
theorem dX1_copyGuests_96 : decode cX1_copyGuests 96 = .ok (.return_, 1) := by decide +kernel
set_option maxRecDepth 20000 in
theorem ggX2_init_X0_init : GoodIn wsX2_init wsX0_init := goodIn_r _ [9, 10, 2, 3, 11, 12, 13, 14, 15, 16, 17, 18, 19, 20, 21, 22, 23, 24, 25, 26, 27, 28, 29, 30, 31, 32, 33, 34, 35, 36, 37, 38, 39, 40, 41, 42, 43, 44, 45, 46, 47, 48, 49, 65, 66, 67, 68, 69, 70, 71, 72, 73, 53, 54, 55, 56, 57, 58, 59, 60, 61, 62, 63, 64, 74, 75] (by decide +kernel) (by decide +kernel)
set_option maxRecDepth 20000 in
theorem gX2_init_X0_init_n17 : GoodIn wsX2_init (wsX0_init) := ggX2_init_X0_init
theorem dX2_init_0 : decode cX2_init 0 = .ok (.aload_n 0, 1) := by decide +kernel
theorem dX2_init_1 : decode cX2_init 1 = .ok (.invokespecial 3, 3) := by decide +kernel
theorem dX2_init_4 : decode cX2_init 4 = .ok (.aload_n 0, 1) := by decide +kernel
theorem dX2_init_5 : decode cX2_init 5 = .ok (.bipush 6, 2) := by decide +kernel
theorem dX2_init_7 : decode cX2_init 7 = .ok (.anewarray 9, 3) := by decide +kernel
theorem dX2_init_10 : decode cX2_init 10 = .ok (.putfield 11, 3) := by decide +kernel
theorem dX2_init_13 : decode cX2_init 13 = .ok (.iconst 0, 1) := by decide +kernel
theorem dX2_init_14 : decode cX2_init 14 = .ok (.istore_n 1, 1) := by decide +kernel
theorem dX2_init_15 : decode cX2_init 15 = .ok (.iload_n 1, 1) := by decide +kernel
theorem dX2_init_16 : decode cX2_init 16 = .ok (.aload_n 0, 1) := by decide +kernel
theorem dX2_init_17 : decode cX2_init 17 = .ok (.getfield 11, 3) := by decide +kernel
theorem dX2_init_20 : decode cX2_init 20 = .ok (.arraylength, 1) := by decide +kernel
theorem dX2_init_21 : decode cX2_init 21 = .ok (.if_icmp .ge 22, 3) := by decide +kernel
theorem dX2_init_24 : decode cX2_init 24 = .ok (.aload_n 0, 1) := by decide +kernel
theorem dX2_init_25 : decode cX2_init 25 = .ok (.getfield 11, 3) := by decide +kernel
theorem dX2_init_28 : decode cX2_init 28 = .ok (.iload_n 1, 1) := by decide +kernel
theorem dX2_init_29 : decode cX2_init 29 = .ok (.new 9, 3) := by decide +kernel
theorem dX2_init_32 : decode cX2_init 32 = .ok (.dup, 1) := by decide +kernel
theorem dX2_init_33 : decode cX2_init 33 = .ok (.invokespecial 17, 3) := by decide +kernel
theorem dX2_init_36 : decode cX2_init 36 = .ok (.aastore, 1) := by decide +kernel
theorem dX2_init_37 : decode cX2_init 37 = .ok (.iinc 1 1, 3) := by decide +kernel
theorem dX2_init_40 : decode cX2_init 40 = .ok (.goto (-25), 3) := by decide +kernel
theorem dX2_init_43 : decode cX2_init 43 = .ok (.return_, 1) := by decide +kernel
set_option maxRecDepth 20000 in
theorem ggX2_save_X2_stateAt : GoodIn wsX2_save wsX2_stateAt := goodIn_r _ [7, 2, 8, 55, 56, 57] (by decide +kernel) (by decide +kernel)
set_option maxRecDepth 20000 in
theorem gX2_save_X2_stateAt : GoodIn wsX2_save (wsV RX2 25 RX2 yX2_stateAt wsX2_stateAt) := goodIn_app (goodIn_of _ (by decide +kernel)) ggX2_save_X2_stateAt
set_option maxRecDepth 20000 in
theorem ggX2_save_X0_copyState : GoodIn wsX2_save wsX0_copyState := goodIn_r _ [12, 13, 14, 15, 16, 17, 18, 19, 20, 21, 22, 23, 24, 25, 26, 27, 28, 29, 30, 31, 32, 33, 34, 35, 36, 37, 38, 39, 40, 41, 42, 43, 44, 45, 46, 47, 48, 49, 50, 51, 52, 53, 54, 58, 59, 60, 61, 62, 63, 64, 65, 66, 67, 68, 69, 70, 71, 72, 73, 74, 75, 76, 77, 78, 79, 80] (by decide +kernel) (by decide +kernel)
set_option maxRecDepth 20000 in
theorem gX2_save_X0_copyState_n29 : GoodIn wsX2_save (wsX0_copyState) := ggX2_save_X0_copyState
theorem dX2_save_0 : decode cX2_save 0 = .ok (.aload_n 0, 1) := by decide +kernel
theorem dX2_save_1 : decode cX2_save 1 = .ok (.getfield 18, 3) := by decide +kernel
theorem dX2_save_4 : decode cX2_save 4 = .ok (.bipush 6, 2) := by decide +kernel
theorem dX2_save_6 : decode cX2_save 6 = .ok (.if_icmp .ne 26, 3) := by decide +kernel
theorem dX2_save_9 : decode cX2_save 9 = .ok (.aload_n 0, 1) := by decide +kernel
theorem dX2_save_10 : decode cX2_save 10 = .ok (.aload_n 0, 1) := by decide +kernel
theorem dX2_save_11 : decode cX2_save 11 = .ok (.getfield 22, 3) := by decide +kernel
theorem dX2_save_14 : decode cX2_save 14 = .ok (.iconst 1, 1) := by decide +kernel
theorem dX2_save_15 : decode cX2_save 15 = .ok (.iadd, 1) := by decide +kernel
theorem dX2_save_16 : decode cX2_save 16 = .ok (.bipush 6, 2) := by decide +kernel
theorem dX2_save_18 : decode cX2_save 18 = .ok (.irem, 1) := by decide +kernel
theorem dX2_save_19 : decode cX2_save 19 = .ok (.putfield 22, 3) := by decide +kernel
theorem dX2_save_22 : decode cX2_save 22 = .ok (.aload_n 0, 1) := by decide +kernel
theorem dX2_save_23 : decode cX2_save 23 = .ok (.dup, 1) := by decide +kernel
theorem dX2_save_24 : decode cX2_save 24 = .ok (.getfield 18, 3) := by decide +kernel
theorem dX2_save_27 : decode cX2_save 27 = .ok (.iconst 1, 1) := by decide +kernel
theorem dX2_save_28 : decode cX2_save 28 = .ok (.isub, 1) := by decide +kernel
theorem dX2_save_29 : decode cX2_save 29 = .ok (.putfield 18, 3) := by decide +kernel
theorem dX2_save_32 : decode cX2_save 32 = .ok (.aload_n 0, 1) := by decide +kernel
theorem dX2_save_33 : decode cX2_save 33 = .ok (.aload_n 0, 1) := by decide +kernel
theorem dX2_save_34 : decode cX2_save 34 = .ok (.getfield 18, 3) := by decide +kernel
theorem dX2_save_37 : decode cX2_save 37 = .ok (.invokevirtual 25, 3) := by decide +kernel
theorem dX2_save_40 : decode cX2_save 40 = .ok (.astore_n 2, 1) := by decide +kernel
theorem dX2_save_41 : decode cX2_save 41 = .ok (.aload_n 2, 1) := by decide +kernel
theorem dX2_save_42 : decode cX2_save 42 = .ok (.ifnull 18, 3) := by decide +kernel
theorem dX2_save_45 : decode cX2_save 45 = .ok (.aload_n 2, 1) := by decide +kernel
theorem dX2_save_46 : decode cX2_save 46 = .ok (.aload_n 1, 1) := by decide +kernel
theorem dX2_save_47 : decode cX2_save 47 = .ok (.invokevirtual 29, 3) := by decide +kernel
theorem dX2_save_50 : decode cX2_save 50 = .ok (.aload_n 0, 1) := by decide +kernel
theorem dX2_save_51 : decode cX2_save 51 = .ok (.dup, 1) := by decide +kernel
theorem dX2_save_52 : decode cX2_save 52 = .ok (.getfield 18, 3) := by decide +kernel
theorem dX2_save_55 : decode cX2_save 55 = .ok (.iconst 1, 1) := by decide +kernel
theorem dX2_save_56 : decode cX2_save 56 = .ok (.iadd, 1) := by decide +kernel
theorem dX2_save_57 : decode cX2_save 57 = .ok (.putfield 18, 3) := by decide +kernel
theorem dX2_save_60 : decode cX2_save 60 = .ok (.return_, 1) := by decide +kernel
set_option maxRecDepth 20000 in
theorem ggX2_bringBack_X2_stateAt : GoodIn wsX2_bringBack wsX2_stateAt := goodIn_r _ [6, 7, 8, 55, 56, 57] (by decide +kernel) (by decide +kernel)
set_option maxRecDepth 20000 in
theorem gX2_bringBack_X2_stateAt : GoodIn wsX2_bringBack (wsV RX2 25 RX2 yX2_stateAt wsX2_stateAt) := goodIn_app (goodIn_of _ (by decide +kernel)) ggX2_bringBack_X2_stateAt
set_option maxRecDepth 20000 in
theorem ggX2_bringBack_X0_copyState : GoodIn wsX2_bringBack wsX0_copyState := goodIn_r _ [12, 13, 14, 15, 16, 17, 18, 19, 20, 21, 22, 23, 24, 25, 26, 27, 28, 29, 30, 31, 32, 33, 34, 35, 36, 37, 38, 39, 40, 41, 42, 43, 44, 45, 46, 47, 48, 49, 50, 51, 52, 53, 54, 58, 59, 60, 61, 62, 63, 64, 65, 66, 67, 68, 69, 70, 71, 72, 73, 74, 75, 76, 77, 78, 79, 80] (by decide +kernel) (by decide +kernel)
set_option maxRecDepth 20000 in
theorem gX2_bringBack_X0_copyState_n29 : GoodIn wsX2_bringBack (wsX0_copyState) := ggX2_bringBack_X0_copyState
theorem dX2_bringBack_0 : decode cX2_bringBack 0 = .ok (.aload_n 0, 1) := by decide +kernel
theorem dX2_bringBack_1 : decode cX2_bringBack 1 = .ok (.aload_n 0, 1) := by decide +kernel
theorem dX2_bringBack_2 : decode cX2_bringBack 2 = .ok (.getfield 18, 3) := by decide +kernel
theorem dX2_bringBack_5 : decode cX2_bringBack 5 = .ok (.iconst 1, 1) := by decide +kernel
theorem dX2_bringBack_6 : decode cX2_bringBack 6 = .ok (.isub, 1) := by decide +kernel
theorem dX2_bringBack_7 : decode cX2_bringBack 7 = .ok (.invokevirtual 25, 3) := by decide +kernel
theorem dX2_bringBack_10 : decode cX2_bringBack 10 = .ok (.astore_n 2, 1) := by decide +kernel
theorem dX2_bringBack_11 : decode cX2_bringBack 11 = .ok (.aload_n 2, 1) := by decide +kernel
theorem dX2_bringBack_12 : decode cX2_bringBack 12 = .ok (.ifnull 18, 3) := by decide +kernel
theorem dX2_bringBack_15 : decode cX2_bringBack 15 = .ok (.aload_n 1, 1) := by decide +kernel
theorem dX2_bringBack_16 : decode cX2_bringBack 16 = .ok (.aload_n 2, 1) := by decide +kernel
theorem dX2_bringBack_17 : decode cX2_bringBack 17 = .ok (.invokevirtual 29, 3) := by decide +kernel
theorem dX2_bringBack_20 : decode cX2_bringBack 20 = .ok (.aload_n 0, 1) := by decide +kernel
theorem dX2_bringBack_21 : decode cX2_bringBack 21 = .ok (.dup, 1) := by decide +kernel
theorem dX2_bringBack_22 : decode cX2_bringBack 22 = .ok (.getfield 18, 3) := by decide +kernel
theorem dX2_bringBack_25 : decode cX2_bringBack 25 = .ok (.iconst 1, 1) := by decide +kernel
theorem dX2_bringBack_26 : decode cX2_bringBack 26 = .ok (.isub, 1) := by decide +kernel
theorem dX2_bringBack_27 : decode cX2_bringBack 27 = .ok (.putfield 18, 3) := by decide +kernel
theorem dX2_bringBack_30 : decode cX2_bringBack 30 = .ok (.return_, 1) := by decide +kernel
theorem dX2_stateAt_0 : decode cX2_stateAt 0 = .ok (.aload_n 0, 1) := by decide +kernel
theorem dX2_stateAt_1 : decode cX2_stateAt 1 = .ok (.getfield 22, 3) := by decide +kernel
theorem dX2_stateAt_4 : decode cX2_stateAt 4 = .ok (.iload_n 1, 1) := by decide +kernel
theorem dX2_stateAt_5 : decode cX2_stateAt 5 = .ok (.iadd, 1) := by decide +kernel
theorem dX2_stateAt_6 : decode cX2_stateAt 6 = .ok (.bipush 6, 2) := by decide +kernel
theorem dX2_stateAt_8 : decode cX2_stateAt 8 = .ok (.irem, 1) := by decide +kernel
theorem dX2_stateAt_9 : decode cX2_stateAt 9 = .ok (.istore_n 2, 1) := by decide +kernel
theorem dX2_stateAt_10 : decode cX2_stateAt 10 = .ok (.iload_n 2, 1) := by decide +kernel
theorem dX2_stateAt_11 : decode cX2_stateAt 11 = .ok (.ifCond .lt 21, 3) := by decide +kernel
theorem dX2_stateAt_14 : decode cX2_stateAt 14 = .ok (.iload_n 2, 1) := by decide +kernel
theorem dX2_stateAt_15 : decode cX2_stateAt 15 = .ok (.aload_n 0, 1) := by decide +kernel
theorem dX2_stateAt_16 : decode cX2_stateAt 16 = .ok (.getfield 11, 3) := by decide +kernel
theorem dX2_stateAt_19 : decode cX2_stateAt 19 = .ok (.arraylength, 1) := by decide +kernel
theorem dX2_stateAt_20 : decode cX2_stateAt 20 = .ok (.if_icmp .ge 12, 3) := by decide +kernel
theorem dX2_stateAt_23 : decode cX2_stateAt 23 = .ok (.aload_n 0, 1) := by decide +kernel
theorem dX2_stateAt_24 : decode cX2_stateAt 24 = .ok (.getfield 11, 3) := by decide +kernel
theorem dX2_stateAt_27 : decode cX2_stateAt 27 = .ok (.iload_n 2, 1) := by decide +kernel
theorem dX2_stateAt_28 : decode cX2_stateAt 28 = .ok (.aaload, 1) := by decide +kernel
theorem dX2_stateAt_29 : decode cX2_stateAt 29 = .ok (.goto 4, 3) := by decide +kernel
theorem dX2_stateAt_32 : decode cX2_stateAt 32 = .ok (.aconst_null, 1) := by decide +kernel
theorem dX2_stateAt_33 : decode cX2_stateAt 33 = .ok (.areturn, 1) := by decide +kernel
theorem dX3_init_0 : decode cX3_init 0 = .ok (.aload_n 0, 1) := by decide +kernel
theorem dX3_init_1 : decode cX3_init 1 = .ok (.invokespecial 3, 3) := by decide +kernel
theorem dX3_init_4 : decode cX3_init 4 = .ok (.aload_n 0, 1) := by decide +kernel
theorem dX3_init_5 : decode cX3_init 5 = .ok (.bipush 30, 2) := by decide +kernel
theorem dX3_init_7 : decode cX3_init 7 = .ok (.newarray .int, 2) := by decide +kernel
theorem dX3_init_9 : decode cX3_init 9 = .ok (.putfield 9, 3) := by decide +kernel
theorem dX3_init_12 : decode cX3_init 12 = .ok (.aload_n 0, 1) := by decide +kernel
theorem dX3_init_13 : decode cX3_init 13 = .ok (.iconst 3, 1) := by decide +kernel
theorem dX3_init_14 : decode cX3_init 14 = .ok (.newarray .int, 2) := by decide +kernel
theorem dX3_init_16 : decode cX3_init 16 = .ok (.putfield 15, 3) := by decide +kernel
theorem dX3_init_19 : decode cX3_init 19 = .ok (.return_, 1) := by decide +kernel
set_option maxRecDepth 20000 in
theorem ggX3_standingAt_X5_at : GoodIn wsX3_standingAt wsX5_at := goodIn_r _ [4] (by decide +kernel) (by decide +kernel)
set_option maxRecDepth 20000 in
theorem gX3_standingAt_X5_at_n18 : GoodIn wsX3_standingAt (wsX5_at) := ggX3_standingAt_X5_at
theorem dX3_standingAt_0 : decode cX3_standingAt 0 = .ok (.aload_n 0, 1) := by decide +kernel
theorem dX3_standingAt_1 : decode cX3_standingAt 1 = .ok (.getfield 9, 3) := by decide +kernel
theorem dX3_standingAt_4 : decode cX3_standingAt 4 = .ok (.iload_n 1, 1) := by decide +kernel
theorem dX3_standingAt_5 : decode cX3_standingAt 5 = .ok (.bipush 10, 2) := by decide +kernel
theorem dX3_standingAt_7 : decode cX3_standingAt 7 = .ok (.imul, 1) := by decide +kernel
theorem dX3_standingAt_8 : decode cX3_standingAt 8 = .ok (.iload_n 2, 1) := by decide +kernel
theorem dX3_standingAt_9 : decode cX3_standingAt 9 = .ok (.iadd, 1) := by decide +kernel
theorem dX3_standingAt_10 : decode cX3_standingAt 10 = .ok (.invokestatic 18, 3) := by decide +kernel
theorem dX3_standingAt_13 : decode cX3_standingAt 13 = .ok (.ireturn, 1) := by decide +kernel
set_option maxRecDepth 20000 in
theorem ggX3_enter_X5_at : GoodIn wsX3_enter wsX5_at := goodIn_r _ [5] (by decide +kernel) (by decide +kernel)
set_option maxRecDepth 20000 in
theorem gX3_enter_X5_at_n18 : GoodIn wsX3_enter (wsX5_at) := ggX3_enter_X5_at
set_option maxRecDepth 20000 in
theorem ggX3_enter_X5_put : GoodIn wsX3_enter wsX5_put := goodIn_r _ [7] (by decide +kernel) (by decide +kernel)
set_option maxRecDepth 20000 in
theorem gX3_enter_X5_put_n22 : GoodIn wsX3_enter (wsX5_put) := ggX3_enter_X5_put
theorem dX3_enter_0 : decode cX3_enter 0 = .ok (.aload_n 0, 1) := by decide +kernel
theorem dX3_enter_1 : decode cX3_enter 1 = .ok (.getfield 15, 3) := by decide +kernel
theorem dX3_enter_4 : decode cX3_enter 4 = .ok (.iload_n 2, 1) := by decide +kernel
theorem dX3_enter_5 : decode cX3_enter 5 = .ok (.invokestatic 18, 3) := by decide +kernel
theorem dX3_enter_8 : decode cX3_enter 8 = .ok (.istore_n 3, 1) := by decide +kernel
theorem dX3_enter_9 : decode cX3_enter 9 = .ok (.aload_n 0, 1) := by decide +kernel
theorem dX3_enter_10 : decode cX3_enter 10 = .ok (.getfield 9, 3) := by decide +kernel
theorem dX3_enter_13 : decode cX3_enter 13 = .ok (.iload_n 2, 1) := by decide +kernel
theorem dX3_enter_14 : decode cX3_enter 14 = .ok (.bipush 10, 2) := by decide +kernel
theorem dX3_enter_16 : decode cX3_enter 16 = .ok (.imul, 1) := by decide +kernel
theorem dX3_enter_17 : decode cX3_enter 17 = .ok (.iload_n 3, 1) := by decide +kernel
theorem dX3_enter_18 : decode cX3_enter 18 = .ok (.iadd, 1) := by decide +kernel
theorem dX3_enter_19 : decode cX3_enter 19 = .ok (.iload_n 1, 1) := by decide +kernel
theorem dX3_enter_20 : decode cX3_enter 20 = .ok (.invokestatic 22, 3) := by decide +kernel
theorem dX3_enter_23 : decode cX3_enter 23 = .ok (.aload_n 0, 1) := by decide +kernel
theorem dX3_enter_24 : decode cX3_enter 24 = .ok (.getfield 15, 3) := by decide +kernel
theorem dX3_enter_27 : decode cX3_enter 27 = .ok (.iload_n 2, 1) := by decide +kernel
theorem dX3_enter_28 : decode cX3_enter 28 = .ok (.iload_n 3, 1) := by decide +kernel
theorem dX3_enter_29 : decode cX3_enter 29 = .ok (.iconst 1, 1) := by decide +kernel
theorem dX3_enter_30 : decode cX3_enter 30 = .ok (.iadd, 1) := by decide +kernel
theorem dX3_enter_31 : decode cX3_enter 31 = .ok (.invokestatic 22, 3) := by decide +kernel
theorem dX3_enter_34 : decode cX3_enter 34 = .ok (.iload_n 3, 1) := by decide +kernel
theorem dX3_enter_35 : decode cX3_enter 35 = .ok (.ireturn, 1) := by decide +kernel
set_option maxRecDepth 20000 in
theorem ggX3_takeFirst_X5_at : GoodIn wsX3_takeFirst wsX5_at := goodIn_r _ [5] (by decide +kernel) (by decide +kernel)
set_option maxRecDepth 20000 in
theorem gX3_takeFirst_X5_at_n18 : GoodIn wsX3_takeFirst (wsX5_at) := ggX3_takeFirst_X5_at
set_option maxRecDepth 20000 in
theorem ggX3_takeFirst_X3_standingAt : GoodIn wsX3_takeFirst wsX3_standingAt := goodIn_r _ [10, 2, 3, 4, 5, 13, 14] (by decide +kernel) (by decide +kernel)
set_option maxRecDepth 20000 in
theorem gX3_takeFirst_X3_standingAt : GoodIn wsX3_takeFirst (wsV RX3 26 RX3 yX3_standingAt wsX3_standingAt) := goodIn_app (goodIn_of _ (by decide +kernel)) ggX3_takeFirst_X3_standingAt
set_option maxRecDepth 20000 in
theorem ggX3_takeFirst_X5_put : GoodIn wsX3_takeFirst wsX5_put := goodIn_r _ [12] (by decide +kernel) (by decide +kernel)
set_option maxRecDepth 20000 in
theorem gX3_takeFirst_X5_put_n22 : GoodIn wsX3_takeFirst (wsX5_put) := ggX3_takeFirst_X5_put
theorem dX3_takeFirst_0 : decode cX3_takeFirst 0 = .ok (.aload_n 0, 1) := by decide +kernel
theorem dX3_takeFirst_1 : decode cX3_takeFirst 1 = .ok (.getfield 15, 3) := by decide +kernel
theorem dX3_takeFirst_4 : decode cX3_takeFirst 4 = .ok (.iload_n 1, 1) := by decide +kernel
theorem dX3_takeFirst_5 : decode cX3_takeFirst 5 = .ok (.invokestatic 18, 3) := by decide +kernel
theorem dX3_takeFirst_8 : decode cX3_takeFirst 8 = .ok (.istore_n 2, 1) := by decide +kernel
theorem dX3_takeFirst_9 : decode cX3_takeFirst 9 = .ok (.iload_n 2, 1) := by decide +kernel
theorem dX3_takeFirst_10 : decode cX3_takeFirst 10 = .ok (.ifCond .gt 5, 3) := by decide +kernel
theorem dX3_takeFirst_13 : decode cX3_takeFirst 13 = .ok (.iconst (-1), 1) := by decide +kernel
theorem dX3_takeFirst_14 : decode cX3_takeFirst 14 = .ok (.ireturn, 1) := by decide +kernel
theorem dX3_takeFirst_15 : decode cX3_takeFirst 15 = .ok (.aload_n 0, 1) := by decide +kernel
theorem dX3_takeFirst_16 : decode cX3_takeFirst 16 = .ok (.iload_n 1, 1) := by decide +kernel
theorem dX3_takeFirst_17 : decode cX3_takeFirst 17 = .ok (.iconst 0, 1) := by decide +kernel
theorem dX3_takeFirst_18 : decode cX3_takeFirst 18 = .ok (.invokevirtual 26, 3) := by decide +kernel
theorem dX3_takeFirst_21 : decode cX3_takeFirst 21 = .ok (.istore_n 3, 1) := by decide +kernel
theorem dX3_takeFirst_22 : decode cX3_takeFirst 22 = .ok (.iconst 0, 1) := by decide +kernel
theorem dX3_takeFirst_23 : decode cX3_takeFirst 23 = .ok (.istore 4, 2) := by decide +kernel
theorem dX3_takeFirst_25 : decode cX3_takeFirst 25 = .ok (.iload 4, 2) := by decide +kernel
theorem dX3_takeFirst_27 : decode cX3_takeFirst 27 = .ok (.iconst 1, 1) := by decide +kernel
theorem dX3_takeFirst_28 : decode cX3_takeFirst 28 = .ok (.iadd, 1) := by decide +kernel
theorem dX3_takeFirst_29 : decode cX3_takeFirst 29 = .ok (.iload_n 2, 1) := by decide +kernel
theorem dX3_takeFirst_30 : decode cX3_takeFirst 30 = .ok (.if_icmp .ge 32, 3) := by decide +kernel
theorem dX3_takeFirst_33 : decode cX3_takeFirst 33 = .ok (.aload_n 0, 1) := by decide +kernel
theorem dX3_takeFirst_34 : decode cX3_takeFirst 34 = .ok (.getfield 9, 3) := by decide +kernel
theorem dX3_takeFirst_37 : decode cX3_takeFirst 37 = .ok (.iload_n 1, 1) := by decide +kernel
theorem dX3_takeFirst_38 : decode cX3_takeFirst 38 = .ok (.bipush 10, 2) := by decide +kernel
theorem dX3_takeFirst_40 : decode cX3_takeFirst 40 = .ok (.imul, 1) := by decide +kernel
theorem dX3_takeFirst_41 : decode cX3_takeFirst 41 = .ok (.iload 4, 2) := by decide +kernel
theorem dX3_takeFirst_43 : decode cX3_takeFirst 43 = .ok (.iadd, 1) := by decide +kernel
theorem dX3_takeFirst_44 : decode cX3_takeFirst 44 = .ok (.aload_n 0, 1) := by decide +kernel
theorem dX3_takeFirst_45 : decode cX3_takeFirst 45 = .ok (.iload_n 1, 1) := by decide +kernel
theorem dX3_takeFirst_46 : decode cX3_takeFirst 46 = .ok (.iload 4, 2) := by decide +kernel
theorem dX3_takeFirst_48 : decode cX3_takeFirst 48 = .ok (.iconst 1, 1) := by decide +kernel
theorem dX3_takeFirst_49 : decode cX3_takeFirst 49 = .ok (.iadd, 1) := by decide +kernel
theorem dX3_takeFirst_50 : decode cX3_takeFirst 50 = .ok (.invokevirtual 26, 3) := by decide +kernel
theorem dX3_takeFirst_53 : decode cX3_takeFirst 53 = .ok (.invokestatic 22, 3) := by decide +kernel
theorem dX3_takeFirst_56 : decode cX3_takeFirst 56 = .ok (.iinc 4 1, 3) := by decide +kernel
theorem dX3_takeFirst_59 : decode cX3_takeFirst 59 = .ok (.goto (-34), 3) := by decide +kernel
theorem dX3_takeFirst_62 : decode cX3_takeFirst 62 = .ok (.aload_n 0, 1) := by decide +kernel
theorem dX3_takeFirst_63 : decode cX3_takeFirst 63 = .ok (.getfield 15, 3) := by decide +kernel
theorem dX3_takeFirst_66 : decode cX3_takeFirst 66 = .ok (.iload_n 1, 1) := by decide +kernel
theorem dX3_takeFirst_67 : decode cX3_takeFirst 67 = .ok (.iload_n 2, 1) := by decide +kernel
theorem dX3_takeFirst_68 : decode cX3_takeFirst 68 = .ok (.iconst 1, 1) := by decide +kernel
theorem dX3_takeFirst_69 : decode cX3_takeFirst 69 = .ok (.isub, 1) := by decide +kernel
theorem dX3_takeFirst_70 : decode cX3_takeFirst 70 = .ok (.invokestatic 22, 3) := by decide +kernel
theorem dX3_takeFirst_73 : decode cX3_takeFirst 73 = .ok (.iload_n 3, 1) := by decide +kernel
theorem dX3_takeFirst_74 : decode cX3_takeFirst 74 = .ok (.ireturn, 1) := by decide +kernel
set_option maxRecDepth 20000 in
theorem ggX3_spotOf_X5_at : GoodIn wsX3_spotOf wsX5_at := goodIn_r _ [5] (by decide +kernel) (by decide +kernel)
set_option maxRecDepth 20000 in
theorem gX3_spotOf_X5_at_n18 : GoodIn wsX3_spotOf (wsX5_at) := ggX3_spotOf_X5_at
theorem dX3_spotOf_0 : decode cX3_spotOf 0 = .ok (.iconst 0, 1) := by decide +kernel
theorem dX3_spotOf_1 : decode cX3_spotOf 1 = .ok (.istore_n 2, 1) := by decide +kernel
theorem dX3_spotOf_2 : decode cX3_spotOf 2 = .ok (.iload_n 2, 1) := by decide +kernel
theorem dX3_spotOf_3 : decode cX3_spotOf 3 = .ok (.iconst 3, 1) := by decide +kernel
theorem dX3_spotOf_4 : decode cX3_spotOf 4 = .ok (.if_icmp .ge 57, 3) := by decide +kernel
theorem dX3_spotOf_7 : decode cX3_spotOf 7 = .ok (.iload_n 2, 1) := by decide +kernel
theorem dX3_spotOf_8 : decode cX3_spotOf 8 = .ok (.bipush 10, 2) := by decide +kernel
theorem dX3_spotOf_10 : decode cX3_spotOf 10 = .ok (.imul, 1) := by decide +kernel
theorem dX3_spotOf_11 : decode cX3_spotOf 11 = .ok (.aload_n 0, 1) := by decide +kernel
theorem dX3_spotOf_12 : decode cX3_spotOf 12 = .ok (.getfield 15, 3) := by decide +kernel
theorem dX3_spotOf_15 : decode cX3_spotOf 15 = .ok (.iload_n 2, 1) := by decide +kernel
theorem dX3_spotOf_16 : decode cX3_spotOf 16 = .ok (.invokestatic 18, 3) := by decide +kernel
theorem dX3_spotOf_19 : decode cX3_spotOf 19 = .ok (.iadd, 1) := by decide +kernel
theorem dX3_spotOf_20 : decode cX3_spotOf 20 = .ok (.istore_n 3, 1) := by decide +kernel
theorem dX3_spotOf_21 : decode cX3_spotOf 21 = .ok (.iload_n 2, 1) := by decide +kernel
theorem dX3_spotOf_22 : decode cX3_spotOf 22 = .ok (.bipush 10, 2) := by decide +kernel
theorem dX3_spotOf_24 : decode cX3_spotOf 24 = .ok (.imul, 1) := by decide +kernel
theorem dX3_spotOf_25 : decode cX3_spotOf 25 = .ok (.istore 4, 2) := by decide +kernel
theorem dX3_spotOf_27 : decode cX3_spotOf 27 = .ok (.iload 4, 2) := by decide +kernel
theorem dX3_spotOf_29 : decode cX3_spotOf 29 = .ok (.iload_n 3, 1) := by decide +kernel
theorem dX3_spotOf_30 : decode cX3_spotOf 30 = .ok (.if_icmp .ge 25, 3) := by decide +kernel
theorem dX3_spotOf_33 : decode cX3_spotOf 33 = .ok (.aload_n 0, 1) := by decide +kernel
theorem dX3_spotOf_34 : decode cX3_spotOf 34 = .ok (.getfield 9, 3) := by decide +kernel
theorem dX3_spotOf_37 : decode cX3_spotOf 37 = .ok (.iload 4, 2) := by decide +kernel
theorem dX3_spotOf_39 : decode cX3_spotOf 39 = .ok (.invokestatic 18, 3) := by decide +kernel
theorem dX3_spotOf_42 : decode cX3_spotOf 42 = .ok (.iload_n 1, 1) := by decide +kernel
theorem dX3_spotOf_43 : decode cX3_spotOf 43 = .ok (.if_icmp .ne 6, 3) := by decide +kernel
theorem dX3_spotOf_46 : decode cX3_spotOf 46 = .ok (.iload 4, 2) := by decide +kernel
theorem dX3_spotOf_48 : decode cX3_spotOf 48 = .ok (.ireturn, 1) := by decide +kernel
theorem dX3_spotOf_49 : decode cX3_spotOf 49 = .ok (.iinc 4 1, 3) := by decide +kernel
theorem dX3_spotOf_52 : decode cX3_spotOf 52 = .ok (.goto (-25), 3) := by decide +kernel
theorem dX3_spotOf_55 : decode cX3_spotOf 55 = .ok (.iinc 2 1, 3) := by decide +kernel
theorem dX3_spotOf_58 : decode cX3_spotOf 58 = .ok (.goto (-56), 3) := by decide +kernel
theorem dX3_spotOf_61 : decode cX3_spotOf 61 = .ok (.iconst (-1), 1) := by decide +kernel
theorem dX3_spotOf_62 : decode cX3_spotOf 62 = .ok (.ireturn, 1) := by decide +kernel
set_option maxRecDepth 20000 in
theorem ggX3_gateOf_X3_spotOf : GoodIn wsX3_gateOf wsX3_spotOf := goodIn_r _ [5, 6, 7, 8, 9, 10, 11, 12] (by decide +kernel) (by decide +kernel)
set_option maxRecDepth 20000 in
theorem gX3_gateOf_X3_spotOf : GoodIn wsX3_gateOf (wsV RX3 30 RX3 yX3_spotOf wsX3_spotOf) := goodIn_app (goodIn_of _ (by decide +kernel)) ggX3_gateOf_X3_spotOf
theorem dX3_gateOf_0 : decode cX3_gateOf 0 = .ok (.aload_n 0, 1) := by decide +kernel
theorem dX3_gateOf_1 : decode cX3_gateOf 1 = .ok (.iload_n 1, 1) := by decide +kernel
theorem dX3_gateOf_2 : decode cX3_gateOf 2 = .ok (.invokevirtual 30, 3) := by decide +kernel
theorem dX3_gateOf_5 : decode cX3_gateOf 5 = .ok (.istore_n 2, 1) := by decide +kernel
theorem dX3_gateOf_6 : decode cX3_gateOf 6 = .ok (.iload_n 2, 1) := by decide +kernel
theorem dX3_gateOf_7 : decode cX3_gateOf 7 = .ok (.iconst (-1), 1) := by decide +kernel
theorem dX3_gateOf_8 : decode cX3_gateOf 8 = .ok (.if_icmp .ne 7, 3) := by decide +kernel
theorem dX3_gateOf_11 : decode cX3_gateOf 11 = .ok (.iconst (-1), 1) := by decide +kernel
theorem dX3_gateOf_12 : decode cX3_gateOf 12 = .ok (.goto 7, 3) := by decide +kernel
theorem dX3_gateOf_15 : decode cX3_gateOf 15 = .ok (.iload_n 2, 1) := by decide +kernel
theorem dX3_gateOf_16 : decode cX3_gateOf 16 = .ok (.bipush 10, 2) := by decide +kernel
theorem dX3_gateOf_18 : decode cX3_gateOf 18 = .ok (.idiv, 1) := by decide +kernel
theorem dX3_gateOf_19 : decode cX3_gateOf 19 = .ok (.ireturn, 1) := by decide +kernel
set_option maxRecDepth 20000 in
theorem ggX3_placeOf_X3_spotOf : GoodIn wsX3_placeOf wsX3_spotOf := goodIn_r _ [5, 6, 7, 8, 9, 10, 11, 12] (by decide +kernel) (by decide +kernel)
set_option maxRecDepth 20000 in
theorem gX3_placeOf_X3_spotOf : GoodIn wsX3_placeOf (wsV RX3 30 RX3 yX3_spotOf wsX3_spotOf) := goodIn_app (goodIn_of _ (by decide +kernel)) ggX3_placeOf_X3_spotOf
theorem dX3_placeOf_0 : decode cX3_placeOf 0 = .ok (.aload_n 0, 1) := by decide +kernel
theorem dX3_placeOf_1 : decode cX3_placeOf 1 = .ok (.iload_n 1, 1) := by decide +kernel
theorem dX3_placeOf_2 : decode cX3_placeOf 2 = .ok (.invokevirtual 30, 3) := by decide +kernel
theorem dX3_placeOf_5 : decode cX3_placeOf 5 = .ok (.istore_n 2, 1) := by decide +kernel
theorem dX3_placeOf_6 : decode cX3_placeOf 6 = .ok (.iload_n 2, 1) := by decide +kernel
theorem dX3_placeOf_7 : decode cX3_placeOf 7 = .ok (.iconst (-1), 1) := by decide +kernel
theorem dX3_placeOf_8 : decode cX3_placeOf 8 = .ok (.if_icmp .ne 7, 3) := by decide +kernel
theorem dX3_placeOf_11 : decode cX3_placeOf 11 = .ok (.iconst (-1), 1) := by decide +kernel
theorem dX3_placeOf_12 : decode cX3_placeOf 12 = .ok (.goto 7, 3) := by decide +kernel
theorem dX3_placeOf_15 : decode cX3_placeOf 15 = .ok (.iload_n 2, 1) := by decide +kernel
theorem dX3_placeOf_16 : decode cX3_placeOf 16 = .ok (.bipush 10, 2) := by decide +kernel
theorem dX3_placeOf_18 : decode cX3_placeOf 18 = .ok (.irem, 1) := by decide +kernel
theorem dX3_placeOf_19 : decode cX3_placeOf 19 = .ok (.ireturn, 1) := by decide +kernel
set_option maxRecDepth 20000 in
theorem ggX3_renumberWithout_X5_at : GoodIn wsX3_renumberWithout wsX5_at := goodIn_r _ [4] (by decide +kernel) (by decide +kernel)
set_option maxRecDepth 20000 in
theorem gX3_renumberWithout_X5_at_n18 : GoodIn wsX3_renumberWithout (wsX5_at) := ggX3_renumberWithout_X5_at
set_option maxRecDepth 20000 in
theorem ggX3_renumberWithout_X1_numberWithout : GoodIn wsX3_renumberWithout wsX1_numberWithout := goodIn_r _ [7] (by decide +kernel) (by decide +kernel)
set_option maxRecDepth 20000 in
theorem gX3_renumberWithout_X1_numberWithout_n34 : GoodIn wsX3_renumberWithout (wsX1_numberWithout) := ggX3_renumberWithout_X1_numberWithout
set_option maxRecDepth 20000 in
theorem ggX3_renumberWithout_X5_put : GoodIn wsX3_renumberWithout wsX5_put := goodIn_r _ [9] (by decide +kernel) (by decide +kernel)
set_option maxRecDepth 20000 in
theorem gX3_renumberWithout_X5_put_n22 : GoodIn wsX3_renumberWithout (wsX5_put) := ggX3_renumberWithout_X5_put
theorem dX3_renumberWithout_0 : decode cX3_renumberWithout 0 = .ok (.iconst 0, 1) := by decide +kernel
theorem dX3_renumberWithout_1 : decode cX3_renumberWithout 1 = .ok (.istore_n 2, 1) := by decide +kernel
theorem dX3_renumberWithout_2 : decode cX3_renumberWithout 2 = .ok (.iload_n 2, 1) := by decide +kernel
theorem dX3_renumberWithout_3 : decode cX3_renumberWithout 3 = .ok (.aload_n 0, 1) := by decide +kernel
theorem dX3_renumberWithout_4 : decode cX3_renumberWithout 4 = .ok (.getfield 9, 3) := by decide +kernel
theorem dX3_renumberWithout_7 : decode cX3_renumberWithout 7 = .ok (.arraylength, 1) := by decide +kernel
theorem dX3_renumberWithout_8 : decode cX3_renumberWithout 8 = .ok (.if_icmp .ge 29, 3) := by decide +kernel
theorem dX3_renumberWithout_11 : decode cX3_renumberWithout 11 = .ok (.aload_n 0, 1) := by decide +kernel
theorem dX3_renumberWithout_12 : decode cX3_renumberWithout 12 = .ok (.getfield 9, 3) := by decide +kernel
theorem dX3_renumberWithout_15 : decode cX3_renumberWithout 15 = .ok (.iload_n 2, 1) := by decide +kernel
theorem dX3_renumberWithout_16 : decode cX3_renumberWithout 16 = .ok (.iload_n 1, 1) := by decide +kernel
theorem dX3_renumberWithout_17 : decode cX3_renumberWithout 17 = .ok (.aload_n 0, 1) := by decide +kernel
theorem dX3_renumberWithout_18 : decode cX3_renumberWithout 18 = .ok (.getfield 9, 3) := by decide +kernel
theorem dX3_renumberWithout_21 : decode cX3_renumberWithout 21 = .ok (.iload_n 2, 1) := by decide +kernel
theorem dX3_renumberWithout_22 : decode cX3_renumberWithout 22 = .ok (.invokestatic 18, 3) := by decide +kernel
theorem dX3_renumberWithout_25 : decode cX3_renumberWithout 25 = .ok (.invokestatic 34, 3) := by decide +kernel
theorem dX3_renumberWithout_28 : decode cX3_renumberWithout 28 = .ok (.invokestatic 22, 3) := by decide +kernel
theorem dX3_renumberWithout_31 : decode cX3_renumberWithout 31 = .ok (.iinc 2 1, 3) := by decide +kernel
theorem dX3_renumberWithout_34 : decode cX3_renumberWithout 34 = .ok (.goto (-32), 3) := by decide +kernel
theorem dX3_renumberWithout_37 : decode cX3_renumberWithout 37 = .ok (.return_, 1) := by decide +kernel
set_option maxRecDepth 20000 in
theorem ggX3_sendAllAway_X5_put : GoodIn wsX3_sendAllAway wsX5_put := goodIn_r _ [4] (by decide +kernel) (by decide +kernel)
set_option maxRecDepth 20000 in
theorem gX3_sendAllAway_X5_put_n22 : GoodIn wsX3_sendAllAway (wsX5_put) := ggX3_sendAllAway_X5_put
theorem dX3_sendAllAway_0 : decode cX3_sendAllAway 0 = .ok (.iconst 0, 1) := by decide +kernel
theorem dX3_sendAllAway_1 : decode cX3_sendAllAway 1 = .ok (.istore_n 1, 1) := by decide +kernel
theorem dX3_sendAllAway_2 : decode cX3_sendAllAway 2 = .ok (.iload_n 1, 1) := by decide +kernel
theorem dX3_sendAllAway_3 : decode cX3_sendAllAway 3 = .ok (.iconst 3, 1) := by decide +kernel
theorem dX3_sendAllAway_4 : decode cX3_sendAllAway 4 = .ok (.if_icmp .ge 18, 3) := by decide +kernel
theorem dX3_sendAllAway_7 : decode cX3_sendAllAway 7 = .ok (.aload_n 0, 1) := by decide +kernel
theorem dX3_sendAllAway_8 : decode cX3_sendAllAway 8 = .ok (.getfield 15, 3) := by decide +kernel
theorem dX3_sendAllAway_11 : decode cX3_sendAllAway 11 = .ok (.iload_n 1, 1) := by decide +kernel
theorem dX3_sendAllAway_12 : decode cX3_sendAllAway 12 = .ok (.iconst 0, 1) := by decide +kernel
theorem dX3_sendAllAway_13 : decode cX3_sendAllAway 13 = .ok (.invokestatic 22, 3) := by decide +kernel
theorem dX3_sendAllAway_16 : decode cX3_sendAllAway 16 = .ok (.iinc 1 1, 3) := by decide +kernel
theorem dX3_sendAllAway_19 : decode cX3_sendAllAway 19 = .ok (.goto (-17), 3) := by decide +kernel
theorem dX3_sendAllAway_22 : decode cX3_sendAllAway 22 = .ok (.return_, 1) := by decide +kernel
set_option maxRecDepth 20000 in
theorem ggX3_copyLines_X5_copyRow : GoodIn wsX3_copyLines wsX5_copyRow := goodIn_r _ [5, 6, 7, 8, 9, 10, 11, 12, 13] (by decide +kernel) (by decide +kernel)
set_option maxRecDepth 20000 in
theorem gX3_copyLines_X5_copyRow_n39 : GoodIn wsX3_copyLines (wsX5_copyRow) := ggX3_copyLines_X5_copyRow
theorem dX3_copyLines_0 : decode cX3_copyLines 0 = .ok (.aload_n 1, 1) := by decide +kernel
theorem dX3_copyLines_1 : decode cX3_copyLines 1 = .ok (.getfield 9, 3) := by decide +kernel
theorem dX3_copyLines_4 : decode cX3_copyLines 4 = .ok (.aload_n 0, 1) := by decide +kernel
theorem dX3_copyLines_5 : decode cX3_copyLines 5 = .ok (.getfield 9, 3) := by decide +kernel
theorem dX3_copyLines_8 : decode cX3_copyLines 8 = .ok (.invokestatic 39, 3) := by decide +kernel
theorem dX3_copyLines_11 : decode cX3_copyLines 11 = .ok (.aload_n 1, 1) := by decide +kernel
theorem dX3_copyLines_12 : decode cX3_copyLines 12 = .ok (.getfield 15, 3) := by decide +kernel
theorem dX3_copyLines_15 : decode cX3_copyLines 15 = .ok (.aload_n 0, 1) := by decide +kernel
theorem dX3_copyLines_16 : decode cX3_copyLines 16 = .ok (.getfield 15, 3) := by decide +kernel
theorem dX3_copyLines_19 : decode cX3_copyLines 19 = .ok (.invokestatic 39, 3) := by decide +kernel
theorem dX3_copyLines_22 : decode cX3_copyLines 22 = .ok (.return_, 1) := by decide +kernel
theorem dX4_init_0 : decode cX4_init 0 = .ok (.aload_n 0, 1) := by decide +kernel
theorem dX4_init_1 : decode cX4_init 1 = .ok (.invokespecial 3, 3) := by decide +kernel
theorem dX4_init_4 : decode cX4_init 4 = .ok (.aload_n 0, 1) := by decide +kernel
theorem dX4_init_5 : decode cX4_init 5 = .ok (.bipush 60, 2) := by decide +kernel
theorem dX4_init_7 : decode cX4_init 7 = .ok (.newarray .int, 2) := by decide +kernel
theorem dX4_init_9 : decode cX4_init 9 = .ok (.putfield 9, 3) := by decide +kernel
theorem dX4_init_12 : decode cX4_init 12 = .ok (.return_, 1) := by decide +kernel
set_option maxRecDepth 20000 in
theorem ggX5_init_X0_init : GoodIn wsX5_init wsX0_init := goodIn_r _ [19, 20, 2, 3, 21, 22, 23, 24, 25, 26, 27, 28, 29, 30, 31, 32, 33, 34, 35, 36, 37, 38, 39, 40, 41, 42, 43, 44, 45, 46, 47, 48, 49, 50, 51, 52, 53, 54, 55, 56, 57, 58, 59, 91, 92, 93, 94, 95, 96, 97, 98, 99, 69, 70, 71, 72, 73, 74, 75, 76, 77, 78, 79, 80, 100, 101] (by decide +kernel) (by decide +kernel)
set_option maxRecDepth 20000 in
theorem gX5_init_X0_init_n9 : GoodIn wsX5_init (wsX0_init) := ggX5_init_X0_init
set_option maxRecDepth 20000 in
theorem ggX5_init_X2_init : GoodIn wsX5_init wsX2_init := goodIn_r _ [61, 62, 2, 3, 63, 64, 5, 6, 18, 19, 20, 21, 22, 23, 24, 25, 26, 27, 28, 29, 30, 31, 32, 33, 34, 35, 36, 37, 38, 39, 40, 41, 42, 43, 44, 45, 46, 47, 48, 49, 50, 51, 52, 53, 54, 55, 56, 57, 58, 59, 86, 87, 88, 69, 70, 71, 72, 73, 74, 75, 76, 77, 78, 79, 80, 91, 92, 93, 94, 95, 96, 97, 98, 99, 100, 101] (by decide +kernel) (by decide +kernel)
set_option maxRecDepth 20000 in
theorem gX5_init_X2_init_n21 : GoodIn wsX5_init (wsX2_init) := ggX5_init_X2_init
set_option maxRecDepth 20000 in
theorem ggX5_init_X4_init : GoodIn wsX5_init wsX4_init := goodIn_r _ [66, 67, 2, 3, 29, 68, 89, 90] (by decide +kernel) (by decide +kernel)
set_option maxRecDepth 20000 in
theorem gX5_init_X4_init_n28 : GoodIn wsX5_init (wsX4_init) := ggX5_init_X4_init
theorem dX5_init_0 : decode cX5_init 0 = .ok (.aload_n 0, 1) := by decide +kernel
theorem dX5_init_1 : decode cX5_init 1 = .ok (.invokespecial 1, 3) := by decide +kernel
theorem dX5_init_4 : decode cX5_init 4 = .ok (.aload_n 0, 1) := by decide +kernel
theorem dX5_init_5 : decode cX5_init 5 = .ok (.new 7, 3) := by decide +kernel
theorem dX5_init_8 : decode cX5_init 8 = .ok (.dup, 1) := by decide +kernel
theorem dX5_init_9 : decode cX5_init 9 = .ok (.invokespecial 9, 3) := by decide +kernel
theorem dX5_init_12 : decode cX5_init 12 = .ok (.putfield 10, 3) := by decide +kernel
theorem dX5_init_15 : decode cX5_init 15 = .ok (.aload_n 0, 1) := by decide +kernel
theorem dX5_init_16 : decode cX5_init 16 = .ok (.new 7, 3) := by decide +kernel
theorem dX5_init_19 : decode cX5_init 19 = .ok (.dup, 1) := by decide +kernel
theorem dX5_init_20 : decode cX5_init 20 = .ok (.invokespecial 9, 3) := by decide +kernel
theorem dX5_init_23 : decode cX5_init 23 = .ok (.putfield 16, 3) := by decide +kernel
theorem dX5_init_26 : decode cX5_init 26 = .ok (.aload_n 0, 1) := by decide +kernel
theorem dX5_init_27 : decode cX5_init 27 = .ok (.new 19, 3) := by decide +kernel
theorem dX5_init_30 : decode cX5_init 30 = .ok (.dup, 1) := by decide +kernel
theorem dX5_init_31 : decode cX5_init 31 = .ok (.invokespecial 21, 3) := by decide +kernel
theorem dX5_init_34 : decode cX5_init 34 = .ok (.putfield 22, 3) := by decide +kernel
theorem dX5_init_37 : decode cX5_init 37 = .ok (.aload_n 0, 1) := by decide +kernel
theorem dX5_init_38 : decode cX5_init 38 = .ok (.new 26, 3) := by decide +kernel
theorem dX5_init_41 : decode cX5_init 41 = .ok (.dup, 1) := by decide +kernel
theorem dX5_init_42 : decode cX5_init 42 = .ok (.invokespecial 28, 3) := by decide +kernel
theorem dX5_init_45 : decode cX5_init 45 = .ok (.putfield 29, 3) := by decide +kernel
theorem dX5_init_48 : decode cX5_init 48 = .ok (.aload_n 0, 1) := by decide +kernel
theorem dX5_init_49 : decode cX5_init 49 = .ok (.iconst 0, 1) := by decide +kernel
theorem dX5_init_50 : decode cX5_init 50 = .ok (.putfield 33, 3) := by decide +kernel
theorem dX5_init_53 : decode cX5_init 53 = .ok (.return_, 1) := by decide +kernel
set_option maxRecDepth 20000 in
theorem ggX5_come_X5_isWithin : GoodIn wsX5_come wsX5_isWithin := goodIn_r _ [6] (by decide +kernel) (by decide +kernel)
set_option maxRecDepth 20000 in
theorem gX5_come_X5_isWithin : GoodIn wsX5_come (va_wsS RX5 37 yX5_isWithin wsX5_isWithin) := goodIn_app (goodIn_of _ (by decide +kernel)) ggX5_come_X5_isWithin
set_option maxRecDepth 20000 in
theorem ggX5_come_X5_needArgument : GoodIn wsX5_come wsX5_needArgument := goodIn_ca (goodIn_r _ [9, 10, 11] (by decide +kernel) (by decide +kernel)) (goodIn_sub (fun _ h => List.mem_cons_of_mem _ (List.mem_append_left _ (List.mem_append_right _ h))) (by decide +kernel))
set_option maxRecDepth 20000 in
theorem gX5_come_X5_needArgument : GoodIn wsX5_come (va_wsS RX5 41 yX5_needArgument wsX5_needArgument) := goodIn_app (goodIn_of _ (by decide +kernel)) ggX5_come_X5_needArgument
set_option maxRecDepth 20000 in
theorem ggX5_come_X5_needState : GoodIn wsX5_come wsX5_needState := goodIn_ca (goodIn_r _ [14, 15, 16] (by decide +kernel) (by decide +kernel)) (goodIn_sub (fun _ h => List.mem_cons_of_mem _ (List.mem_append_right _ h)) (by decide +kernel))
set_option maxRecDepth 20000 in
theorem gX5_come_X5_needState : GoodIn wsX5_come (va_wsS RX5 55 yX5_needState wsX5_needState) := goodIn_app (goodIn_of _ (by decide +kernel)) ggX5_come_X5_needState
set_option maxRecDepth 20000 in
theorem ggX5_come_X2_save : GoodIn wsX5_come wsX2_save := goodIn_r _ [20, 21, 22, 23, 24, 25, 18, 26, 27, 28, 29, 30, 31, 32, 33, 34, 35, 36, 37, 38, 39, 40, 41, 42, 43, 44, 45, 46, 47, 48, 49, 50, 51, 52, 53, 54, 55, 56, 57, 5, 58, 59, 60, 61, 62, 63, 64, 65, 66, 67, 68, 69, 70, 71, 72, 107, 108, 109, 86, 87, 88, 89, 90, 91, 92, 93, 94, 95, 96, 97, 98, 99, 100, 101, 102, 103, 104, 105, 106, 110, 111] (by decide +kernel) (by decide +kernel)
set_option maxRecDepth 20000 in
theorem gX5_come_X2_save_n58 : GoodIn wsX5_come (wsX2_save) := ggX5_come_X2_save
set_option maxRecDepth 20000 in
theorem ggX5_come_X0_welcome : GoodIn wsX5_come wsX0_welcome := goodIn_r _ [75, 38, 39, 32, 76, 45, 77, 78, 56, 48, 49, 50, 51, 52, 53, 54, 55, 79, 5, 80, 86, 87, 88, 89, 90, 91, 92, 93, 94, 95, 96, 97, 98, 99, 100, 101, 102, 103, 104, 105, 106] (by decide +kernel) (by decide +kernel)
set_option maxRecDepth 20000 in
theorem gX5_come_X0_welcome_n62 : GoodIn wsX5_come (wsX0_welcome) := ggX5_come_X0_welcome
theorem dX5_come_0 : decode cX5_come 0 = .ok (.iload_n 1, 1) := by decide +kernel
theorem dX5_come_1 : decode cX5_come 1 = .ok (.iconst 0, 1) := by decide +kernel
theorem dX5_come_2 : decode cX5_come 2 = .ok (.iconst 4, 1) := by decide +kernel
theorem dX5_come_3 : decode cX5_come 3 = .ok (.invokestatic 37, 3) := by decide +kernel
theorem dX5_come_6 : decode cX5_come 6 = .ok (.invokestatic 41, 3) := by decide +kernel
theorem dX5_come_9 : decode cX5_come 9 = .ok (.iload_n 2, 1) := by decide +kernel
theorem dX5_come_10 : decode cX5_come 10 = .ok (.iconst 0, 1) := by decide +kernel
theorem dX5_come_11 : decode cX5_come 11 = .ok (.bipush 40, 2) := by decide +kernel
theorem dX5_come_13 : decode cX5_come 13 = .ok (.invokestatic 37, 3) := by decide +kernel
theorem dX5_come_16 : decode cX5_come 16 = .ok (.invokestatic 41, 3) := by decide +kernel
theorem dX5_come_19 : decode cX5_come 19 = .ok (.iload_n 3, 1) := by decide +kernel
theorem dX5_come_20 : decode cX5_come 20 = .ok (.iconst 0, 1) := by decide +kernel
theorem dX5_come_21 : decode cX5_come 21 = .ok (.bipush 99, 2) := by decide +kernel
theorem dX5_come_23 : decode cX5_come 23 = .ok (.invokestatic 37, 3) := by decide +kernel
theorem dX5_come_26 : decode cX5_come 26 = .ok (.invokestatic 41, 3) := by decide +kernel
theorem dX5_come_29 : decode cX5_come 29 = .ok (.aload_n 0, 1) := by decide +kernel
theorem dX5_come_30 : decode cX5_come 30 = .ok (.getfield 10, 3) := by decide +kernel
theorem dX5_come_33 : decode cX5_come 33 = .ok (.getfield 45, 3) := by decide +kernel
theorem dX5_come_36 : decode cX5_come 36 = .ok (.getfield 49, 3) := by decide +kernel
theorem dX5_come_39 : decode cX5_come 39 = .ok (.bipush 10, 2) := by decide +kernel
theorem dX5_come_41 : decode cX5_come 41 = .ok (.if_icmp .ge 7, 3) := by decide +kernel
theorem dX5_come_44 : decode cX5_come 44 = .ok (.iconst 1, 1) := by decide +kernel
theorem dX5_come_45 : decode cX5_come 45 = .ok (.goto 4, 3) := by decide +kernel
theorem dX5_come_48 : decode cX5_come 48 = .ok (.iconst 0, 1) := by decide +kernel
theorem dX5_come_49 : decode cX5_come 49 = .ok (.invokestatic 55, 3) := by decide +kernel
theorem dX5_come_52 : decode cX5_come 52 = .ok (.aload_n 0, 1) := by decide +kernel
theorem dX5_come_53 : decode cX5_come 53 = .ok (.getfield 22, 3) := by decide +kernel
theorem dX5_come_56 : decode cX5_come 56 = .ok (.aload_n 0, 1) := by decide +kernel
theorem dX5_come_57 : decode cX5_come 57 = .ok (.getfield 10, 3) := by decide +kernel
theorem dX5_come_60 : decode cX5_come 60 = .ok (.invokevirtual 58, 3) := by decide +kernel
theorem dX5_come_63 : decode cX5_come 63 = .ok (.aload_n 0, 1) := by decide +kernel
theorem dX5_come_64 : decode cX5_come 64 = .ok (.getfield 10, 3) := by decide +kernel
theorem dX5_come_67 : decode cX5_come 67 = .ok (.iload_n 1, 1) := by decide +kernel
theorem dX5_come_68 : decode cX5_come 68 = .ok (.iload_n 2, 1) := by decide +kernel
theorem dX5_come_69 : decode cX5_come 69 = .ok (.iload_n 3, 1) := by decide +kernel
theorem dX5_come_70 : decode cX5_come 70 = .ok (.invokevirtual 62, 3) := by decide +kernel
theorem dX5_come_73 : decode cX5_come 73 = .ok (.ireturn, 1) := by decide +kernel
set_option maxRecDepth 20000 in
theorem ggX5_leave_X5_needGuest : GoodIn wsX5_leave wsX5_needGuest := goodIn_ca (goodIn_r _ [7, 8, 9, 1, 10, 11, 12, 13, 14, 110, 111, 112, 113, 114, 115, 116, 117, 118, 119, 120, 121, 122, 123, 124, 125, 126, 127, 128, 129, 130, 131, 132, 133, 134, 135] (by decide +kernel) (by decide +kernel)) (goodIn_sub (fun _ h => List.mem_cons_of_mem _ (List.mem_append_left _ (List.mem_append_right _ h))) (by decide +kernel))
set_option maxRecDepth 20000 in
theorem gX5_leave_X5_needGuest : GoodIn wsX5_leave (wsV RX5 66 RX5 yX5_needGuest wsX5_needGuest) := goodIn_app (goodIn_of _ (by decide +kernel)) ggX5_leave_X5_needGuest
set_option maxRecDepth 20000 in
theorem ggX5_leave_X0_canGo : GoodIn wsX5_leave wsX0_canGo := goodIn_r _ [18, 19, 20, 21, 11, 22, 23, 24, 25, 26, 6, 27, 28, 29, 30, 31, 32, 33, 34, 35, 36, 37, 38, 39, 40, 41, 115, 116, 117, 118, 119, 120, 121, 122, 123, 124, 125, 126, 127, 128, 129, 130, 131, 132, 133, 134, 135, 136, 137] (by decide +kernel) (by decide +kernel)
set_option maxRecDepth 20000 in
theorem gX5_leave_X0_canGo_n70 : GoodIn wsX5_leave (wsX0_canGo) := ggX5_leave_X0_canGo
set_option maxRecDepth 20000 in
theorem ggX5_leave_X5_needState : GoodIn wsX5_leave wsX5_needState := goodIn_ca (goodIn_r _ [44, 45, 46] (by decide +kernel) (by decide +kernel)) (goodIn_sub (fun _ h => List.mem_cons_of_mem _ (List.mem_append_right _ h)) (by decide +kernel))
set_option maxRecDepth 20000 in
theorem gX5_leave_X5_needState : GoodIn wsX5_leave (va_wsS RX5 55 yX5_needState wsX5_needState) := goodIn_app (goodIn_of _ (by decide +kernel)) ggX5_leave_X5_needState
set_option maxRecDepth 20000 in
theorem ggX5_leave_X2_save : GoodIn wsX5_leave wsX2_save := goodIn_r _ [50, 51, 52, 53, 54, 55, 48, 56, 57, 58, 16, 59, 60, 19, 20, 61, 62, 63, 64, 65, 66, 67, 68, 69, 70, 71, 11, 72, 73, 74, 75, 76, 77, 24, 25, 78, 31, 14, 79, 6, 80, 81, 82, 83, 84, 85, 86, 87, 88, 89, 33, 90, 91, 41, 40, 138, 139, 140, 115, 116, 117, 118, 119, 120, 121, 122, 123, 124, 125, 126, 127, 128, 129, 130, 131, 132, 133, 134, 135, 136, 137] (by decide +kernel) (by decide +kernel)
set_option maxRecDepth 20000 in
theorem gX5_leave_X2_save_n58 : GoodIn wsX5_leave (wsX2_save) := ggX5_leave_X2_save
set_option maxRecDepth 20000 in
theorem ggX5_leave_X0_letGo : GoodIn wsX5_leave wsX0_letGo := goodIn_r _ [94, 19, 65, 66, 20, 26, 6, 27, 95, 11, 96, 97, 74, 75, 76, 77, 24, 25, 78, 31, 14, 98, 99, 100, 101, 102, 103, 104, 105, 106, 107, 33, 108, 109, 41, 115, 116, 117, 118, 119, 120, 121, 122, 123, 124, 125, 126, 127, 128, 129, 130, 131, 132, 133, 134, 135, 136, 137] (by decide +kernel) (by decide +kernel)
set_option maxRecDepth 20000 in
theorem gX5_leave_X0_letGo_n74 : GoodIn wsX5_leave (wsX0_letGo) := ggX5_leave_X0_letGo
theorem dX5_leave_0 : decode cX5_leave 0 = .ok (.aload_n 0, 1) := by decide +kernel
theorem dX5_leave_1 : decode cX5_leave 1 = .ok (.iload_n 1, 1) := by decide +kernel
theorem dX5_leave_2 : decode cX5_leave 2 = .ok (.invokevirtual 66, 3) := by decide +kernel
theorem dX5_leave_5 : decode cX5_leave 5 = .ok (.aload_n 0, 1) := by decide +kernel
theorem dX5_leave_6 : decode cX5_leave 6 = .ok (.getfield 10, 3) := by decide +kernel
theorem dX5_leave_9 : decode cX5_leave 9 = .ok (.iload_n 1, 1) := by decide +kernel
theorem dX5_leave_10 : decode cX5_leave 10 = .ok (.invokevirtual 70, 3) := by decide +kernel
theorem dX5_leave_13 : decode cX5_leave 13 = .ok (.invokestatic 55, 3) := by decide +kernel
theorem dX5_leave_16 : decode cX5_leave 16 = .ok (.aload_n 0, 1) := by decide +kernel
theorem dX5_leave_17 : decode cX5_leave 17 = .ok (.getfield 22, 3) := by decide +kernel
theorem dX5_leave_20 : decode cX5_leave 20 = .ok (.aload_n 0, 1) := by decide +kernel
theorem dX5_leave_21 : decode cX5_leave 21 = .ok (.getfield 10, 3) := by decide +kernel
theorem dX5_leave_24 : decode cX5_leave 24 = .ok (.invokevirtual 58, 3) := by decide +kernel
theorem dX5_leave_27 : decode cX5_leave 27 = .ok (.aload_n 0, 1) := by decide +kernel
theorem dX5_leave_28 : decode cX5_leave 28 = .ok (.getfield 10, 3) := by decide +kernel
theorem dX5_leave_31 : decode cX5_leave 31 = .ok (.iload_n 1, 1) := by decide +kernel
theorem dX5_leave_32 : decode cX5_leave 32 = .ok (.invokevirtual 74, 3) := by decide +kernel
theorem dX5_leave_35 : decode cX5_leave 35 = .ok (.ireturn, 1) := by decide +kernel
set_option maxRecDepth 20000 in
theorem ggX5_earn_X5_needGuest : GoodIn wsX5_earn wsX5_needGuest := goodIn_ca (goodIn_r _ [7, 8, 9, 2, 10, 11, 12, 13, 14, 85, 86, 87, 88, 89, 90, 91, 92, 93, 94, 95, 96, 97, 98, 99, 100, 101, 102, 103, 104, 105, 106, 107, 108, 109, 110] (by decide +kernel) (by decide +kernel)) (goodIn_sub (fun _ h => List.mem_cons_of_mem _ (List.mem_append_left _ (List.mem_append_right _ h))) (by decide +kernel))
set_option maxRecDepth 20000 in
theorem gX5_earn_X5_needGuest : GoodIn wsX5_earn (wsV RX5 66 RX5 yX5_needGuest wsX5_needGuest) := goodIn_app (goodIn_of _ (by decide +kernel)) ggX5_earn_X5_needGuest
set_option maxRecDepth 20000 in
theorem ggX5_earn_X5_isWithin : GoodIn wsX5_earn wsX5_isWithin := goodIn_r _ [17] (by decide +kernel) (by decide +kernel)
set_option maxRecDepth 20000 in
theorem gX5_earn_X5_isWithin : GoodIn wsX5_earn (va_wsS RX5 37 yX5_isWithin wsX5_isWithin) := goodIn_app (goodIn_of _ (by decide +kernel)) ggX5_earn_X5_isWithin
set_option maxRecDepth 20000 in
theorem ggX5_earn_X5_needArgument : GoodIn wsX5_earn wsX5_needArgument := goodIn_ca (goodIn_r _ [20, 21, 22] (by decide +kernel) (by decide +kernel)) (goodIn_sub (fun _ h => List.mem_cons_of_mem _ (List.mem_append_right _ h)) (by decide +kernel))
set_option maxRecDepth 20000 in
theorem gX5_earn_X5_needArgument : GoodIn wsX5_earn (va_wsS RX5 41 yX5_needArgument wsX5_needArgument) := goodIn_app (goodIn_of _ (by decide +kernel)) ggX5_earn_X5_needArgument
set_option maxRecDepth 20000 in
theorem ggX5_earn_X2_save : GoodIn wsX5_earn wsX2_save := goodIn_r _ [26, 27, 28, 29, 30, 31, 24, 32, 33, 34, 35, 36, 37, 38, 39, 40, 41, 42, 43, 44, 45, 46, 47, 48, 49, 50, 11, 51, 52, 53, 54, 55, 56, 57, 58, 59, 60, 14, 61, 6, 62, 63, 64, 65, 66, 67, 68, 69, 70, 71, 72, 73, 74, 75, 76, 111, 112, 113, 90, 91, 92, 93, 94, 95, 96, 97, 98, 99, 100, 101, 102, 103, 104, 105, 106, 107, 108, 109, 110, 114, 115] (by decide +kernel) (by decide +kernel)
set_option maxRecDepth 20000 in
theorem gX5_earn_X2_save_n58 : GoodIn wsX5_earn (wsX2_save) := ggX5_earn_X2_save
set_option maxRecDepth 20000 in
theorem ggX5_earn_X0_giveWages : GoodIn wsX5_earn wsX0_giveWages := goodIn_r _ [79, 38, 80, 64, 65, 66, 44, 81, 6, 82, 83, 84, 90, 91, 92, 93, 94, 95, 96, 97, 98, 99, 100, 101, 102, 103, 104, 105, 106, 107, 108, 109, 110] (by decide +kernel) (by decide +kernel)
set_option maxRecDepth 20000 in
theorem gX5_earn_X0_giveWages_n78 : GoodIn wsX5_earn (wsX0_giveWages) := ggX5_earn_X0_giveWages
theorem dX5_earn_0 : decode cX5_earn 0 = .ok (.aload_n 0, 1) := by decide +kernel
theorem dX5_earn_1 : decode cX5_earn 1 = .ok (.iload_n 1, 1) := by decide +kernel
theorem dX5_earn_2 : decode cX5_earn 2 = .ok (.invokevirtual 66, 3) := by decide +kernel
theorem dX5_earn_5 : decode cX5_earn 5 = .ok (.iload_n 2, 1) := by decide +kernel
theorem dX5_earn_6 : decode cX5_earn 6 = .ok (.iconst 1, 1) := by decide +kernel
theorem dX5_earn_7 : decode cX5_earn 7 = .ok (.bipush 99, 2) := by decide +kernel
theorem dX5_earn_9 : decode cX5_earn 9 = .ok (.invokestatic 37, 3) := by decide +kernel
theorem dX5_earn_12 : decode cX5_earn 12 = .ok (.invokestatic 41, 3) := by decide +kernel
theorem dX5_earn_15 : decode cX5_earn 15 = .ok (.aload_n 0, 1) := by decide +kernel
theorem dX5_earn_16 : decode cX5_earn 16 = .ok (.getfield 22, 3) := by decide +kernel
theorem dX5_earn_19 : decode cX5_earn 19 = .ok (.aload_n 0, 1) := by decide +kernel
theorem dX5_earn_20 : decode cX5_earn 20 = .ok (.getfield 10, 3) := by decide +kernel
theorem dX5_earn_23 : decode cX5_earn 23 = .ok (.invokevirtual 58, 3) := by decide +kernel
theorem dX5_earn_26 : decode cX5_earn 26 = .ok (.aload_n 0, 1) := by decide +kernel
theorem dX5_earn_27 : decode cX5_earn 27 = .ok (.getfield 10, 3) := by decide +kernel
theorem dX5_earn_30 : decode cX5_earn 30 = .ok (.iload_n 1, 1) := by decide +kernel
theorem dX5_earn_31 : decode cX5_earn 31 = .ok (.iload_n 2, 1) := by decide +kernel
theorem dX5_earn_32 : decode cX5_earn 32 = .ok (.invokevirtual 78, 3) := by decide +kernel
theorem dX5_earn_35 : decode cX5_earn 35 = .ok (.ireturn, 1) := by decide +kernel
set_option maxRecDepth 20000 in
theorem ggX5_lend_X5_needGuest : GoodIn wsX5_lend wsX5_needGuest := goodIn_ca (goodIn_r _ [7, 8, 9, 1, 10, 11, 12, 13, 14, 93, 94, 95, 96, 97, 98, 99, 100, 101, 102, 103, 104, 105, 106, 107, 108, 109, 110, 111, 112, 113, 114, 115, 116, 117, 118] (by decide +kernel) (by decide +kernel)) (goodIn_sub (fun _ h => List.mem_cons_of_mem _ (List.mem_append_left _ (List.mem_append_right _ h))) (by decide +kernel))
set_option maxRecDepth 20000 in
theorem gX5_lend_X5_needGuest : GoodIn wsX5_lend (wsV RX5 66 RX5 yX5_needGuest wsX5_needGuest) := goodIn_app (goodIn_of _ (by decide +kernel)) ggX5_lend_X5_needGuest
set_option maxRecDepth 20000 in
theorem ggX5_lend_X1_reasonNoLoan : GoodIn wsX5_lend wsX1_reasonNoLoan := goodIn_r _ [17, 18, 19, 20, 21, 11, 22, 23, 24, 6, 25, 26, 27, 28, 29, 30, 110, 111, 112, 113, 114, 115, 116, 117, 118] (by decide +kernel) (by decide +kernel)
set_option maxRecDepth 20000 in
theorem gX5_lend_X1_reasonNoLoan_n82 : GoodIn wsX5_lend (wsX1_reasonNoLoan) := ggX5_lend_X1_reasonNoLoan
set_option maxRecDepth 20000 in
theorem ggX5_lend_X5_needState : GoodIn wsX5_lend wsX5_needState := goodIn_ca (goodIn_r _ [33, 34, 35] (by decide +kernel) (by decide +kernel)) (goodIn_sub (fun _ h => List.mem_cons_of_mem _ (List.mem_append_right _ h)) (by decide +kernel))
set_option maxRecDepth 20000 in
theorem gX5_lend_X5_needState : GoodIn wsX5_lend (va_wsS RX5 55 yX5_needState wsX5_needState) := goodIn_app (goodIn_of _ (by decide +kernel)) ggX5_lend_X5_needState
set_option maxRecDepth 20000 in
theorem ggX5_lend_X2_save : GoodIn wsX5_lend wsX2_save := goodIn_r _ [39, 40, 41, 42, 43, 44, 37, 45, 46, 47, 48, 49, 50, 51, 52, 53, 54, 55, 56, 57, 58, 59, 60, 61, 62, 63, 11, 64, 65, 66, 67, 68, 69, 18, 23, 70, 30, 14, 71, 6, 72, 73, 74, 75, 76, 77, 78, 79, 80, 81, 82, 83, 84, 85, 86, 119, 120, 121, 98, 99, 100, 101, 102, 103, 104, 105, 106, 107, 108, 109, 110, 111, 112, 113, 114, 115, 116, 117, 118, 122, 123] (by decide +kernel) (by decide +kernel)
set_option maxRecDepth 20000 in
theorem gX5_lend_X2_save_n58 : GoodIn wsX5_lend (wsX2_save) := ggX5_lend_X2_save
set_option maxRecDepth 20000 in
theorem ggX5_lend_X1_lendCoat : GoodIn wsX5_lend wsX1_lendCoat := goodIn_r _ [89, 23, 18, 90, 6, 91, 110, 111, 112, 113, 114, 115, 116, 117, 118] (by decide +kernel) (by decide +kernel)
set_option maxRecDepth 20000 in
theorem gX5_lend_X1_lendCoat_n85 : GoodIn wsX5_lend (wsX1_lendCoat) := ggX5_lend_X1_lendCoat
set_option maxRecDepth 20000 in
theorem ggX5_lend_X5_at : GoodIn wsX5_lend wsX5_at := goodIn_r _ [25] (by decide +kernel) (by decide +kernel)
set_option maxRecDepth 20000 in
theorem gX5_lend_X5_at : GoodIn wsX5_lend (va_wsS RX5 93 yX5_at wsX5_at) := goodIn_app (goodIn_of _ (by decide +kernel)) ggX5_lend_X5_at
theorem dX5_lend_0 : decode cX5_lend 0 = .ok (.aload_n 0, 1) := by decide +kernel
theorem dX5_lend_1 : decode cX5_lend 1 = .ok (.iload_n 1, 1) := by decide +kernel
theorem dX5_lend_2 : decode cX5_lend 2 = .ok (.invokevirtual 66, 3) := by decide +kernel
theorem dX5_lend_5 : decode cX5_lend 5 = .ok (.aload_n 0, 1) := by decide +kernel
theorem dX5_lend_6 : decode cX5_lend 6 = .ok (.iload_n 2, 1) := by decide +kernel
theorem dX5_lend_7 : decode cX5_lend 7 = .ok (.invokevirtual 66, 3) := by decide +kernel
theorem dX5_lend_10 : decode cX5_lend 10 = .ok (.aload_n 0, 1) := by decide +kernel
theorem dX5_lend_11 : decode cX5_lend 11 = .ok (.getfield 10, 3) := by decide +kernel
theorem dX5_lend_14 : decode cX5_lend 14 = .ok (.getfield 45, 3) := by decide +kernel
theorem dX5_lend_17 : decode cX5_lend 17 = .ok (.iload_n 1, 1) := by decide +kernel
theorem dX5_lend_18 : decode cX5_lend 18 = .ok (.iload_n 2, 1) := by decide +kernel
theorem dX5_lend_19 : decode cX5_lend 19 = .ok (.invokevirtual 82, 3) := by decide +kernel
theorem dX5_lend_22 : decode cX5_lend 22 = .ok (.ifCond .ne 7, 3) := by decide +kernel
theorem dX5_lend_25 : decode cX5_lend 25 = .ok (.iconst 1, 1) := by decide +kernel
theorem dX5_lend_26 : decode cX5_lend 26 = .ok (.goto 4, 3) := by decide +kernel
theorem dX5_lend_29 : decode cX5_lend 29 = .ok (.iconst 0, 1) := by decide +kernel
theorem dX5_lend_30 : decode cX5_lend 30 = .ok (.invokestatic 55, 3) := by decide +kernel
theorem dX5_lend_33 : decode cX5_lend 33 = .ok (.aload_n 0, 1) := by decide +kernel
theorem dX5_lend_34 : decode cX5_lend 34 = .ok (.getfield 22, 3) := by decide +kernel
theorem dX5_lend_37 : decode cX5_lend 37 = .ok (.aload_n 0, 1) := by decide +kernel
theorem dX5_lend_38 : decode cX5_lend 38 = .ok (.getfield 10, 3) := by decide +kernel
theorem dX5_lend_41 : decode cX5_lend 41 = .ok (.invokevirtual 58, 3) := by decide +kernel
theorem dX5_lend_44 : decode cX5_lend 44 = .ok (.aload_n 0, 1) := by decide +kernel
theorem dX5_lend_45 : decode cX5_lend 45 = .ok (.getfield 10, 3) := by decide +kernel
theorem dX5_lend_48 : decode cX5_lend 48 = .ok (.getfield 45, 3) := by decide +kernel
theorem dX5_lend_51 : decode cX5_lend 51 = .ok (.iload_n 1, 1) := by decide +kernel
theorem dX5_lend_52 : decode cX5_lend 52 = .ok (.iload_n 2, 1) := by decide +kernel
theorem dX5_lend_53 : decode cX5_lend 53 = .ok (.invokevirtual 85, 3) := by decide +kernel
theorem dX5_lend_56 : decode cX5_lend 56 = .ok (.aload_n 0, 1) := by decide +kernel
theorem dX5_lend_57 : decode cX5_lend 57 = .ok (.getfield 10, 3) := by decide +kernel
theorem dX5_lend_60 : decode cX5_lend 60 = .ok (.getfield 45, 3) := by decide +kernel
theorem dX5_lend_63 : decode cX5_lend 63 = .ok (.getfield 89, 3) := by decide +kernel
theorem dX5_lend_66 : decode cX5_lend 66 = .ok (.iload_n 1, 1) := by decide +kernel
theorem dX5_lend_67 : decode cX5_lend 67 = .ok (.invokestatic 93, 3) := by decide +kernel
theorem dX5_lend_70 : decode cX5_lend 70 = .ok (.ireturn, 1) := by decide +kernel
set_option maxRecDepth 20000 in
theorem ggX5_giveBack_X5_needGuest : GoodIn wsX5_giveBack wsX5_needGuest := goodIn_ca (goodIn_r _ [7, 8, 9, 1, 10, 11, 12, 13, 14, 88, 89, 90, 91, 92, 93, 94, 95, 96, 97, 98, 99, 100, 101, 102, 103, 104, 105, 106, 107, 108, 109, 110, 111, 112, 113] (by decide +kernel) (by decide +kernel)) (goodIn_sub (fun _ h => List.mem_cons_of_mem _ (List.mem_append_left _ (List.mem_append_right _ h))) (by decide +kernel))
set_option maxRecDepth 20000 in
theorem gX5_giveBack_X5_needGuest : GoodIn wsX5_giveBack (wsV RX5 66 RX5 yX5_needGuest wsX5_needGuest) := goodIn_app (goodIn_of _ (by decide +kernel)) ggX5_giveBack_X5_needGuest
set_option maxRecDepth 20000 in
theorem ggX5_giveBack_X1_canReturnCoat : GoodIn wsX5_giveBack wsX1_canReturnCoat := goodIn_r _ [17, 18, 19, 6, 20, 21, 22, 23, 11, 24, 25, 105, 106, 107, 108, 109, 110, 111, 112, 113] (by decide +kernel) (by decide +kernel)
set_option maxRecDepth 20000 in
theorem gX5_giveBack_X1_canReturnCoat_n97 : GoodIn wsX5_giveBack (wsX1_canReturnCoat) := ggX5_giveBack_X1_canReturnCoat
set_option maxRecDepth 20000 in
theorem ggX5_giveBack_X5_needState : GoodIn wsX5_giveBack wsX5_needState := goodIn_ca (goodIn_r _ [28, 29, 30] (by decide +kernel) (by decide +kernel)) (goodIn_sub (fun _ h => List.mem_cons_of_mem _ (List.mem_append_right _ h)) (by decide +kernel))
set_option maxRecDepth 20000 in
theorem gX5_giveBack_X5_needState : GoodIn wsX5_giveBack (va_wsS RX5 55 yX5_needState wsX5_needState) := goodIn_app (goodIn_of _ (by decide +kernel)) ggX5_giveBack_X5_needState
set_option maxRecDepth 20000 in
theorem ggX5_giveBack_X2_save : GoodIn wsX5_giveBack wsX2_save := goodIn_r _ [34, 35, 36, 37, 38, 39, 32, 40, 41, 42, 43, 44, 45, 46, 47, 48, 49, 50, 51, 52, 53, 54, 55, 56, 57, 58, 11, 59, 60, 61, 62, 63, 64, 18, 65, 66, 25, 14, 67, 6, 68, 69, 70, 71, 72, 73, 74, 75, 76, 77, 78, 79, 80, 81, 82, 114, 115, 116, 93, 94, 95, 96, 97, 98, 99, 100, 101, 102, 103, 104, 105, 106, 107, 108, 109, 110, 111, 112, 113, 117, 118] (by decide +kernel) (by decide +kernel)
set_option maxRecDepth 20000 in
theorem gX5_giveBack_X2_save_n58 : GoodIn wsX5_giveBack (wsX2_save) := ggX5_giveBack_X2_save
set_option maxRecDepth 20000 in
theorem ggX5_giveBack_X1_returnCoat : GoodIn wsX5_giveBack wsX1_returnCoat := goodIn_r _ [85, 18, 65, 19, 6, 20, 86, 87, 105, 106, 107, 108, 109, 110, 111, 112, 113] (by decide +kernel) (by decide +kernel)
set_option maxRecDepth 20000 in
theorem gX5_giveBack_X1_returnCoat_n100 : GoodIn wsX5_giveBack (wsX1_returnCoat) := ggX5_giveBack_X1_returnCoat
theorem dX5_giveBack_0 : decode cX5_giveBack 0 = .ok (.aload_n 0, 1) := by decide +kernel
theorem dX5_giveBack_1 : decode cX5_giveBack 1 = .ok (.iload_n 1, 1) := by decide +kernel
theorem dX5_giveBack_2 : decode cX5_giveBack 2 = .ok (.invokevirtual 66, 3) := by decide +kernel
theorem dX5_giveBack_5 : decode cX5_giveBack 5 = .ok (.aload_n 0, 1) := by decide +kernel
theorem dX5_giveBack_6 : decode cX5_giveBack 6 = .ok (.getfield 10, 3) := by decide +kernel
theorem dX5_giveBack_9 : decode cX5_giveBack 9 = .ok (.getfield 45, 3) := by decide +kernel
theorem dX5_giveBack_12 : decode cX5_giveBack 12 = .ok (.iload_n 1, 1) := by decide +kernel
theorem dX5_giveBack_13 : decode cX5_giveBack 13 = .ok (.invokevirtual 97, 3) := by decide +kernel
theorem dX5_giveBack_16 : decode cX5_giveBack 16 = .ok (.invokestatic 55, 3) := by decide +kernel
theorem dX5_giveBack_19 : decode cX5_giveBack 19 = .ok (.aload_n 0, 1) := by decide +kernel
theorem dX5_giveBack_20 : decode cX5_giveBack 20 = .ok (.getfield 22, 3) := by decide +kernel
theorem dX5_giveBack_23 : decode cX5_giveBack 23 = .ok (.aload_n 0, 1) := by decide +kernel
theorem dX5_giveBack_24 : decode cX5_giveBack 24 = .ok (.getfield 10, 3) := by decide +kernel
theorem dX5_giveBack_27 : decode cX5_giveBack 27 = .ok (.invokevirtual 58, 3) := by decide +kernel
theorem dX5_giveBack_30 : decode cX5_giveBack 30 = .ok (.aload_n 0, 1) := by decide +kernel
theorem dX5_giveBack_31 : decode cX5_giveBack 31 = .ok (.getfield 10, 3) := by decide +kernel
theorem dX5_giveBack_34 : decode cX5_giveBack 34 = .ok (.getfield 45, 3) := by decide +kernel
theorem dX5_giveBack_37 : decode cX5_giveBack 37 = .ok (.iload_n 1, 1) := by decide +kernel
theorem dX5_giveBack_38 : decode cX5_giveBack 38 = .ok (.invokevirtual 100, 3) := by decide +kernel
theorem dX5_giveBack_41 : decode cX5_giveBack 41 = .ok (.ireturn, 1) := by decide +kernel
set_option maxRecDepth 20000 in
theorem ggX5_mask_X5_needGuest : GoodIn wsX5_mask wsX5_needGuest := goodIn_ca (goodIn_r _ [7, 8, 9, 1, 10, 11, 12, 13, 14, 88, 89, 90, 91, 92, 93, 94, 95, 96, 97, 98, 99, 100, 101, 102, 103, 104, 105, 106, 107, 108, 109, 110, 111, 112, 113] (by decide +kernel) (by decide +kernel)) (goodIn_sub (fun _ h => List.mem_cons_of_mem _ (List.mem_append_left _ (List.mem_append_right _ h))) (by decide +kernel))
set_option maxRecDepth 20000 in
theorem gX5_mask_X5_needGuest : GoodIn wsX5_mask (wsV RX5 66 RX5 yX5_needGuest wsX5_needGuest) := goodIn_app (goodIn_of _ (by decide +kernel)) ggX5_mask_X5_needGuest
set_option maxRecDepth 20000 in
theorem ggX5_mask_X0_reasonNoMask : GoodIn wsX5_mask wsX0_reasonNoMask := goodIn_r _ [18, 19, 20, 6, 21, 93, 94, 95, 96, 97, 98, 99, 100, 101, 102, 103, 104, 105, 106, 107, 108, 109, 110, 111, 112, 113] (by decide +kernel) (by decide +kernel)
set_option maxRecDepth 20000 in
theorem gX5_mask_X0_reasonNoMask_n103 : GoodIn wsX5_mask (wsX0_reasonNoMask) := ggX5_mask_X0_reasonNoMask
set_option maxRecDepth 20000 in
theorem ggX5_mask_X5_needState : GoodIn wsX5_mask wsX5_needState := goodIn_ca (goodIn_r _ [24, 25, 26] (by decide +kernel) (by decide +kernel)) (goodIn_sub (fun _ h => List.mem_cons_of_mem _ (List.mem_append_right _ h)) (by decide +kernel))
set_option maxRecDepth 20000 in
theorem gX5_mask_X5_needState : GoodIn wsX5_mask (va_wsS RX5 55 yX5_needState wsX5_needState) := goodIn_app (goodIn_of _ (by decide +kernel)) ggX5_mask_X5_needState
set_option maxRecDepth 20000 in
theorem ggX5_mask_X2_save : GoodIn wsX5_mask wsX2_save := goodIn_r _ [30, 31, 32, 33, 34, 35, 28, 36, 37, 38, 16, 39, 40, 19, 41, 42, 43, 44, 45, 46, 47, 48, 49, 50, 51, 52, 11, 53, 54, 55, 56, 57, 58, 59, 60, 61, 62, 14, 63, 6, 64, 65, 66, 67, 68, 69, 70, 71, 72, 73, 74, 75, 76, 77, 78, 114, 115, 116, 93, 94, 95, 96, 97, 98, 99, 100, 101, 102, 103, 104, 105, 106, 107, 108, 109, 110, 111, 112, 113, 117, 118] (by decide +kernel) (by decide +kernel)
set_option maxRecDepth 20000 in
theorem gX5_mask_X2_save_n58 : GoodIn wsX5_mask (wsX2_save) := ggX5_mask_X2_save
set_option maxRecDepth 20000 in
theorem ggX5_mask_X0_takeMask : GoodIn wsX5_mask wsX0_takeMask := goodIn_r _ [81, 44, 19, 42, 82, 11, 83, 84, 56, 20, 6, 21, 85, 86, 93, 94, 95, 96, 97, 98, 99, 100, 101, 102, 103, 104, 105, 106, 107, 108, 109, 110, 111, 112, 113] (by decide +kernel) (by decide +kernel)
set_option maxRecDepth 20000 in
theorem gX5_mask_X0_takeMask_n106 : GoodIn wsX5_mask (wsX0_takeMask) := ggX5_mask_X0_takeMask
set_option maxRecDepth 20000 in
theorem ggX5_mask_X5_at : GoodIn wsX5_mask wsX5_at := goodIn_r _ [21] (by decide +kernel) (by decide +kernel)
set_option maxRecDepth 20000 in
theorem gX5_mask_X5_at : GoodIn wsX5_mask (va_wsS RX5 93 yX5_at wsX5_at) := goodIn_app (goodIn_of _ (by decide +kernel)) ggX5_mask_X5_at
theorem dX5_mask_0 : decode cX5_mask 0 = .ok (.aload_n 0, 1) := by decide +kernel
theorem dX5_mask_1 : decode cX5_mask 1 = .ok (.iload_n 1, 1) := by decide +kernel
theorem dX5_mask_2 : decode cX5_mask 2 = .ok (.invokevirtual 66, 3) := by decide +kernel
theorem dX5_mask_5 : decode cX5_mask 5 = .ok (.aload_n 0, 1) := by decide +kernel
theorem dX5_mask_6 : decode cX5_mask 6 = .ok (.getfield 10, 3) := by decide +kernel
theorem dX5_mask_9 : decode cX5_mask 9 = .ok (.iload_n 1, 1) := by decide +kernel
theorem dX5_mask_10 : decode cX5_mask 10 = .ok (.invokevirtual 103, 3) := by decide +kernel
theorem dX5_mask_13 : decode cX5_mask 13 = .ok (.ifCond .ne 7, 3) := by decide +kernel
theorem dX5_mask_16 : decode cX5_mask 16 = .ok (.iconst 1, 1) := by decide +kernel
theorem dX5_mask_17 : decode cX5_mask 17 = .ok (.goto 4, 3) := by decide +kernel
theorem dX5_mask_20 : decode cX5_mask 20 = .ok (.iconst 0, 1) := by decide +kernel
theorem dX5_mask_21 : decode cX5_mask 21 = .ok (.invokestatic 55, 3) := by decide +kernel
theorem dX5_mask_24 : decode cX5_mask 24 = .ok (.aload_n 0, 1) := by decide +kernel
theorem dX5_mask_25 : decode cX5_mask 25 = .ok (.getfield 22, 3) := by decide +kernel
theorem dX5_mask_28 : decode cX5_mask 28 = .ok (.aload_n 0, 1) := by decide +kernel
theorem dX5_mask_29 : decode cX5_mask 29 = .ok (.getfield 10, 3) := by decide +kernel
theorem dX5_mask_32 : decode cX5_mask 32 = .ok (.invokevirtual 58, 3) := by decide +kernel
theorem dX5_mask_35 : decode cX5_mask 35 = .ok (.aload_n 0, 1) := by decide +kernel
theorem dX5_mask_36 : decode cX5_mask 36 = .ok (.getfield 10, 3) := by decide +kernel
theorem dX5_mask_39 : decode cX5_mask 39 = .ok (.iload_n 1, 1) := by decide +kernel
theorem dX5_mask_40 : decode cX5_mask 40 = .ok (.invokevirtual 106, 3) := by decide +kernel
theorem dX5_mask_43 : decode cX5_mask 43 = .ok (.aload_n 0, 1) := by decide +kernel
theorem dX5_mask_44 : decode cX5_mask 44 = .ok (.getfield 10, 3) := by decide +kernel
theorem dX5_mask_47 : decode cX5_mask 47 = .ok (.getfield 45, 3) := by decide +kernel
theorem dX5_mask_50 : decode cX5_mask 50 = .ok (.getfield 109, 3) := by decide +kernel
theorem dX5_mask_53 : decode cX5_mask 53 = .ok (.iload_n 1, 1) := by decide +kernel
theorem dX5_mask_54 : decode cX5_mask 54 = .ok (.invokestatic 93, 3) := by decide +kernel
theorem dX5_mask_57 : decode cX5_mask 57 = .ok (.ireturn, 1) := by decide +kernel
set_option maxRecDepth 20000 in
theorem ggX5_pay_X5_needGuest : GoodIn wsX5_pay wsX5_needGuest := goodIn_ca (goodIn_r _ [7, 8, 9, 2, 10, 11, 12, 13, 14, 81, 82, 83, 84, 85, 86, 87, 88, 89, 90, 91, 92, 93, 94, 95, 96, 97, 98, 99, 100, 101, 102, 103, 104, 105, 106] (by decide +kernel) (by decide +kernel)) (goodIn_sub (fun _ h => List.mem_cons_of_mem _ (List.mem_append_right _ h)) (by decide +kernel))
set_option maxRecDepth 20000 in
theorem gX5_pay_X5_needGuest : GoodIn wsX5_pay (wsV RX5 66 RX5 yX5_needGuest wsX5_needGuest) := goodIn_app (goodIn_of _ (by decide +kernel)) ggX5_pay_X5_needGuest
set_option maxRecDepth 20000 in
theorem ggX5_pay_X2_save : GoodIn wsX5_pay wsX2_save := goodIn_r _ [18, 19, 20, 21, 22, 23, 16, 24, 25, 26, 27, 28, 29, 30, 31, 32, 33, 34, 35, 36, 37, 38, 39, 40, 41, 42, 11, 43, 44, 45, 46, 47, 48, 49, 50, 51, 52, 14, 53, 6, 54, 55, 56, 57, 58, 59, 60, 61, 62, 63, 64, 65, 66, 67, 68, 107, 108, 109, 86, 87, 88, 89, 90, 91, 92, 93, 94, 95, 96, 97, 98, 99, 100, 101, 102, 103, 104, 105, 106, 110, 111] (by decide +kernel) (by decide +kernel)
set_option maxRecDepth 20000 in
theorem gX5_pay_X2_save_n58 : GoodIn wsX5_pay (wsX2_save) := ggX5_pay_X2_save
set_option maxRecDepth 20000 in
theorem ggX5_pay_X0_payDebts : GoodIn wsX5_pay wsX0_payDebts := goodIn_r _ [71, 30, 72, 56, 57, 58, 34, 73, 6, 74, 75, 11, 76, 77, 46, 78, 79, 86, 87, 88, 89, 90, 91, 92, 93, 94, 95, 96, 97, 98, 99, 100, 101, 102, 103, 104, 105, 106] (by decide +kernel) (by decide +kernel)
set_option maxRecDepth 20000 in
theorem gX5_pay_X0_payDebts_n112 : GoodIn wsX5_pay (wsX0_payDebts) := ggX5_pay_X0_payDebts
set_option maxRecDepth 20000 in
theorem ggX5_pay_X5_at : GoodIn wsX5_pay wsX5_at := goodIn_r _ [74] (by decide +kernel) (by decide +kernel)
set_option maxRecDepth 20000 in
theorem gX5_pay_X5_at : GoodIn wsX5_pay (va_wsS RX5 93 yX5_at wsX5_at) := goodIn_app (goodIn_of _ (by decide +kernel)) ggX5_pay_X5_at
theorem dX5_pay_0 : decode cX5_pay 0 = .ok (.aload_n 0, 1) := by decide +kernel
theorem dX5_pay_1 : decode cX5_pay 1 = .ok (.iload_n 1, 1) := by decide +kernel
theorem dX5_pay_2 : decode cX5_pay 2 = .ok (.invokevirtual 66, 3) := by decide +kernel
theorem dX5_pay_5 : decode cX5_pay 5 = .ok (.aload_n 0, 1) := by decide +kernel
theorem dX5_pay_6 : decode cX5_pay 6 = .ok (.getfield 22, 3) := by decide +kernel
theorem dX5_pay_9 : decode cX5_pay 9 = .ok (.aload_n 0, 1) := by decide +kernel
theorem dX5_pay_10 : decode cX5_pay 10 = .ok (.getfield 10, 3) := by decide +kernel
theorem dX5_pay_13 : decode cX5_pay 13 = .ok (.invokevirtual 58, 3) := by decide +kernel
theorem dX5_pay_16 : decode cX5_pay 16 = .ok (.aload_n 0, 1) := by decide +kernel
theorem dX5_pay_17 : decode cX5_pay 17 = .ok (.getfield 10, 3) := by decide +kernel
theorem dX5_pay_20 : decode cX5_pay 20 = .ok (.iload_n 1, 1) := by decide +kernel
theorem dX5_pay_21 : decode cX5_pay 21 = .ok (.invokevirtual 112, 3) := by decide +kernel
theorem dX5_pay_24 : decode cX5_pay 24 = .ok (.aload_n 0, 1) := by decide +kernel
theorem dX5_pay_25 : decode cX5_pay 25 = .ok (.getfield 10, 3) := by decide +kernel
theorem dX5_pay_28 : decode cX5_pay 28 = .ok (.getfield 45, 3) := by decide +kernel
theorem dX5_pay_31 : decode cX5_pay 31 = .ok (.getfield 115, 3) := by decide +kernel
theorem dX5_pay_34 : decode cX5_pay 34 = .ok (.iload_n 1, 1) := by decide +kernel
theorem dX5_pay_35 : decode cX5_pay 35 = .ok (.invokestatic 93, 3) := by decide +kernel
theorem dX5_pay_38 : decode cX5_pay 38 = .ok (.ireturn, 1) := by decide +kernel
set_option maxRecDepth 20000 in
theorem ggX5_queue_X5_needGuest : GoodIn wsX5_queue wsX5_needGuest := goodIn_ca (goodIn_r _ [7, 8, 9, 1, 10, 11, 12, 13, 14, 103, 104, 105, 106, 107, 108, 109, 110, 111, 112, 113, 114, 115, 116, 117, 118, 119, 120, 121, 122, 123, 124, 125, 126, 127, 128] (by decide +kernel) (by decide +kernel)) (goodIn_sub (fun _ h => List.mem_cons_of_mem _ (List.mem_append_left _ (List.mem_append_right _ h))) (by decide +kernel))
set_option maxRecDepth 20000 in
theorem gX5_queue_X5_needGuest : GoodIn wsX5_queue (wsV RX5 66 RX5 yX5_needGuest wsX5_needGuest) := goodIn_app (goodIn_of _ (by decide +kernel)) ggX5_queue_X5_needGuest
set_option maxRecDepth 20000 in
theorem ggX5_queue_X5_isGate : GoodIn wsX5_queue wsX5_isGate := goodIn_r _ [17, 18, 19, 6, 20] (by decide +kernel) (by decide +kernel)
set_option maxRecDepth 20000 in
theorem gX5_queue_X5_isGate : GoodIn wsX5_queue (va_wsS RX5 118 yX5_isGate wsX5_isGate) := goodIn_app (goodIn_of _ (by decide +kernel)) ggX5_queue_X5_isGate
set_option maxRecDepth 20000 in
theorem ggX5_queue_X5_needIndex : GoodIn wsX5_queue wsX5_needIndex := goodIn_ca (goodIn_r _ [23, 8, 9] (by decide +kernel) (by decide +kernel)) (goodIn_sub (fun _ h => List.mem_cons_of_mem _ (List.mem_append_left _ (List.mem_append_right _ h))) (by decide +kernel))
set_option maxRecDepth 20000 in
theorem gX5_queue_X5_needIndex : GoodIn wsX5_queue (va_wsS RX5 121 yX5_needIndex wsX5_needIndex) := goodIn_app (goodIn_of _ (by decide +kernel)) ggX5_queue_X5_needIndex
set_option maxRecDepth 20000 in
theorem ggX5_queue_X0_reasonNoLine : GoodIn wsX5_queue wsX0_reasonNoLine := goodIn_r _ [27, 28, 29, 30, 31, 11, 32, 33, 34, 35, 6, 36, 37, 38, 39, 40, 41, 42, 43, 44, 45, 46, 108, 109, 110, 111, 112, 113, 114, 115, 116, 117, 118, 119, 120, 121, 122, 123, 124, 125, 126, 127, 128, 129, 130] (by decide +kernel) (by decide +kernel)
set_option maxRecDepth 20000 in
theorem gX5_queue_X0_reasonNoLine_n124 : GoodIn wsX5_queue (wsX0_reasonNoLine) := ggX5_queue_X0_reasonNoLine
set_option maxRecDepth 20000 in
theorem ggX5_queue_X5_needState : GoodIn wsX5_queue wsX5_needState := goodIn_ca (goodIn_r _ [49, 50, 51] (by decide +kernel) (by decide +kernel)) (goodIn_sub (fun _ h => List.mem_cons_of_mem _ (List.mem_append_right _ h)) (by decide +kernel))
set_option maxRecDepth 20000 in
theorem gX5_queue_X5_needState : GoodIn wsX5_queue (va_wsS RX5 55 yX5_needState wsX5_needState) := goodIn_app (goodIn_of _ (by decide +kernel)) ggX5_queue_X5_needState
set_option maxRecDepth 20000 in
theorem ggX5_queue_X2_save : GoodIn wsX5_queue wsX2_save := goodIn_r _ [55, 56, 57, 58, 59, 60, 53, 61, 62, 63, 25, 64, 65, 28, 29, 30, 66, 67, 68, 69, 70, 71, 72, 73, 74, 75, 11, 76, 77, 78, 79, 80, 81, 82, 83, 84, 34, 14, 85, 6, 86, 87, 88, 89, 90, 91, 92, 93, 94, 95, 38, 96, 97, 46, 45, 131, 132, 133, 108, 109, 110, 111, 112, 113, 114, 115, 116, 117, 118, 119, 120, 121, 122, 123, 124, 125, 126, 127, 128, 129, 130] (by decide +kernel) (by decide +kernel)
set_option maxRecDepth 20000 in
theorem gX5_queue_X2_save_n58 : GoodIn wsX5_queue (wsX2_save) := ggX5_queue_X2_save
set_option maxRecDepth 20000 in
theorem ggX5_queue_X3_enter : GoodIn wsX5_queue wsX3_enter := goodIn_r _ [100, 45, 46, 35, 6, 36, 101, 102, 129, 130] (by decide +kernel) (by decide +kernel)
set_option maxRecDepth 20000 in
theorem gX5_queue_X3_enter_n131 : GoodIn wsX5_queue (wsX3_enter) := ggX5_queue_X3_enter
theorem dX5_queue_0 : decode cX5_queue 0 = .ok (.aload_n 0, 1) := by decide +kernel
theorem dX5_queue_1 : decode cX5_queue 1 = .ok (.iload_n 1, 1) := by decide +kernel
theorem dX5_queue_2 : decode cX5_queue 2 = .ok (.invokevirtual 66, 3) := by decide +kernel
theorem dX5_queue_5 : decode cX5_queue 5 = .ok (.iload_n 2, 1) := by decide +kernel
theorem dX5_queue_6 : decode cX5_queue 6 = .ok (.invokestatic 118, 3) := by decide +kernel
theorem dX5_queue_9 : decode cX5_queue 9 = .ok (.invokestatic 121, 3) := by decide +kernel
theorem dX5_queue_12 : decode cX5_queue 12 = .ok (.aload_n 0, 1) := by decide +kernel
theorem dX5_queue_13 : decode cX5_queue 13 = .ok (.getfield 10, 3) := by decide +kernel
theorem dX5_queue_16 : decode cX5_queue 16 = .ok (.iload_n 1, 1) := by decide +kernel
theorem dX5_queue_17 : decode cX5_queue 17 = .ok (.invokevirtual 124, 3) := by decide +kernel
theorem dX5_queue_20 : decode cX5_queue 20 = .ok (.ifCond .ne 7, 3) := by decide +kernel
theorem dX5_queue_23 : decode cX5_queue 23 = .ok (.iconst 1, 1) := by decide +kernel
theorem dX5_queue_24 : decode cX5_queue 24 = .ok (.goto 4, 3) := by decide +kernel
theorem dX5_queue_27 : decode cX5_queue 27 = .ok (.iconst 0, 1) := by decide +kernel
theorem dX5_queue_28 : decode cX5_queue 28 = .ok (.invokestatic 55, 3) := by decide +kernel
theorem dX5_queue_31 : decode cX5_queue 31 = .ok (.aload_n 0, 1) := by decide +kernel
theorem dX5_queue_32 : decode cX5_queue 32 = .ok (.getfield 22, 3) := by decide +kernel
theorem dX5_queue_35 : decode cX5_queue 35 = .ok (.aload_n 0, 1) := by decide +kernel
theorem dX5_queue_36 : decode cX5_queue 36 = .ok (.getfield 10, 3) := by decide +kernel
theorem dX5_queue_39 : decode cX5_queue 39 = .ok (.invokevirtual 58, 3) := by decide +kernel
theorem dX5_queue_42 : decode cX5_queue 42 = .ok (.aload_n 0, 1) := by decide +kernel
theorem dX5_queue_43 : decode cX5_queue 43 = .ok (.getfield 10, 3) := by decide +kernel
theorem dX5_queue_46 : decode cX5_queue 46 = .ok (.getfield 127, 3) := by decide +kernel
theorem dX5_queue_49 : decode cX5_queue 49 = .ok (.iload_n 1, 1) := by decide +kernel
theorem dX5_queue_50 : decode cX5_queue 50 = .ok (.iload_n 2, 1) := by decide +kernel
theorem dX5_queue_51 : decode cX5_queue 51 = .ok (.invokevirtual 131, 3) := by decide +kernel
theorem dX5_queue_54 : decode cX5_queue 54 = .ok (.ireturn, 1) := by decide +kernel
set_option maxRecDepth 20000 in
theorem ggX5_open_X5_isGate : GoodIn wsX5_open wsX5_isGate := goodIn_r _ [6, 7, 8, 5, 9] (by decide +kernel) (by decide +kernel)
set_option maxRecDepth 20000 in
theorem gX5_open_X5_isGate : GoodIn wsX5_open (va_wsS RX5 118 yX5_isGate wsX5_isGate) := goodIn_app (goodIn_of _ (by decide +kernel)) ggX5_open_X5_isGate
set_option maxRecDepth 20000 in
theorem ggX5_open_X5_needIndex : GoodIn wsX5_open wsX5_needIndex := goodIn_ca (goodIn_r _ [12, 13, 14] (by decide +kernel) (by decide +kernel)) (goodIn_sub (fun _ h => List.mem_cons_of_mem _ (List.mem_append_left _ (List.mem_append_right _ h))) (by decide +kernel))
set_option maxRecDepth 20000 in
theorem gX5_open_X5_needIndex : GoodIn wsX5_open (va_wsS RX5 121 yX5_needIndex wsX5_needIndex) := goodIn_app (goodIn_of _ (by decide +kernel)) ggX5_open_X5_needIndex
set_option maxRecDepth 20000 in
theorem ggX5_open_X5_at : GoodIn wsX5_open wsX5_at := goodIn_r _ [17] (by decide +kernel) (by decide +kernel)
set_option maxRecDepth 20000 in
theorem gX5_open_X5_at : GoodIn wsX5_open (va_wsS RX5 93 yX5_at wsX5_at) := goodIn_app (goodIn_of _ (by decide +kernel)) ggX5_open_X5_at
set_option maxRecDepth 20000 in
theorem ggX5_open_X5_needState : GoodIn wsX5_open wsX5_needState := goodIn_ca (goodIn_r _ [20, 21, 22] (by decide +kernel) (by decide +kernel)) (goodIn_sub (fun _ h => List.mem_cons_of_mem _ (List.mem_append_right _ h)) (by decide +kernel))
set_option maxRecDepth 20000 in
theorem gX5_open_X5_needState : GoodIn wsX5_open (va_wsS RX5 55 yX5_needState wsX5_needState) := goodIn_app (goodIn_of _ (by decide +kernel)) ggX5_open_X5_needState
set_option maxRecDepth 20000 in
theorem ggX5_open_X2_save : GoodIn wsX5_open wsX2_save := goodIn_r _ [26, 27, 28, 29, 30, 31, 24, 32, 33, 34, 35, 36, 37, 38, 39, 40, 41, 42, 43, 44, 45, 46, 47, 48, 49, 50, 51, 52, 53, 54, 55, 56, 57, 58, 59, 60, 61, 62, 63, 5, 64, 65, 66, 67, 68, 69, 70, 71, 72, 73, 74, 75, 76, 77, 78, 155, 156, 157, 141, 142, 143, 144, 145, 146, 147, 148, 149, 150, 151, 152, 158, 159, 160, 161, 162, 163, 164, 165, 166, 153, 154] (by decide +kernel) (by decide +kernel)
set_option maxRecDepth 20000 in
theorem gX5_open_X2_save_n58 : GoodIn wsX5_open (wsX2_save) := ggX5_open_X2_save
set_option maxRecDepth 20000 in
theorem ggX5_open_X0_openOnce : GoodIn wsX5_open wsX0_openOnce := goodIn_r _ [81, 39, 38, 40, 42, 82, 74, 83, 84, 78, 77, 16, 5, 17, 85, 86, 87, 88, 89, 90, 91, 51, 92, 93, 62, 94, 95, 96, 35, 97, 41, 98, 99, 67, 100, 101, 102, 103, 104, 105, 106, 107, 58, 59, 108, 109, 110, 57, 111, 112, 113, 114, 115, 116, 117, 118, 119, 120, 121, 122, 123, 124, 66, 68, 125, 126, 127, 128, 129, 130, 131, 55, 132, 133, 134, 135, 43, 47, 46, 141, 142, 143, 144, 145, 146, 147, 148, 149, 150, 151, 152, 158, 159, 160, 161, 162, 163, 164, 165, 166, 153, 154] (by decide +kernel) (by decide +kernel)
set_option maxRecDepth 20000 in
theorem gX5_open_X0_openOnce_n139 : GoodIn wsX5_open (wsX0_openOnce) := ggX5_open_X0_openOnce
theorem dX5_open_0 : decode cX5_open 0 = .ok (.iload_n 1, 1) := by decide +kernel
theorem dX5_open_1 : decode cX5_open 1 = .ok (.invokestatic 118, 3) := by decide +kernel
theorem dX5_open_4 : decode cX5_open 4 = .ok (.invokestatic 121, 3) := by decide +kernel
theorem dX5_open_7 : decode cX5_open 7 = .ok (.aload_n 0, 1) := by decide +kernel
theorem dX5_open_8 : decode cX5_open 8 = .ok (.getfield 10, 3) := by decide +kernel
theorem dX5_open_11 : decode cX5_open 11 = .ok (.getfield 127, 3) := by decide +kernel
theorem dX5_open_14 : decode cX5_open 14 = .ok (.getfield 136, 3) := by decide +kernel
theorem dX5_open_17 : decode cX5_open 17 = .ok (.iload_n 1, 1) := by decide +kernel
theorem dX5_open_18 : decode cX5_open 18 = .ok (.invokestatic 93, 3) := by decide +kernel
theorem dX5_open_21 : decode cX5_open 21 = .ok (.ifCond .le 7, 3) := by decide +kernel
theorem dX5_open_24 : decode cX5_open 24 = .ok (.iconst 1, 1) := by decide +kernel
theorem dX5_open_25 : decode cX5_open 25 = .ok (.goto 4, 3) := by decide +kernel
theorem dX5_open_28 : decode cX5_open 28 = .ok (.iconst 0, 1) := by decide +kernel
theorem dX5_open_29 : decode cX5_open 29 = .ok (.invokestatic 55, 3) := by decide +kernel
theorem dX5_open_32 : decode cX5_open 32 = .ok (.aload_n 0, 1) := by decide +kernel
theorem dX5_open_33 : decode cX5_open 33 = .ok (.getfield 22, 3) := by decide +kernel
theorem dX5_open_36 : decode cX5_open 36 = .ok (.aload_n 0, 1) := by decide +kernel
theorem dX5_open_37 : decode cX5_open 37 = .ok (.getfield 10, 3) := by decide +kernel
theorem dX5_open_40 : decode cX5_open 40 = .ok (.invokevirtual 58, 3) := by decide +kernel
theorem dX5_open_43 : decode cX5_open 43 = .ok (.aload_n 0, 1) := by decide +kernel
theorem dX5_open_44 : decode cX5_open 44 = .ok (.getfield 10, 3) := by decide +kernel
theorem dX5_open_47 : decode cX5_open 47 = .ok (.iload_n 1, 1) := by decide +kernel
theorem dX5_open_48 : decode cX5_open 48 = .ok (.invokevirtual 139, 3) := by decide +kernel
theorem dX5_open_51 : decode cX5_open 51 = .ok (.ireturn, 1) := by decide +kernel
set_option maxRecDepth 20000 in
theorem ggX5_night_X2_save : GoodIn wsX5_night wsX2_save := goodIn_r _ [6, 7, 8, 9, 10, 11, 4, 12, 13, 14, 15, 16, 17, 18, 19, 20, 21, 22, 23, 24, 25, 26, 27, 28, 29, 30, 31, 32, 33, 34, 35, 36, 37, 38, 39, 40, 41, 42, 43, 44, 45, 46, 47, 48, 49, 50, 51, 52, 53, 54, 55, 56, 57, 58, 59, 84, 85, 86, 87, 88, 89, 90, 91, 92, 93, 94, 95, 96, 97, 98, 99, 100, 101, 102, 103, 104, 105, 106, 107, 108, 109] (by decide +kernel) (by decide +kernel)
set_option maxRecDepth 20000 in
theorem gX5_night_X2_save_n58 : GoodIn wsX5_night (wsX2_save) := ggX5_night_X2_save
set_option maxRecDepth 20000 in
theorem ggX5_night_X0_endNight : GoodIn wsX5_night wsX0_endNight := goodIn_r _ [62, 18, 19, 21, 63, 44, 64, 65, 66, 67, 68, 31, 69, 70, 42, 41, 40, 71, 72, 48, 73, 74, 75, 76, 55, 77, 78, 59, 87, 88, 89, 90, 91, 92, 93, 94, 95, 96, 97, 98, 99, 100, 101, 102, 103, 104, 105, 106, 107, 108, 109] (by decide +kernel) (by decide +kernel)
set_option maxRecDepth 20000 in
theorem gX5_night_X0_endNight_n142 : GoodIn wsX5_night (wsX0_endNight) := ggX5_night_X0_endNight
theorem dX5_night_0 : decode cX5_night 0 = .ok (.aload_n 0, 1) := by decide +kernel
theorem dX5_night_1 : decode cX5_night 1 = .ok (.getfield 22, 3) := by decide +kernel
theorem dX5_night_4 : decode cX5_night 4 = .ok (.aload_n 0, 1) := by decide +kernel
theorem dX5_night_5 : decode cX5_night 5 = .ok (.getfield 10, 3) := by decide +kernel
theorem dX5_night_8 : decode cX5_night 8 = .ok (.invokevirtual 58, 3) := by decide +kernel
theorem dX5_night_11 : decode cX5_night 11 = .ok (.aload_n 0, 1) := by decide +kernel
theorem dX5_night_12 : decode cX5_night 12 = .ok (.getfield 10, 3) := by decide +kernel
theorem dX5_night_15 : decode cX5_night 15 = .ok (.invokevirtual 142, 3) := by decide +kernel
theorem dX5_night_18 : decode cX5_night 18 = .ok (.ireturn, 1) := by decide +kernel
set_option maxRecDepth 20000 in
theorem ggX5_set_X5_isWithin : GoodIn wsX5_set wsX5_isWithin := goodIn_r _ [8] (by decide +kernel) (by decide +kernel)
set_option maxRecDepth 20000 in
theorem gX5_set_X5_isWithin : GoodIn wsX5_set (va_wsS RX5 37 yX5_isWithin wsX5_isWithin) := goodIn_app (goodIn_of _ (by decide +kernel)) ggX5_set_X5_isWithin
set_option maxRecDepth 20000 in
theorem ggX5_set_X5_needIndex : GoodIn wsX5_set wsX5_needIndex := goodIn_ca (goodIn_r _ [11, 12, 13] (by decide +kernel) (by decide +kernel)) (goodIn_sub (fun _ h => List.mem_cons_of_mem _ (List.mem_append_left _ (List.mem_append_right _ h))) (by decide +kernel))
set_option maxRecDepth 20000 in
theorem gX5_set_X5_needIndex : GoodIn wsX5_set (va_wsS RX5 121 yX5_needIndex wsX5_needIndex) := goodIn_app (goodIn_of _ (by decide +kernel)) ggX5_set_X5_needIndex
set_option maxRecDepth 20000 in
theorem ggX5_set_X5_at : GoodIn wsX5_set wsX5_at := goodIn_r _ [16] (by decide +kernel) (by decide +kernel)
set_option maxRecDepth 20000 in
theorem gX5_set_X5_at : GoodIn wsX5_set (va_wsS RX5 93 yX5_at wsX5_at) := goodIn_app (goodIn_of _ (by decide +kernel)) ggX5_set_X5_at
set_option maxRecDepth 20000 in
theorem ggX5_set_X5_needArgument : GoodIn wsX5_set wsX5_needArgument := goodIn_ca (goodIn_r _ [19, 20, 21] (by decide +kernel) (by decide +kernel)) (goodIn_sub (fun _ h => List.mem_cons_of_mem _ (List.mem_append_right _ h)) (by decide +kernel))
set_option maxRecDepth 20000 in
theorem gX5_set_X5_needArgument : GoodIn wsX5_set (va_wsS RX5 41 yX5_needArgument wsX5_needArgument) := goodIn_app (goodIn_of _ (by decide +kernel)) ggX5_set_X5_needArgument
set_option maxRecDepth 20000 in
theorem ggX5_set_X2_save : GoodIn wsX5_set wsX2_save := goodIn_r _ [25, 26, 27, 28, 29, 30, 23, 31, 32, 33, 34, 35, 36, 37, 38, 39, 40, 41, 42, 43, 44, 45, 46, 47, 48, 49, 50, 51, 52, 53, 54, 55, 56, 57, 58, 59, 60, 61, 62, 7, 63, 64, 65, 66, 67, 68, 69, 70, 71, 72, 73, 74, 75, 76, 77, 98, 99, 100, 86, 87, 88, 89, 90, 91, 92, 93, 94, 95, 96, 97, 101, 102, 103, 104, 105, 106, 107, 108, 109, 110, 111] (by decide +kernel) (by decide +kernel)
set_option maxRecDepth 20000 in
theorem gX5_set_X2_save_n58 : GoodIn wsX5_set (wsX2_save) := ggX5_set_X2_save
set_option maxRecDepth 20000 in
theorem ggX5_set_X5_put : GoodIn wsX5_set wsX5_put := goodIn_r _ [80] (by decide +kernel) (by decide +kernel)
set_option maxRecDepth 20000 in
theorem gX5_set_X5_put : GoodIn wsX5_set (va_wsS RX5 155 yX5_put wsX5_put) := goodIn_app (goodIn_of _ (by decide +kernel)) ggX5_set_X5_put
theorem dX5_set_0 : decode cX5_set 0 = .ok (.iload_n 1, 1) := by decide +kernel
theorem dX5_set_1 : decode cX5_set 1 = .ok (.iconst 0, 1) := by decide +kernel
theorem dX5_set_2 : decode cX5_set 2 = .ok (.iconst 5, 1) := by decide +kernel
theorem dX5_set_3 : decode cX5_set 3 = .ok (.invokestatic 37, 3) := by decide +kernel
theorem dX5_set_6 : decode cX5_set 6 = .ok (.invokestatic 121, 3) := by decide +kernel
theorem dX5_set_9 : decode cX5_set 9 = .ok (.iload_n 2, 1) := by decide +kernel
theorem dX5_set_10 : decode cX5_set 10 = .ok (.getstatic 146, 3) := by decide +kernel
theorem dX5_set_13 : decode cX5_set 13 = .ok (.iload_n 1, 1) := by decide +kernel
theorem dX5_set_14 : decode cX5_set 14 = .ok (.invokestatic 93, 3) := by decide +kernel
theorem dX5_set_17 : decode cX5_set 17 = .ok (.getstatic 149, 3) := by decide +kernel
theorem dX5_set_20 : decode cX5_set 20 = .ok (.iload_n 1, 1) := by decide +kernel
theorem dX5_set_21 : decode cX5_set 21 = .ok (.invokestatic 93, 3) := by decide +kernel
theorem dX5_set_24 : decode cX5_set 24 = .ok (.invokestatic 37, 3) := by decide +kernel
theorem dX5_set_27 : decode cX5_set 27 = .ok (.invokestatic 41, 3) := by decide +kernel
theorem dX5_set_30 : decode cX5_set 30 = .ok (.aload_n 0, 1) := by decide +kernel
theorem dX5_set_31 : decode cX5_set 31 = .ok (.getfield 22, 3) := by decide +kernel
theorem dX5_set_34 : decode cX5_set 34 = .ok (.aload_n 0, 1) := by decide +kernel
theorem dX5_set_35 : decode cX5_set 35 = .ok (.getfield 10, 3) := by decide +kernel
theorem dX5_set_38 : decode cX5_set 38 = .ok (.invokevirtual 58, 3) := by decide +kernel
theorem dX5_set_41 : decode cX5_set 41 = .ok (.aload_n 0, 1) := by decide +kernel
theorem dX5_set_42 : decode cX5_set 42 = .ok (.getfield 10, 3) := by decide +kernel
theorem dX5_set_45 : decode cX5_set 45 = .ok (.getfield 152, 3) := by decide +kernel
theorem dX5_set_48 : decode cX5_set 48 = .ok (.iload_n 1, 1) := by decide +kernel
theorem dX5_set_49 : decode cX5_set 49 = .ok (.invokestatic 93, 3) := by decide +kernel
theorem dX5_set_52 : decode cX5_set 52 = .ok (.istore_n 3, 1) := by decide +kernel
theorem dX5_set_53 : decode cX5_set 53 = .ok (.aload_n 0, 1) := by decide +kernel
theorem dX5_set_54 : decode cX5_set 54 = .ok (.getfield 10, 3) := by decide +kernel
theorem dX5_set_57 : decode cX5_set 57 = .ok (.getfield 152, 3) := by decide +kernel
theorem dX5_set_60 : decode cX5_set 60 = .ok (.iload_n 1, 1) := by decide +kernel
theorem dX5_set_61 : decode cX5_set 61 = .ok (.iload_n 2, 1) := by decide +kernel
theorem dX5_set_62 : decode cX5_set 62 = .ok (.invokestatic 155, 3) := by decide +kernel
theorem dX5_set_65 : decode cX5_set 65 = .ok (.iload_n 3, 1) := by decide +kernel
theorem dX5_set_66 : decode cX5_set 66 = .ok (.ireturn, 1) := by decide +kernel
set_option maxRecDepth 20000 in
theorem ggX5_undo_X5_needState : GoodIn wsX5_undo wsX5_needState := goodIn_ca (goodIn_r _ [6, 7, 8] (by decide +kernel) (by decide +kernel)) (goodIn_sub (fun _ h => List.mem_cons_of_mem _ (List.mem_append_right _ h)) (by decide +kernel))
set_option maxRecDepth 20000 in
theorem gX5_undo_X5_needState : GoodIn wsX5_undo (va_wsS RX5 55 yX5_needState wsX5_needState) := goodIn_app (goodIn_of _ (by decide +kernel)) ggX5_undo_X5_needState
set_option maxRecDepth 20000 in
theorem ggX5_undo_X2_bringBack : GoodIn wsX5_undo wsX2_bringBack := goodIn_r _ [12, 13, 14, 15, 16, 10, 17, 18, 19, 20, 21, 22, 23, 24, 25, 26, 27, 28, 29, 30, 31, 32, 33, 34, 35, 36, 37, 38, 39, 40, 41, 42, 43, 44, 45, 46, 47, 48, 49, 5, 50, 51, 52, 53, 54, 55, 56, 57, 58, 59, 60, 61, 62, 63, 64, 70, 71, 72, 73, 74, 75, 76, 77, 78, 79, 80, 81, 82, 83, 84, 85, 86, 87, 88, 89, 90, 91, 92, 93, 94, 95] (by decide +kernel) (by decide +kernel)
set_option maxRecDepth 20000 in
theorem gX5_undo_X2_bringBack_n185 : GoodIn wsX5_undo (wsX2_bringBack) := ggX5_undo_X2_bringBack
theorem dX5_undo_0 : decode cX5_undo 0 = .ok (.aload_n 0, 1) := by decide +kernel
theorem dX5_undo_1 : decode cX5_undo 1 = .ok (.getfield 22, 3) := by decide +kernel
theorem dX5_undo_4 : decode cX5_undo 4 = .ok (.getfield 184, 3) := by decide +kernel
theorem dX5_undo_7 : decode cX5_undo 7 = .ok (.ifCond .le 7, 3) := by decide +kernel
theorem dX5_undo_10 : decode cX5_undo 10 = .ok (.iconst 1, 1) := by decide +kernel
theorem dX5_undo_11 : decode cX5_undo 11 = .ok (.goto 4, 3) := by decide +kernel
theorem dX5_undo_14 : decode cX5_undo 14 = .ok (.iconst 0, 1) := by decide +kernel
theorem dX5_undo_15 : decode cX5_undo 15 = .ok (.invokestatic 55, 3) := by decide +kernel
theorem dX5_undo_18 : decode cX5_undo 18 = .ok (.aload_n 0, 1) := by decide +kernel
theorem dX5_undo_19 : decode cX5_undo 19 = .ok (.getfield 22, 3) := by decide +kernel
theorem dX5_undo_22 : decode cX5_undo 22 = .ok (.aload_n 0, 1) := by decide +kernel
theorem dX5_undo_23 : decode cX5_undo 23 = .ok (.getfield 10, 3) := by decide +kernel
theorem dX5_undo_26 : decode cX5_undo 26 = .ok (.invokevirtual 185, 3) := by decide +kernel
theorem dX5_undo_29 : decode cX5_undo 29 = .ok (.aload_n 0, 1) := by decide +kernel
theorem dX5_undo_30 : decode cX5_undo 30 = .ok (.getfield 22, 3) := by decide +kernel
theorem dX5_undo_33 : decode cX5_undo 33 = .ok (.getfield 184, 3) := by decide +kernel
theorem dX5_undo_36 : decode cX5_undo 36 = .ok (.ireturn, 1) := by decide +kernel
set_option maxRecDepth 20000 in
theorem ggX5_keep_X0_copyState : GoodIn wsX5_keep wsX0_copyState := goodIn_r _ [7, 8, 9, 10, 11, 12, 13, 14, 15, 16, 17, 18, 19, 20, 21, 22, 23, 24, 25, 26, 27, 28, 29, 30, 31, 32, 33, 34, 35, 36, 37, 38, 39, 40, 41, 42, 43, 44, 45, 46, 47, 48, 49, 55, 56, 57, 58, 59, 60, 61, 62, 63, 64, 65, 66, 67, 68, 69, 70, 71, 72, 73, 74, 75, 76, 77] (by decide +kernel) (by decide +kernel)
set_option maxRecDepth 20000 in
theorem gX5_keep_X0_copyState_n188 : GoodIn wsX5_keep (wsX0_copyState) := ggX5_keep_X0_copyState
theorem dX5_keep_0 : decode cX5_keep 0 = .ok (.aload_n 0, 1) := by decide +kernel
theorem dX5_keep_1 : decode cX5_keep 1 = .ok (.getfield 16, 3) := by decide +kernel
theorem dX5_keep_4 : decode cX5_keep 4 = .ok (.aload_n 0, 1) := by decide +kernel
theorem dX5_keep_5 : decode cX5_keep 5 = .ok (.getfield 10, 3) := by decide +kernel
theorem dX5_keep_8 : decode cX5_keep 8 = .ok (.invokevirtual 188, 3) := by decide +kernel
theorem dX5_keep_11 : decode cX5_keep 11 = .ok (.aload_n 0, 1) := by decide +kernel
theorem dX5_keep_12 : decode cX5_keep 12 = .ok (.iconst 1, 1) := by decide +kernel
theorem dX5_keep_13 : decode cX5_keep 13 = .ok (.putfield 33, 3) := by decide +kernel
theorem dX5_keep_16 : decode cX5_keep 16 = .ok (.aload_n 0, 1) := by decide +kernel
theorem dX5_keep_17 : decode cX5_keep 17 = .ok (.getfield 10, 3) := by decide +kernel
theorem dX5_keep_20 : decode cX5_keep 20 = .ok (.getfield 191, 3) := by decide +kernel
theorem dX5_keep_23 : decode cX5_keep 23 = .ok (.ireturn, 1) := by decide +kernel
set_option maxRecDepth 20000 in
theorem ggX5_restore_X5_needState : GoodIn wsX5_restore wsX5_needState := goodIn_ca (goodIn_r _ [8, 9, 10] (by decide +kernel) (by decide +kernel)) (goodIn_sub (fun _ h => List.mem_cons_of_mem _ (List.mem_append_right _ h)) (by decide +kernel))
set_option maxRecDepth 20000 in
theorem gX5_restore_X5_needState : GoodIn wsX5_restore (va_wsS RX5 55 yX5_needState wsX5_needState) := goodIn_app (goodIn_of _ (by decide +kernel)) ggX5_restore_X5_needState
set_option maxRecDepth 20000 in
theorem ggX5_restore_X2_save : GoodIn wsX5_restore wsX2_save := goodIn_r _ [14, 15, 16, 17, 18, 19, 12, 20, 21, 22, 23, 24, 25, 26, 27, 28, 29, 30, 31, 32, 33, 34, 35, 36, 37, 38, 39, 40, 41, 42, 43, 44, 45, 46, 47, 48, 49, 50, 51, 7, 52, 53, 54, 55, 56, 57, 58, 59, 60, 61, 62, 63, 64, 65, 66, 84, 85, 86, 72, 73, 74, 75, 76, 77, 78, 79, 80, 81, 82, 83, 87, 88, 89, 90, 91, 92, 93, 94, 95, 96, 97] (by decide +kernel) (by decide +kernel)
set_option maxRecDepth 20000 in
theorem gX5_restore_X2_save_n58 : GoodIn wsX5_restore (wsX2_save) := ggX5_restore_X2_save
set_option maxRecDepth 20000 in
theorem ggX5_restore_X0_copyState : GoodIn wsX5_restore wsX0_copyState := goodIn_r _ [25, 26, 27, 28, 29, 30, 31, 32, 33, 34, 35, 36, 37, 38, 39, 40, 41, 42, 43, 44, 45, 46, 47, 48, 49, 50, 51, 7, 52, 53, 54, 55, 56, 57, 58, 59, 60, 61, 62, 63, 64, 65, 66, 72, 73, 74, 75, 76, 77, 78, 79, 80, 81, 82, 83, 87, 88, 89, 90, 91, 92, 93, 94, 95, 96, 97] (by decide +kernel) (by decide +kernel)
set_option maxRecDepth 20000 in
theorem gX5_restore_X0_copyState_n188 : GoodIn wsX5_restore (wsX0_copyState) := ggX5_restore_X0_copyState
theorem dX5_restore_0 : decode cX5_restore 0 = .ok (.aload_n 0, 1) := by decide +kernel
theorem dX5_restore_1 : decode cX5_restore 1 = .ok (.getfield 33, 3) := by decide +kernel
theorem dX5_restore_4 : decode cX5_restore 4 = .ok (.invokestatic 55, 3) := by decide +kernel
theorem dX5_restore_7 : decode cX5_restore 7 = .ok (.aload_n 0, 1) := by decide +kernel
theorem dX5_restore_8 : decode cX5_restore 8 = .ok (.getfield 22, 3) := by decide +kernel
theorem dX5_restore_11 : decode cX5_restore 11 = .ok (.aload_n 0, 1) := by decide +kernel
theorem dX5_restore_12 : decode cX5_restore 12 = .ok (.getfield 10, 3) := by decide +kernel
theorem dX5_restore_15 : decode cX5_restore 15 = .ok (.invokevirtual 58, 3) := by decide +kernel
theorem dX5_restore_18 : decode cX5_restore 18 = .ok (.aload_n 0, 1) := by decide +kernel
theorem dX5_restore_19 : decode cX5_restore 19 = .ok (.getfield 10, 3) := by decide +kernel
theorem dX5_restore_22 : decode cX5_restore 22 = .ok (.aload_n 0, 1) := by decide +kernel
theorem dX5_restore_23 : decode cX5_restore 23 = .ok (.getfield 16, 3) := by decide +kernel
theorem dX5_restore_26 : decode cX5_restore 26 = .ok (.invokevirtual 188, 3) := by decide +kernel
theorem dX5_restore_29 : decode cX5_restore 29 = .ok (.aload_n 0, 1) := by decide +kernel
theorem dX5_restore_30 : decode cX5_restore 30 = .ok (.getfield 10, 3) := by decide +kernel
theorem dX5_restore_33 : decode cX5_restore 33 = .ok (.getfield 191, 3) := by decide +kernel
theorem dX5_restore_36 : decode cX5_restore 36 = .ok (.ireturn, 1) := by decide +kernel
set_option maxRecDepth 20000 in
theorem ggX5_guest_X5_needGuest : GoodIn wsX5_guest wsX5_needGuest := goodIn_ca (goodIn_r _ [6, 7, 8, 1, 9, 10, 11, 12, 13, 53, 54, 55, 56, 57, 58, 59, 60, 61, 62, 63, 64, 65, 66, 67, 68, 69, 70, 71, 72, 73, 74, 75, 76, 77, 78] (by decide +kernel) (by decide +kernel)) (goodIn_sub (fun _ h => List.mem_cons_of_mem _ (List.mem_append_left _ (List.mem_append_right _ h))) (by decide +kernel))
set_option maxRecDepth 20000 in
theorem gX5_guest_X5_needGuest : GoodIn wsX5_guest (wsV RX5 66 RX5 yX5_needGuest wsX5_needGuest) := goodIn_app (goodIn_of _ (by decide +kernel)) ggX5_guest_X5_needGuest
set_option maxRecDepth 20000 in
theorem ggX5_guest_X5_isWithin : GoodIn wsX5_guest wsX5_isWithin := goodIn_r _ [16] (by decide +kernel) (by decide +kernel)
set_option maxRecDepth 20000 in
theorem gX5_guest_X5_isWithin : GoodIn wsX5_guest (va_wsS RX5 37 yX5_isWithin wsX5_isWithin) := goodIn_app (goodIn_of _ (by decide +kernel)) ggX5_guest_X5_isWithin
set_option maxRecDepth 20000 in
theorem ggX5_guest_X5_needArgument : GoodIn wsX5_guest wsX5_needArgument := goodIn_ca (goodIn_r _ [19, 20, 21] (by decide +kernel) (by decide +kernel)) (goodIn_sub (fun _ h => List.mem_cons_of_mem _ (List.mem_append_right _ h)) (by decide +kernel))
set_option maxRecDepth 20000 in
theorem gX5_guest_X5_needArgument : GoodIn wsX5_guest (va_wsS RX5 41 yX5_needArgument wsX5_needArgument) := goodIn_app (goodIn_of _ (by decide +kernel)) ggX5_guest_X5_needArgument
set_option maxRecDepth 20000 in
theorem ggX5_guest_X0_guestNumber : GoodIn wsX5_guest wsX0_guestNumber := goodIn_r _ [25, 26, 27, 28, 5, 29, 30, 10, 31, 32, 33, 34, 35, 36, 37, 38, 39, 40, 41, 42, 43, 44, 45, 46, 47, 48, 49, 50, 51, 52, 58, 59, 60, 61, 62, 63, 64, 65, 66, 67, 68, 69, 70, 71, 72, 73, 74, 75, 76, 77, 78, 79, 80] (by decide +kernel) (by decide +kernel)
set_option maxRecDepth 20000 in
theorem gX5_guest_X0_guestNumber_n194 : GoodIn wsX5_guest (wsX0_guestNumber) := ggX5_guest_X0_guestNumber
theorem dX5_guest_0 : decode cX5_guest 0 = .ok (.aload_n 0, 1) := by decide +kernel
theorem dX5_guest_1 : decode cX5_guest 1 = .ok (.iload_n 1, 1) := by decide +kernel
theorem dX5_guest_2 : decode cX5_guest 2 = .ok (.invokevirtual 66, 3) := by decide +kernel
theorem dX5_guest_5 : decode cX5_guest 5 = .ok (.iload_n 2, 1) := by decide +kernel
theorem dX5_guest_6 : decode cX5_guest 6 = .ok (.iconst 0, 1) := by decide +kernel
theorem dX5_guest_7 : decode cX5_guest 7 = .ok (.bipush 10, 2) := by decide +kernel
theorem dX5_guest_9 : decode cX5_guest 9 = .ok (.invokestatic 37, 3) := by decide +kernel
theorem dX5_guest_12 : decode cX5_guest 12 = .ok (.invokestatic 41, 3) := by decide +kernel
theorem dX5_guest_15 : decode cX5_guest 15 = .ok (.aload_n 0, 1) := by decide +kernel
theorem dX5_guest_16 : decode cX5_guest 16 = .ok (.getfield 10, 3) := by decide +kernel
theorem dX5_guest_19 : decode cX5_guest 19 = .ok (.iload_n 1, 1) := by decide +kernel
theorem dX5_guest_20 : decode cX5_guest 20 = .ok (.iload_n 2, 1) := by decide +kernel
theorem dX5_guest_21 : decode cX5_guest 21 = .ok (.invokevirtual 194, 3) := by decide +kernel
theorem dX5_guest_24 : decode cX5_guest 24 = .ok (.ireturn, 1) := by decide +kernel
set_option maxRecDepth 20000 in
theorem ggX5_law_X5_isGate : GoodIn wsX5_law wsX5_isGate := goodIn_r _ [5, 6, 7, 4, 8] (by decide +kernel) (by decide +kernel)
set_option maxRecDepth 20000 in
theorem gX5_law_X5_isGate : GoodIn wsX5_law (va_wsS RX5 118 yX5_isGate wsX5_isGate) := goodIn_app (goodIn_of _ (by decide +kernel)) ggX5_law_X5_isGate
set_option maxRecDepth 20000 in
theorem ggX5_law_X5_needIndex : GoodIn wsX5_law wsX5_needIndex := goodIn_ca (goodIn_r _ [11, 12, 13] (by decide +kernel) (by decide +kernel)) (goodIn_sub (fun _ h => List.mem_cons_of_mem _ (List.mem_append_left _ (List.mem_append_right _ h))) (by decide +kernel))
set_option maxRecDepth 20000 in
theorem gX5_law_X5_needIndex : GoodIn wsX5_law (va_wsS RX5 121 yX5_needIndex wsX5_needIndex) := goodIn_app (goodIn_of _ (by decide +kernel)) ggX5_law_X5_needIndex
set_option maxRecDepth 20000 in
theorem ggX5_law_X5_isWithin : GoodIn wsX5_law wsX5_isWithin := goodIn_r _ [8] (by decide +kernel) (by decide +kernel)
set_option maxRecDepth 20000 in
theorem gX5_law_X5_isWithin : GoodIn wsX5_law (va_wsS RX5 37 yX5_isWithin wsX5_isWithin) := goodIn_app (goodIn_of _ (by decide +kernel)) ggX5_law_X5_isWithin
set_option maxRecDepth 20000 in
theorem ggX5_law_X5_needArgument : GoodIn wsX5_law wsX5_needArgument := goodIn_ca (goodIn_r _ [16, 17, 18] (by decide +kernel) (by decide +kernel)) (goodIn_sub (fun _ h => List.mem_cons_of_mem _ (List.mem_append_right _ h)) (by decide +kernel))
set_option maxRecDepth 20000 in
theorem gX5_law_X5_needArgument : GoodIn wsX5_law (va_wsS RX5 41 yX5_needArgument wsX5_needArgument) := goodIn_app (goodIn_of _ (by decide +kernel)) ggX5_law_X5_needArgument
set_option maxRecDepth 20000 in
theorem ggX5_law_X0_allowedElls : GoodIn wsX5_law wsX0_allowedElls := goodIn_r _ [22, 23, 24, 25, 26, 27, 28, 4, 29, 35, 36, 37, 38, 39, 40, 41, 42, 43, 44, 45, 46] (by decide +kernel) (by decide +kernel)
set_option maxRecDepth 20000 in
theorem gX5_law_X0_allowedElls_n197 : GoodIn wsX5_law (wsX0_allowedElls) := ggX5_law_X0_allowedElls
theorem dX5_law_0 : decode cX5_law 0 = .ok (.iload_n 1, 1) := by decide +kernel
theorem dX5_law_1 : decode cX5_law 1 = .ok (.invokestatic 118, 3) := by decide +kernel
theorem dX5_law_4 : decode cX5_law 4 = .ok (.invokestatic 121, 3) := by decide +kernel
theorem dX5_law_7 : decode cX5_law 7 = .ok (.iload_n 2, 1) := by decide +kernel
theorem dX5_law_8 : decode cX5_law 8 = .ok (.iconst 0, 1) := by decide +kernel
theorem dX5_law_9 : decode cX5_law 9 = .ok (.iconst 4, 1) := by decide +kernel
theorem dX5_law_10 : decode cX5_law 10 = .ok (.invokestatic 37, 3) := by decide +kernel
theorem dX5_law_13 : decode cX5_law 13 = .ok (.invokestatic 41, 3) := by decide +kernel
theorem dX5_law_16 : decode cX5_law 16 = .ok (.iload_n 3, 1) := by decide +kernel
theorem dX5_law_17 : decode cX5_law 17 = .ok (.ifCond .lt 7, 3) := by decide +kernel
theorem dX5_law_20 : decode cX5_law 20 = .ok (.iconst 1, 1) := by decide +kernel
theorem dX5_law_21 : decode cX5_law 21 = .ok (.goto 4, 3) := by decide +kernel
theorem dX5_law_24 : decode cX5_law 24 = .ok (.iconst 0, 1) := by decide +kernel
theorem dX5_law_25 : decode cX5_law 25 = .ok (.invokestatic 41, 3) := by decide +kernel
theorem dX5_law_28 : decode cX5_law 28 = .ok (.aload_n 0, 1) := by decide +kernel
theorem dX5_law_29 : decode cX5_law 29 = .ok (.getfield 10, 3) := by decide +kernel
theorem dX5_law_32 : decode cX5_law 32 = .ok (.iload_n 1, 1) := by decide +kernel
theorem dX5_law_33 : decode cX5_law 33 = .ok (.iload_n 2, 1) := by decide +kernel
theorem dX5_law_34 : decode cX5_law 34 = .ok (.iload_n 3, 1) := by decide +kernel
theorem dX5_law_35 : decode cX5_law 35 = .ok (.invokevirtual 197, 3) := by decide +kernel
theorem dX5_law_38 : decode cX5_law 38 = .ok (.ireturn, 1) := by decide +kernel
set_option maxRecDepth 20000 in
theorem ggX5_count_X5_isWithin : GoodIn wsX5_count wsX5_isWithin := goodIn_r _ [4] (by decide +kernel) (by decide +kernel)
set_option maxRecDepth 20000 in
theorem gX5_count_X5_isWithin : GoodIn wsX5_count (va_wsS RX5 37 yX5_isWithin wsX5_isWithin) := goodIn_app (goodIn_of _ (by decide +kernel)) ggX5_count_X5_isWithin
set_option maxRecDepth 20000 in
theorem ggX5_count_X5_needArgument : GoodIn wsX5_count wsX5_needArgument := goodIn_ca (goodIn_r _ [7, 8, 9] (by decide +kernel) (by decide +kernel)) (goodIn_sub (fun _ h => List.mem_cons_of_mem _ (List.mem_append_right _ h)) (by decide +kernel))
set_option maxRecDepth 20000 in
theorem gX5_count_X5_needArgument : GoodIn wsX5_count (va_wsS RX5 41 yX5_needArgument wsX5_needArgument) := goodIn_app (goodIn_of _ (by decide +kernel)) ggX5_count_X5_needArgument
set_option maxRecDepth 20000 in
theorem ggX5_count_X5_numberOf : GoodIn wsX5_count wsX5_numberOf := goodIn_r _ [13, 14, 15, 16, 17, 18, 19, 20, 21, 22, 23, 24, 25, 26, 27, 28, 29, 30, 3, 31, 32, 33, 34, 35, 36, 37, 38, 39, 40, 41, 42, 43, 44, 45, 46, 47, 48, 49, 50, 51, 52, 53, 54, 55, 56, 57, 58, 59, 60, 61, 62, 63, 64, 65, 66, 67, 68, 69, 70, 71, 72, 73, 74, 75, 76, 77, 78, 79] (by decide +kernel) (by decide +kernel)
set_option maxRecDepth 20000 in
theorem gX5_count_X5_numberOf : GoodIn wsX5_count (wsV RX5 200 RX5 yX5_numberOf wsX5_numberOf) := goodIn_app (goodIn_of _ (by decide +kernel)) ggX5_count_X5_numberOf
theorem dX5_count_0 : decode cX5_count 0 = .ok (.iload_n 1, 1) := by decide +kernel
theorem dX5_count_1 : decode cX5_count 1 = .ok (.iconst 0, 1) := by decide +kernel
theorem dX5_count_2 : decode cX5_count 2 = .ok (.bipush 21, 2) := by decide +kernel
theorem dX5_count_4 : decode cX5_count 4 = .ok (.invokestatic 37, 3) := by decide +kernel
theorem dX5_count_7 : decode cX5_count 7 = .ok (.invokestatic 41, 3) := by decide +kernel
theorem dX5_count_10 : decode cX5_count 10 = .ok (.aload_n 0, 1) := by decide +kernel
theorem dX5_count_11 : decode cX5_count 11 = .ok (.iload_n 1, 1) := by decide +kernel
theorem dX5_count_12 : decode cX5_count 12 = .ok (.invokevirtual 200, 3) := by decide +kernel
theorem dX5_count_15 : decode cX5_count 15 = .ok (.ireturn, 1) := by decide +kernel
set_option maxRecDepth 20000 in
theorem ggX5_line_X5_isGate : GoodIn wsX5_line wsX5_isGate := goodIn_r _ [5, 6, 7, 4, 8] (by decide +kernel) (by decide +kernel)
set_option maxRecDepth 20000 in
theorem gX5_line_X5_isGate : GoodIn wsX5_line (va_wsS RX5 118 yX5_isGate wsX5_isGate) := goodIn_app (goodIn_of _ (by decide +kernel)) ggX5_line_X5_isGate
set_option maxRecDepth 20000 in
theorem ggX5_line_X5_needIndex : GoodIn wsX5_line wsX5_needIndex := goodIn_ca (goodIn_r _ [11, 12, 13] (by decide +kernel) (by decide +kernel)) (goodIn_sub (fun _ h => List.mem_cons_of_mem _ (List.mem_append_right _ h)) (by decide +kernel))
set_option maxRecDepth 20000 in
theorem gX5_line_X5_needIndex : GoodIn wsX5_line (va_wsS RX5 121 yX5_needIndex wsX5_needIndex) := goodIn_app (goodIn_of _ (by decide +kernel)) ggX5_line_X5_needIndex
set_option maxRecDepth 20000 in
theorem ggX5_line_X5_at : GoodIn wsX5_line wsX5_at := goodIn_r _ [16] (by decide +kernel) (by decide +kernel)
set_option maxRecDepth 20000 in
theorem gX5_line_X5_at : GoodIn wsX5_line (va_wsS RX5 93 yX5_at wsX5_at) := goodIn_app (goodIn_of _ (by decide +kernel)) ggX5_line_X5_at
theorem dX5_line_0 : decode cX5_line 0 = .ok (.iload_n 1, 1) := by decide +kernel
theorem dX5_line_1 : decode cX5_line 1 = .ok (.invokestatic 118, 3) := by decide +kernel
theorem dX5_line_4 : decode cX5_line 4 = .ok (.invokestatic 121, 3) := by decide +kernel
theorem dX5_line_7 : decode cX5_line 7 = .ok (.aload_n 0, 1) := by decide +kernel
theorem dX5_line_8 : decode cX5_line 8 = .ok (.getfield 10, 3) := by decide +kernel
theorem dX5_line_11 : decode cX5_line 11 = .ok (.getfield 127, 3) := by decide +kernel
theorem dX5_line_14 : decode cX5_line 14 = .ok (.getfield 136, 3) := by decide +kernel
theorem dX5_line_17 : decode cX5_line 17 = .ok (.iload_n 1, 1) := by decide +kernel
theorem dX5_line_18 : decode cX5_line 18 = .ok (.invokestatic 93, 3) := by decide +kernel
theorem dX5_line_21 : decode cX5_line 21 = .ok (.ireturn, 1) := by decide +kernel
set_option maxRecDepth 20000 in
theorem ggX5_noLoan_X5_needGuest : GoodIn wsX5_noLoan wsX5_needGuest := goodIn_ca (goodIn_r _ [6, 7, 8, 1, 9, 10, 11, 12, 13, 30, 31, 32, 33, 34, 35, 36, 37, 38, 39, 40, 41, 42, 43, 44, 45, 46, 47, 48, 49, 50, 51, 52, 53, 54, 55] (by decide +kernel) (by decide +kernel)) (goodIn_sub (fun _ h => List.mem_cons_of_mem _ (List.mem_append_right _ h)) (by decide +kernel))
set_option maxRecDepth 20000 in
theorem gX5_noLoan_X5_needGuest : GoodIn wsX5_noLoan (wsV RX5 66 RX5 yX5_needGuest wsX5_needGuest) := goodIn_app (goodIn_of _ (by decide +kernel)) ggX5_noLoan_X5_needGuest
set_option maxRecDepth 20000 in
theorem ggX5_noLoan_X1_reasonNoLoan : GoodIn wsX5_noLoan wsX1_reasonNoLoan := goodIn_r _ [16, 17, 18, 19, 20, 10, 21, 22, 23, 5, 24, 25, 26, 27, 28, 29, 47, 48, 49, 50, 51, 52, 53, 54, 55] (by decide +kernel) (by decide +kernel)
set_option maxRecDepth 20000 in
theorem gX5_noLoan_X1_reasonNoLoan_n82 : GoodIn wsX5_noLoan (wsX1_reasonNoLoan) := ggX5_noLoan_X1_reasonNoLoan
theorem dX5_noLoan_0 : decode cX5_noLoan 0 = .ok (.aload_n 0, 1) := by decide +kernel
theorem dX5_noLoan_1 : decode cX5_noLoan 1 = .ok (.iload_n 1, 1) := by decide +kernel
theorem dX5_noLoan_2 : decode cX5_noLoan 2 = .ok (.invokevirtual 66, 3) := by decide +kernel
theorem dX5_noLoan_5 : decode cX5_noLoan 5 = .ok (.aload_n 0, 1) := by decide +kernel
theorem dX5_noLoan_6 : decode cX5_noLoan 6 = .ok (.iload_n 2, 1) := by decide +kernel
theorem dX5_noLoan_7 : decode cX5_noLoan 7 = .ok (.invokevirtual 66, 3) := by decide +kernel
theorem dX5_noLoan_10 : decode cX5_noLoan 10 = .ok (.aload_n 0, 1) := by decide +kernel
theorem dX5_noLoan_11 : decode cX5_noLoan 11 = .ok (.getfield 10, 3) := by decide +kernel
theorem dX5_noLoan_14 : decode cX5_noLoan 14 = .ok (.getfield 45, 3) := by decide +kernel
theorem dX5_noLoan_17 : decode cX5_noLoan 17 = .ok (.iload_n 1, 1) := by decide +kernel
theorem dX5_noLoan_18 : decode cX5_noLoan 18 = .ok (.iload_n 2, 1) := by decide +kernel
theorem dX5_noLoan_19 : decode cX5_noLoan 19 = .ok (.invokevirtual 82, 3) := by decide +kernel
theorem dX5_noLoan_22 : decode cX5_noLoan 22 = .ok (.ireturn, 1) := by decide +kernel
set_option maxRecDepth 20000 in
theorem ggX5_whyNot_X5_needGuest : GoodIn wsX5_whyNot wsX5_needGuest := goodIn_ca (goodIn_r _ [6, 7, 8, 1, 9, 10, 11, 12, 13, 40, 41, 42, 43, 44, 45, 46, 47, 48, 49, 50, 51, 52, 53, 54, 55, 56, 57, 58, 59, 60, 61, 62, 63, 64, 65] (by decide +kernel) (by decide +kernel)) (goodIn_sub (fun _ h => List.mem_cons_of_mem _ (List.mem_append_right _ h)) (by decide +kernel))
set_option maxRecDepth 20000 in
theorem gX5_whyNot_X5_needGuest : GoodIn wsX5_whyNot (wsV RX5 66 RX5 yX5_needGuest wsX5_needGuest) := goodIn_app (goodIn_of _ (by decide +kernel)) ggX5_whyNot_X5_needGuest
set_option maxRecDepth 20000 in
theorem ggX5_whyNot_X0_reasonNoMask : GoodIn wsX5_whyNot wsX0_reasonNoMask := goodIn_r _ [17, 18, 19, 5, 20, 45, 46, 47, 48, 49, 50, 51, 52, 53, 54, 55, 56, 57, 58, 59, 60, 61, 62, 63, 64, 65] (by decide +kernel) (by decide +kernel)
set_option maxRecDepth 20000 in
theorem gX5_whyNot_X0_reasonNoMask_n103 : GoodIn wsX5_whyNot (wsX0_reasonNoMask) := ggX5_whyNot_X0_reasonNoMask
set_option maxRecDepth 20000 in
theorem ggX5_whyNot_X0_reasonNoLine : GoodIn wsX5_whyNot wsX0_reasonNoLine := goodIn_r _ [23, 18, 24, 25, 26, 10, 27, 28, 29, 19, 5, 20, 30, 31, 32, 33, 34, 35, 36, 37, 38, 39, 45, 46, 47, 48, 49, 50, 51, 52, 53, 54, 55, 56, 57, 58, 59, 60, 61, 62, 63, 64, 65, 66, 67] (by decide +kernel) (by decide +kernel)
set_option maxRecDepth 20000 in
theorem gX5_whyNot_X0_reasonNoLine_n124 : GoodIn wsX5_whyNot (wsX0_reasonNoLine) := ggX5_whyNot_X0_reasonNoLine
theorem dX5_whyNot_0 : decode cX5_whyNot 0 = .ok (.aload_n 0, 1) := by decide +kernel
theorem dX5_whyNot_1 : decode cX5_whyNot 1 = .ok (.iload_n 1, 1) := by decide +kernel
theorem dX5_whyNot_2 : decode cX5_whyNot 2 = .ok (.invokevirtual 66, 3) := by decide +kernel
theorem dX5_whyNot_5 : decode cX5_whyNot 5 = .ok (.iload_n 2, 1) := by decide +kernel
theorem dX5_whyNot_6 : decode cX5_whyNot 6 = .ok (.ifCond .eq 14, 3) := by decide +kernel
theorem dX5_whyNot_9 : decode cX5_whyNot 9 = .ok (.aload_n 0, 1) := by decide +kernel
theorem dX5_whyNot_10 : decode cX5_whyNot 10 = .ok (.getfield 10, 3) := by decide +kernel
theorem dX5_whyNot_13 : decode cX5_whyNot 13 = .ok (.iload_n 1, 1) := by decide +kernel
theorem dX5_whyNot_14 : decode cX5_whyNot 14 = .ok (.invokevirtual 103, 3) := by decide +kernel
theorem dX5_whyNot_17 : decode cX5_whyNot 17 = .ok (.goto 11, 3) := by decide +kernel
theorem dX5_whyNot_20 : decode cX5_whyNot 20 = .ok (.aload_n 0, 1) := by decide +kernel
theorem dX5_whyNot_21 : decode cX5_whyNot 21 = .ok (.getfield 10, 3) := by decide +kernel
theorem dX5_whyNot_24 : decode cX5_whyNot 24 = .ok (.iload_n 1, 1) := by decide +kernel
theorem dX5_whyNot_25 : decode cX5_whyNot 25 = .ok (.invokevirtual 124, 3) := by decide +kernel
theorem dX5_whyNot_28 : decode cX5_whyNot 28 = .ok (.ireturn, 1) := by decide +kernel
set_option maxRecDepth 20000 in
theorem ggX5_ifOpened_X5_needGuest : GoodIn wsX5_ifOpened wsX5_needGuest := goodIn_ca (goodIn_r _ [6, 7, 8, 1, 9, 10, 11, 12, 13, 78, 79, 80, 81, 82, 83, 84, 85, 86, 87, 88, 89, 90, 91, 92, 93, 94, 95, 96, 97, 98, 99, 100, 101, 102, 103] (by decide +kernel) (by decide +kernel)) (goodIn_sub (fun _ h => List.mem_cons_of_mem _ (List.mem_append_left _ (List.mem_append_right _ h))) (by decide +kernel))
set_option maxRecDepth 20000 in
theorem gX5_ifOpened_X5_needGuest : GoodIn wsX5_ifOpened (wsV RX5 66 RX5 yX5_needGuest wsX5_needGuest) := goodIn_app (goodIn_of _ (by decide +kernel)) ggX5_ifOpened_X5_needGuest
set_option maxRecDepth 20000 in
theorem ggX5_ifOpened_X5_isGate : GoodIn wsX5_ifOpened wsX5_isGate := goodIn_r _ [16, 17, 18, 5, 19] (by decide +kernel) (by decide +kernel)
