theorem dX0_paidByGuest_27 : decode cX0_paidByGuest 27 = .ok (.ireturn, 1) := by decide +kernel
set_option maxRecDepth 20000 in
theorem ggX0_leftOfFine_X5_at : GoodIn wsX0_leftOfFine wsX5_at := goodIn_r _ [8] (by decide +kernel) (by decide +kernel)
set_option maxRecDepth 20000 in
theorem gX0_leftOfFine_X5_at_n67 : GoodIn wsX0_leftOfFine (wsX5_at) := ggX0_leftOfFine_X5_at
theorem dX0_leftOfFine_0 : decode cX0_leftOfFine 0 = .ok (.iload_n 2, 1) := by decide +kernel
theorem dX0_leftOfFine_1 : decode cX0_leftOfFine 1 = .ok (.aload_n 0, 1) := by decide +kernel
theorem dX0_leftOfFine_2 : decode cX0_leftOfFine 2 = .ok (.getfield 12, 3) := by decide +kernel
theorem dX0_leftOfFine_5 : decode cX0_leftOfFine 5 = .ok (.getfield 71, 3) := by decide +kernel
theorem dX0_leftOfFine_8 : decode cX0_leftOfFine 8 = .ok (.iload_n 1, 1) := by decide +kernel
theorem dX0_leftOfFine_9 : decode cX0_leftOfFine 9 = .ok (.invokestatic 67, 3) := by decide +kernel
theorem dX0_leftOfFine_12 : decode cX0_leftOfFine 12 = .ok (.isub, 1) := by decide +kernel
theorem dX0_leftOfFine_13 : decode cX0_leftOfFine 13 = .ok (.iconst 0, 1) := by decide +kernel
theorem dX0_leftOfFine_14 : decode cX0_leftOfFine 14 = .ok (.invokestatic 103, 3) := by decide +kernel
theorem dX0_leftOfFine_17 : decode cX0_leftOfFine 17 = .ok (.ireturn, 1) := by decide +kernel
set_option maxRecDepth 20000 in
theorem ggX0_paidByLender_X5_at : GoodIn wsX0_paidByLender wsX5_at := goodIn_r _ [8] (by decide +kernel) (by decide +kernel)
set_option maxRecDepth 20000 in
theorem gX0_paidByLender_X5_at_n67 : GoodIn wsX0_paidByLender (wsX5_at) := ggX0_paidByLender_X5_at
theorem dX0_paidByLender_0 : decode cX0_paidByLender 0 = .ok (.aload_n 0, 1) := by decide +kernel
theorem dX0_paidByLender_1 : decode cX0_paidByLender 1 = .ok (.getfield 12, 3) := by decide +kernel
theorem dX0_paidByLender_4 : decode cX0_paidByLender 4 = .ok (.getfield 121, 3) := by decide +kernel
theorem dX0_paidByLender_7 : decode cX0_paidByLender 7 = .ok (.iload_n 1, 1) := by decide +kernel
theorem dX0_paidByLender_8 : decode cX0_paidByLender 8 = .ok (.invokestatic 67, 3) := by decide +kernel
theorem dX0_paidByLender_11 : decode cX0_paidByLender 11 = .ok (.istore_n 3, 1) := by decide +kernel
theorem dX0_paidByLender_12 : decode cX0_paidByLender 12 = .ok (.iload_n 3, 1) := by decide +kernel
theorem dX0_paidByLender_13 : decode cX0_paidByLender 13 = .ok (.iconst (-1), 1) := by decide +kernel
theorem dX0_paidByLender_14 : decode cX0_paidByLender 14 = .ok (.if_icmp .ne 7, 3) := by decide +kernel
theorem dX0_paidByLender_17 : decode cX0_paidByLender 17 = .ok (.iconst 0, 1) := by decide +kernel
theorem dX0_paidByLender_18 : decode cX0_paidByLender 18 = .ok (.goto 20, 3) := by decide +kernel
theorem dX0_paidByLender_21 : decode cX0_paidByLender 21 = .ok (.iload_n 2, 1) := by decide +kernel
theorem dX0_paidByLender_22 : decode cX0_paidByLender 22 = .ok (.iconst 2, 1) := by decide +kernel
theorem dX0_paidByLender_23 : decode cX0_paidByLender 23 = .ok (.idiv, 1) := by decide +kernel
theorem dX0_paidByLender_24 : decode cX0_paidByLender 24 = .ok (.aload_n 0, 1) := by decide +kernel
theorem dX0_paidByLender_25 : decode cX0_paidByLender 25 = .ok (.getfield 12, 3) := by decide +kernel
theorem dX0_paidByLender_28 : decode cX0_paidByLender 28 = .ok (.getfield 71, 3) := by decide +kernel
theorem dX0_paidByLender_31 : decode cX0_paidByLender 31 = .ok (.iload_n 3, 1) := by decide +kernel
theorem dX0_paidByLender_32 : decode cX0_paidByLender 32 = .ok (.invokestatic 67, 3) := by decide +kernel
theorem dX0_paidByLender_35 : decode cX0_paidByLender 35 = .ok (.invokestatic 84, 3) := by decide +kernel
theorem dX0_paidByLender_38 : decode cX0_paidByLender 38 = .ok (.ireturn, 1) := by decide +kernel
set_option maxRecDepth 20000 in
theorem ggX0_gateNumber_X0_ellsTooMuch : GoodIn wsX0_gateNumber wsX0_ellsTooMuch := goodIn_r _ [7, 2, 8, 9, 10, 11, 12, 13, 14, 15, 6, 16, 17, 18, 19, 20, 21, 22, 23, 24, 25, 26, 27, 28, 29, 30, 31, 32, 33, 34, 1, 50, 51, 52, 53, 54, 55, 56, 57, 58, 59, 60, 61, 62, 63, 64, 65, 66, 67, 68, 69, 70] (by decide +kernel) (by decide +kernel)
set_option maxRecDepth 20000 in
theorem gX0_gateNumber_X0_ellsTooMuch : GoodIn wsX0_gateNumber (wsV RX0 124 RX0 yX0_ellsTooMuch wsX0_ellsTooMuch) := goodIn_app (goodIn_of _ (by decide +kernel)) ggX0_gateNumber_X0_ellsTooMuch
set_option maxRecDepth 20000 in
theorem ggX0_gateNumber_X5_at : GoodIn wsX0_gateNumber wsX5_at := goodIn_r _ [25] (by decide +kernel) (by decide +kernel)
set_option maxRecDepth 20000 in
theorem gX0_gateNumber_X5_at_n67 : GoodIn wsX0_gateNumber (wsX5_at) := ggX0_gateNumber_X5_at
set_option maxRecDepth 20000 in
theorem ggX0_gateNumber_X0_leftOfFine : GoodIn wsX0_gateNumber wsX0_leftOfFine := goodIn_r _ [38, 2, 9, 10, 11, 12, 23, 24, 25, 50, 51, 52, 53, 54, 55, 56, 57, 58, 59, 60, 61, 62, 63, 64, 65, 66, 67, 68, 69, 70] (by decide +kernel) (by decide +kernel)
set_option maxRecDepth 20000 in
theorem gX0_gateNumber_X0_leftOfFine : GoodIn wsX0_gateNumber (wsV RX0 127 RX0 yX0_leftOfFine wsX0_leftOfFine) := goodIn_app (goodIn_of _ (by decide +kernel)) ggX0_gateNumber_X0_leftOfFine
set_option maxRecDepth 20000 in
theorem ggX0_gateNumber_X0_paidByGuest : GoodIn wsX0_gateNumber wsX0_paidByGuest := goodIn_r _ [42, 2, 43, 44, 11, 45, 13, 14, 15, 6, 16, 17, 18, 19, 20, 21, 22, 23, 24, 25, 50, 51, 52, 53, 54, 55, 56, 57, 58, 59, 60, 61, 62, 63, 64, 65, 66, 67, 68, 69, 70] (by decide +kernel) (by decide +kernel)
set_option maxRecDepth 20000 in
theorem gX0_gateNumber_X0_paidByGuest : GoodIn wsX0_gateNumber (wsV RX0 130 RX0 yX0_paidByGuest wsX0_paidByGuest) := goodIn_app (goodIn_of _ (by decide +kernel)) ggX0_gateNumber_X0_paidByGuest
set_option maxRecDepth 20000 in
theorem ggX0_gateNumber_X0_paidByLender : GoodIn wsX0_gateNumber wsX0_paidByLender := goodIn_r _ [49, 2, 43, 44, 11, 45, 23, 24, 25, 50, 51, 52, 53, 54, 55, 56, 57, 58, 59, 60, 61, 62, 63, 64, 65, 66, 67, 68, 69, 70] (by decide +kernel) (by decide +kernel)
set_option maxRecDepth 20000 in
theorem gX0_gateNumber_X0_paidByLender : GoodIn wsX0_gateNumber (wsV RX0 133 RX0 yX0_paidByLender wsX0_paidByLender) := goodIn_app (goodIn_of _ (by decide +kernel)) ggX0_gateNumber_X0_paidByLender
theorem dX0_gateNumber_0 : decode cX0_gateNumber 0 = .ok (.aload_n 0, 1) := by decide +kernel
theorem dX0_gateNumber_1 : decode cX0_gateNumber 1 = .ok (.iload_n 1, 1) := by decide +kernel
theorem dX0_gateNumber_2 : decode cX0_gateNumber 2 = .ok (.iload_n 2, 1) := by decide +kernel
theorem dX0_gateNumber_3 : decode cX0_gateNumber 3 = .ok (.invokevirtual 124, 3) := by decide +kernel
theorem dX0_gateNumber_6 : decode cX0_gateNumber 6 = .ok (.istore 4, 2) := by decide +kernel
theorem dX0_gateNumber_8 : decode cX0_gateNumber 8 = .ok (.iload 4, 2) := by decide +kernel
theorem dX0_gateNumber_10 : decode cX0_gateNumber 10 = .ok (.aload_n 0, 1) := by decide +kernel
theorem dX0_gateNumber_11 : decode cX0_gateNumber 11 = .ok (.getfield 25, 3) := by decide +kernel
theorem dX0_gateNumber_14 : decode cX0_gateNumber 14 = .ok (.iconst 3, 1) := by decide +kernel
theorem dX0_gateNumber_15 : decode cX0_gateNumber 15 = .ok (.invokestatic 67, 3) := by decide +kernel
theorem dX0_gateNumber_18 : decode cX0_gateNumber 18 = .ok (.imul, 1) := by decide +kernel
theorem dX0_gateNumber_19 : decode cX0_gateNumber 19 = .ok (.istore 5, 2) := by decide +kernel
theorem dX0_gateNumber_21 : decode cX0_gateNumber 21 = .ok (.aload_n 0, 1) := by decide +kernel
theorem dX0_gateNumber_22 : decode cX0_gateNumber 22 = .ok (.iload_n 1, 1) := by decide +kernel
theorem dX0_gateNumber_23 : decode cX0_gateNumber 23 = .ok (.iload 5, 2) := by decide +kernel
theorem dX0_gateNumber_25 : decode cX0_gateNumber 25 = .ok (.invokevirtual 127, 3) := by decide +kernel
theorem dX0_gateNumber_28 : decode cX0_gateNumber 28 = .ok (.istore 6, 2) := by decide +kernel
theorem dX0_gateNumber_30 : decode cX0_gateNumber 30 = .ok (.iload_n 3, 1) := by decide +kernel
theorem dX0_gateNumber_31 : decode cX0_gateNumber 31 = .ok (.tableswitch 39 0 2 #[25, 28, 31], 25) := by decide +kernel
theorem dX0_gateNumber_56 : decode cX0_gateNumber 56 = .ok (.iload 4, 2) := by decide +kernel
theorem dX0_gateNumber_58 : decode cX0_gateNumber 58 = .ok (.ireturn, 1) := by decide +kernel
theorem dX0_gateNumber_59 : decode cX0_gateNumber 59 = .ok (.iload 5, 2) := by decide +kernel
theorem dX0_gateNumber_61 : decode cX0_gateNumber 61 = .ok (.ireturn, 1) := by decide +kernel
theorem dX0_gateNumber_62 : decode cX0_gateNumber 62 = .ok (.aload_n 0, 1) := by decide +kernel
theorem dX0_gateNumber_63 : decode cX0_gateNumber 63 = .ok (.iload_n 1, 1) := by decide +kernel
theorem dX0_gateNumber_64 : decode cX0_gateNumber 64 = .ok (.iload 5, 2) := by decide +kernel
theorem dX0_gateNumber_66 : decode cX0_gateNumber 66 = .ok (.invokevirtual 130, 3) := by decide +kernel
theorem dX0_gateNumber_69 : decode cX0_gateNumber 69 = .ok (.ireturn, 1) := by decide +kernel
theorem dX0_gateNumber_70 : decode cX0_gateNumber 70 = .ok (.aload_n 0, 1) := by decide +kernel
theorem dX0_gateNumber_71 : decode cX0_gateNumber 71 = .ok (.getfield 12, 3) := by decide +kernel
theorem dX0_gateNumber_74 : decode cX0_gateNumber 74 = .ok (.getfield 64, 3) := by decide +kernel
theorem dX0_gateNumber_77 : decode cX0_gateNumber 77 = .ok (.iload_n 1, 1) := by decide +kernel
theorem dX0_gateNumber_78 : decode cX0_gateNumber 78 = .ok (.invokestatic 67, 3) := by decide +kernel
theorem dX0_gateNumber_81 : decode cX0_gateNumber 81 = .ok (.iload 6, 2) := by decide +kernel
theorem dX0_gateNumber_83 : decode cX0_gateNumber 83 = .ok (.iadd, 1) := by decide +kernel
theorem dX0_gateNumber_84 : decode cX0_gateNumber 84 = .ok (.aload_n 0, 1) := by decide +kernel
theorem dX0_gateNumber_85 : decode cX0_gateNumber 85 = .ok (.iload_n 1, 1) := by decide +kernel
theorem dX0_gateNumber_86 : decode cX0_gateNumber 86 = .ok (.iload 6, 2) := by decide +kernel
theorem dX0_gateNumber_88 : decode cX0_gateNumber 88 = .ok (.invokevirtual 133, 3) := by decide +kernel
theorem dX0_gateNumber_91 : decode cX0_gateNumber 91 = .ok (.isub, 1) := by decide +kernel
theorem dX0_gateNumber_92 : decode cX0_gateNumber 92 = .ok (.ireturn, 1) := by decide +kernel
set_option maxRecDepth 20000 in
theorem ggX0_openOnce_X3_takeFirst : GoodIn wsX0_openOnce wsX3_takeFirst := goodIn_r _ [8, 9, 10, 11, 12, 13, 14, 15, 16, 6, 17, 18, 19, 100, 101] (by decide +kernel) (by decide +kernel)
set_option maxRecDepth 20000 in
theorem gX0_openOnce_X3_takeFirst_n136 : GoodIn wsX0_openOnce (wsX3_takeFirst) := ggX0_openOnce_X3_takeFirst
set_option maxRecDepth 20000 in
theorem ggX0_openOnce_X1_has : GoodIn wsX0_openOnce wsX1_has := goodIn_r _ [23, 24, 91, 92, 93, 94, 95, 96, 97, 98, 99] (by decide +kernel) (by decide +kernel)
set_option maxRecDepth 20000 in
theorem gX0_openOnce_X1_has_n139 : GoodIn wsX0_openOnce (wsX1_has) := ggX0_openOnce_X1_has
set_option maxRecDepth 20000 in
theorem ggX0_openOnce_X0_ellsTooMuch : GoodIn wsX0_openOnce wsX0_ellsTooMuch := goodIn_r _ [29, 2, 30, 31, 32, 33, 34, 35, 36, 37, 28, 38, 39, 21, 40, 41, 42, 43, 11, 12, 13, 44, 45, 46, 47, 48, 49, 50, 51, 52, 3, 79, 80, 81, 82, 83, 84, 85, 86, 87, 88, 89, 90, 91, 92, 93, 94, 95, 96, 97, 98, 99] (by decide +kernel) (by decide +kernel)
set_option maxRecDepth 20000 in
theorem gX0_openOnce_X0_ellsTooMuch : GoodIn wsX0_openOnce (wsV RX0 124 RX0 yX0_ellsTooMuch wsX0_ellsTooMuch) := goodIn_app (goodIn_of _ (by decide +kernel)) ggX0_openOnce_X0_ellsTooMuch
set_option maxRecDepth 20000 in
theorem ggX0_openOnce_X5_at : GoodIn wsX0_openOnce wsX5_at := goodIn_r _ [13] (by decide +kernel) (by decide +kernel)
set_option maxRecDepth 20000 in
theorem gX0_openOnce_X5_at_n67 : GoodIn wsX0_openOnce (wsX5_at) := ggX0_openOnce_X5_at
set_option maxRecDepth 20000 in
theorem ggX0_openOnce_X0_leftOfFine : GoodIn wsX0_openOnce wsX0_leftOfFine := goodIn_r _ [56, 2, 31, 32, 33, 34, 11, 12, 13, 79, 80, 81, 82, 83, 84, 85, 86, 87, 88, 89, 90, 91, 92, 93, 94, 95, 96, 97, 98, 99] (by decide +kernel) (by decide +kernel)
set_option maxRecDepth 20000 in
theorem gX0_openOnce_X0_leftOfFine : GoodIn wsX0_openOnce (wsV RX0 127 RX0 yX0_leftOfFine wsX0_leftOfFine) := goodIn_app (goodIn_of _ (by decide +kernel)) ggX0_openOnce_X0_leftOfFine
set_option maxRecDepth 20000 in
theorem ggX0_openOnce_X0_paidByLender : GoodIn wsX0_openOnce wsX0_paidByLender := goodIn_r _ [60, 2, 61, 62, 33, 63, 11, 12, 13, 79, 80, 81, 82, 83, 84, 85, 86, 87, 88, 89, 90, 91, 92, 93, 94, 95, 96, 97, 98, 99] (by decide +kernel) (by decide +kernel)
set_option maxRecDepth 20000 in
theorem gX0_openOnce_X0_paidByLender : GoodIn wsX0_openOnce (wsV RX0 133 RX0 yX0_paidByLender wsX0_paidByLender) := goodIn_app (goodIn_of _ (by decide +kernel)) ggX0_openOnce_X0_paidByLender
set_option maxRecDepth 20000 in
theorem ggX0_openOnce_X0_paidByGuest : GoodIn wsX0_openOnce wsX0_paidByGuest := goodIn_r _ [67, 2, 61, 62, 33, 63, 35, 36, 37, 28, 38, 39, 21, 40, 41, 42, 43, 11, 12, 13, 79, 80, 81, 82, 83, 84, 85, 86, 87, 88, 89, 90, 91, 92, 93, 94, 95, 96, 97, 98, 99] (by decide +kernel) (by decide +kernel)
set_option maxRecDepth 20000 in
theorem gX0_openOnce_X0_paidByGuest : GoodIn wsX0_openOnce (wsV RX0 130 RX0 yX0_paidByGuest wsX0_paidByGuest) := goodIn_app (goodIn_of _ (by decide +kernel)) ggX0_openOnce_X0_paidByGuest
set_option maxRecDepth 20000 in
theorem ggX0_openOnce_X1_payFromPurse : GoodIn wsX0_openOnce wsX1_payFromPurse := goodIn_r _ [70, 71, 11, 12, 13, 18, 19, 91, 92, 93, 94, 95, 96, 97, 98, 99] (by decide +kernel) (by decide +kernel)
set_option maxRecDepth 20000 in
theorem gX0_openOnce_X1_payFromPurse_n100 : GoodIn wsX0_openOnce (wsX1_payFromPurse) := ggX0_openOnce_X1_payFromPurse
set_option maxRecDepth 20000 in
theorem ggX0_openOnce_X5_put : GoodIn wsX0_openOnce wsX5_put := goodIn_r _ [19] (by decide +kernel) (by decide +kernel)
set_option maxRecDepth 20000 in
theorem gX0_openOnce_X5_put_n90 : GoodIn wsX0_openOnce (wsX5_put) := ggX0_openOnce_X5_put
set_option maxRecDepth 20000 in
theorem ggX0_openOnce_X1_wornCoat : GoodIn wsX0_openOnce wsX1_wornCoat := goodIn_r _ [41, 42, 43, 11, 12, 13, 91, 92, 93, 94, 95, 96, 97, 98, 99] (by decide +kernel) (by decide +kernel)
set_option maxRecDepth 20000 in
theorem gX0_openOnce_X1_wornCoat_n53 : GoodIn wsX0_openOnce (wsX1_wornCoat) := ggX0_openOnce_X1_wornCoat
set_option maxRecDepth 20000 in
theorem ggX0_openOnce_X0_cutLace : GoodIn wsX0_openOnce wsX0_cutLace := goodIn_r _ [75, 2, 76, 77, 78, 11, 12, 13, 18, 19, 79, 80, 81, 82, 83, 84, 85, 86, 87, 88, 89, 90, 91, 92, 93, 94, 95, 96, 97, 98, 99] (by decide +kernel) (by decide +kernel)
set_option maxRecDepth 20000 in
theorem gX0_openOnce_X0_cutLace : GoodIn wsX0_openOnce (wsV RX0 142 RX0 yX0_cutLace wsX0_cutLace) := goodIn_app (goodIn_of _ (by decide +kernel)) ggX0_openOnce_X0_cutLace
theorem dX0_openOnce_0 : decode cX0_openOnce 0 = .ok (.aload_n 0, 1) := by decide +kernel
theorem dX0_openOnce_1 : decode cX0_openOnce 1 = .ok (.getfield 21, 3) := by decide +kernel
theorem dX0_openOnce_4 : decode cX0_openOnce 4 = .ok (.iload_n 1, 1) := by decide +kernel
theorem dX0_openOnce_5 : decode cX0_openOnce 5 = .ok (.invokevirtual 136, 3) := by decide +kernel
theorem dX0_openOnce_8 : decode cX0_openOnce 8 = .ok (.istore_n 2, 1) := by decide +kernel
theorem dX0_openOnce_9 : decode cX0_openOnce 9 = .ok (.aload_n 0, 1) := by decide +kernel
theorem dX0_openOnce_10 : decode cX0_openOnce 10 = .ok (.getfield 12, 3) := by decide +kernel
theorem dX0_openOnce_13 : decode cX0_openOnce 13 = .ok (.iload_n 2, 1) := by decide +kernel
theorem dX0_openOnce_14 : decode cX0_openOnce 14 = .ok (.invokevirtual 139, 3) := by decide +kernel
theorem dX0_openOnce_17 : decode cX0_openOnce 17 = .ok (.ifCond .ne 5, 3) := by decide +kernel
theorem dX0_openOnce_20 : decode cX0_openOnce 20 = .ok (.iconst 0, 1) := by decide +kernel
theorem dX0_openOnce_21 : decode cX0_openOnce 21 = .ok (.ireturn, 1) := by decide +kernel
theorem dX0_openOnce_22 : decode cX0_openOnce 22 = .ok (.aload_n 0, 1) := by decide +kernel
theorem dX0_openOnce_23 : decode cX0_openOnce 23 = .ok (.iload_n 2, 1) := by decide +kernel
theorem dX0_openOnce_24 : decode cX0_openOnce 24 = .ok (.iload_n 1, 1) := by decide +kernel
theorem dX0_openOnce_25 : decode cX0_openOnce 25 = .ok (.invokevirtual 124, 3) := by decide +kernel
theorem dX0_openOnce_28 : decode cX0_openOnce 28 = .ok (.istore_n 3, 1) := by decide +kernel
theorem dX0_openOnce_29 : decode cX0_openOnce 29 = .ok (.iload_n 3, 1) := by decide +kernel
theorem dX0_openOnce_30 : decode cX0_openOnce 30 = .ok (.aload_n 0, 1) := by decide +kernel
theorem dX0_openOnce_31 : decode cX0_openOnce 31 = .ok (.getfield 25, 3) := by decide +kernel
theorem dX0_openOnce_34 : decode cX0_openOnce 34 = .ok (.iconst 3, 1) := by decide +kernel
theorem dX0_openOnce_35 : decode cX0_openOnce 35 = .ok (.invokestatic 67, 3) := by decide +kernel
theorem dX0_openOnce_38 : decode cX0_openOnce 38 = .ok (.imul, 1) := by decide +kernel
theorem dX0_openOnce_39 : decode cX0_openOnce 39 = .ok (.istore 4, 2) := by decide +kernel
theorem dX0_openOnce_41 : decode cX0_openOnce 41 = .ok (.aload_n 0, 1) := by decide +kernel
theorem dX0_openOnce_42 : decode cX0_openOnce 42 = .ok (.iload_n 2, 1) := by decide +kernel
theorem dX0_openOnce_43 : decode cX0_openOnce 43 = .ok (.iload 4, 2) := by decide +kernel
theorem dX0_openOnce_45 : decode cX0_openOnce 45 = .ok (.invokevirtual 127, 3) := by decide +kernel
theorem dX0_openOnce_48 : decode cX0_openOnce 48 = .ok (.istore 5, 2) := by decide +kernel
theorem dX0_openOnce_50 : decode cX0_openOnce 50 = .ok (.aload_n 0, 1) := by decide +kernel
theorem dX0_openOnce_51 : decode cX0_openOnce 51 = .ok (.iload_n 2, 1) := by decide +kernel
theorem dX0_openOnce_52 : decode cX0_openOnce 52 = .ok (.iload 5, 2) := by decide +kernel
theorem dX0_openOnce_54 : decode cX0_openOnce 54 = .ok (.invokevirtual 133, 3) := by decide +kernel
theorem dX0_openOnce_57 : decode cX0_openOnce 57 = .ok (.istore 6, 2) := by decide +kernel
theorem dX0_openOnce_59 : decode cX0_openOnce 59 = .ok (.aload_n 0, 1) := by decide +kernel
theorem dX0_openOnce_60 : decode cX0_openOnce 60 = .ok (.dup, 1) := by decide +kernel
theorem dX0_openOnce_61 : decode cX0_openOnce 61 = .ok (.getfield 97, 3) := by decide +kernel
theorem dX0_openOnce_64 : decode cX0_openOnce 64 = .ok (.aload_n 0, 1) := by decide +kernel
theorem dX0_openOnce_65 : decode cX0_openOnce 65 = .ok (.getfield 12, 3) := by decide +kernel
theorem dX0_openOnce_68 : decode cX0_openOnce 68 = .ok (.iload_n 2, 1) := by decide +kernel
theorem dX0_openOnce_69 : decode cX0_openOnce 69 = .ok (.aload_n 0, 1) := by decide +kernel
theorem dX0_openOnce_70 : decode cX0_openOnce 70 = .ok (.iload_n 2, 1) := by decide +kernel
theorem dX0_openOnce_71 : decode cX0_openOnce 71 = .ok (.iload 4, 2) := by decide +kernel
theorem dX0_openOnce_73 : decode cX0_openOnce 73 = .ok (.invokevirtual 130, 3) := by decide +kernel
theorem dX0_openOnce_76 : decode cX0_openOnce 76 = .ok (.invokevirtual 100, 3) := by decide +kernel
theorem dX0_openOnce_79 : decode cX0_openOnce 79 = .ok (.iadd, 1) := by decide +kernel
theorem dX0_openOnce_80 : decode cX0_openOnce 80 = .ok (.putfield 97, 3) := by decide +kernel
theorem dX0_openOnce_83 : decode cX0_openOnce 83 = .ok (.iload 6, 2) := by decide +kernel
theorem dX0_openOnce_85 : decode cX0_openOnce 85 = .ok (.ifCond .le 32, 3) := by decide +kernel
theorem dX0_openOnce_88 : decode cX0_openOnce 88 = .ok (.aload_n 0, 1) := by decide +kernel
theorem dX0_openOnce_89 : decode cX0_openOnce 89 = .ok (.dup, 1) := by decide +kernel
theorem dX0_openOnce_90 : decode cX0_openOnce 90 = .ok (.getfield 97, 3) := by decide +kernel
theorem dX0_openOnce_93 : decode cX0_openOnce 93 = .ok (.aload_n 0, 1) := by decide +kernel
theorem dX0_openOnce_94 : decode cX0_openOnce 94 = .ok (.getfield 12, 3) := by decide +kernel
theorem dX0_openOnce_97 : decode cX0_openOnce 97 = .ok (.aload_n 0, 1) := by decide +kernel
theorem dX0_openOnce_98 : decode cX0_openOnce 98 = .ok (.getfield 12, 3) := by decide +kernel
theorem dX0_openOnce_101 : decode cX0_openOnce 101 = .ok (.getfield 121, 3) := by decide +kernel
theorem dX0_openOnce_104 : decode cX0_openOnce 104 = .ok (.iload_n 2, 1) := by decide +kernel
theorem dX0_openOnce_105 : decode cX0_openOnce 105 = .ok (.invokestatic 67, 3) := by decide +kernel
theorem dX0_openOnce_108 : decode cX0_openOnce 108 = .ok (.iload 6, 2) := by decide +kernel
theorem dX0_openOnce_110 : decode cX0_openOnce 110 = .ok (.invokevirtual 100, 3) := by decide +kernel
theorem dX0_openOnce_113 : decode cX0_openOnce 113 = .ok (.iadd, 1) := by decide +kernel
theorem dX0_openOnce_114 : decode cX0_openOnce 114 = .ok (.putfield 97, 3) := by decide +kernel
theorem dX0_openOnce_117 : decode cX0_openOnce 117 = .ok (.aload_n 0, 1) := by decide +kernel
theorem dX0_openOnce_118 : decode cX0_openOnce 118 = .ok (.getfield 12, 3) := by decide +kernel
theorem dX0_openOnce_121 : decode cX0_openOnce 121 = .ok (.getfield 64, 3) := by decide +kernel
theorem dX0_openOnce_124 : decode cX0_openOnce 124 = .ok (.iload_n 2, 1) := by decide +kernel
theorem dX0_openOnce_125 : decode cX0_openOnce 125 = .ok (.aload_n 0, 1) := by decide +kernel
theorem dX0_openOnce_126 : decode cX0_openOnce 126 = .ok (.getfield 12, 3) := by decide +kernel
theorem dX0_openOnce_129 : decode cX0_openOnce 129 = .ok (.getfield 64, 3) := by decide +kernel
theorem dX0_openOnce_132 : decode cX0_openOnce 132 = .ok (.iload_n 2, 1) := by decide +kernel
theorem dX0_openOnce_133 : decode cX0_openOnce 133 = .ok (.invokestatic 67, 3) := by decide +kernel
theorem dX0_openOnce_136 : decode cX0_openOnce 136 = .ok (.iload 5, 2) := by decide +kernel
theorem dX0_openOnce_138 : decode cX0_openOnce 138 = .ok (.iadd, 1) := by decide +kernel
theorem dX0_openOnce_139 : decode cX0_openOnce 139 = .ok (.iload 6, 2) := by decide +kernel
theorem dX0_openOnce_141 : decode cX0_openOnce 141 = .ok (.isub, 1) := by decide +kernel
theorem dX0_openOnce_142 : decode cX0_openOnce 142 = .ok (.invokestatic 90, 3) := by decide +kernel
theorem dX0_openOnce_145 : decode cX0_openOnce 145 = .ok (.iload_n 3, 1) := by decide +kernel
theorem dX0_openOnce_146 : decode cX0_openOnce 146 = .ok (.ifCond .le 16, 3) := by decide +kernel
theorem dX0_openOnce_149 : decode cX0_openOnce 149 = .ok (.aload_n 0, 1) := by decide +kernel
theorem dX0_openOnce_150 : decode cX0_openOnce 150 = .ok (.aload_n 0, 1) := by decide +kernel
theorem dX0_openOnce_151 : decode cX0_openOnce 151 = .ok (.getfield 12, 3) := by decide +kernel
theorem dX0_openOnce_154 : decode cX0_openOnce 154 = .ok (.iload_n 2, 1) := by decide +kernel
theorem dX0_openOnce_155 : decode cX0_openOnce 155 = .ok (.invokevirtual 53, 3) := by decide +kernel
theorem dX0_openOnce_158 : decode cX0_openOnce 158 = .ok (.iload_n 3, 1) := by decide +kernel
theorem dX0_openOnce_159 : decode cX0_openOnce 159 = .ok (.invokevirtual 142, 3) := by decide +kernel
theorem dX0_openOnce_162 : decode cX0_openOnce 162 = .ok (.aload_n 0, 1) := by decide +kernel
theorem dX0_openOnce_163 : decode cX0_openOnce 163 = .ok (.getfield 12, 3) := by decide +kernel
theorem dX0_openOnce_166 : decode cX0_openOnce 166 = .ok (.getfield 146, 3) := by decide +kernel
theorem dX0_openOnce_169 : decode cX0_openOnce 169 = .ok (.iload_n 2, 1) := by decide +kernel
theorem dX0_openOnce_170 : decode cX0_openOnce 170 = .ok (.iconst 1, 1) := by decide +kernel
theorem dX0_openOnce_171 : decode cX0_openOnce 171 = .ok (.invokestatic 90, 3) := by decide +kernel
theorem dX0_openOnce_174 : decode cX0_openOnce 174 = .ok (.iload_n 3, 1) := by decide +kernel
theorem dX0_openOnce_175 : decode cX0_openOnce 175 = .ok (.ireturn, 1) := by decide +kernel
set_option maxRecDepth 20000 in
theorem ggX0_cutLace_X5_at : GoodIn wsX0_cutLace wsX5_at := goodIn_r _ [7] (by decide +kernel) (by decide +kernel)
set_option maxRecDepth 20000 in
theorem gX0_cutLace_X5_at_n67 : GoodIn wsX0_cutLace (wsX5_at) := ggX0_cutLace_X5_at
set_option maxRecDepth 20000 in
theorem ggX0_cutLace_X5_put : GoodIn wsX0_cutLace wsX5_put := goodIn_r _ [9] (by decide +kernel) (by decide +kernel)
set_option maxRecDepth 20000 in
theorem gX0_cutLace_X5_put_n90 : GoodIn wsX0_cutLace (wsX5_put) := ggX0_cutLace_X5_put
theorem dX0_cutLace_0 : decode cX0_cutLace 0 = .ok (.aload_n 0, 1) := by decide +kernel
theorem dX0_cutLace_1 : decode cX0_cutLace 1 = .ok (.getfield 12, 3) := by decide +kernel
theorem dX0_cutLace_4 : decode cX0_cutLace 4 = .ok (.getfield 74, 3) := by decide +kernel
theorem dX0_cutLace_7 : decode cX0_cutLace 7 = .ok (.iload_n 1, 1) := by decide +kernel
theorem dX0_cutLace_8 : decode cX0_cutLace 8 = .ok (.aload_n 0, 1) := by decide +kernel
theorem dX0_cutLace_9 : decode cX0_cutLace 9 = .ok (.getfield 12, 3) := by decide +kernel
theorem dX0_cutLace_12 : decode cX0_cutLace 12 = .ok (.getfield 74, 3) := by decide +kernel
theorem dX0_cutLace_15 : decode cX0_cutLace 15 = .ok (.iload_n 1, 1) := by decide +kernel
theorem dX0_cutLace_16 : decode cX0_cutLace 16 = .ok (.invokestatic 67, 3) := by decide +kernel
theorem dX0_cutLace_19 : decode cX0_cutLace 19 = .ok (.iload_n 2, 1) := by decide +kernel
theorem dX0_cutLace_20 : decode cX0_cutLace 20 = .ok (.isub, 1) := by decide +kernel
theorem dX0_cutLace_21 : decode cX0_cutLace 21 = .ok (.invokestatic 90, 3) := by decide +kernel
theorem dX0_cutLace_24 : decode cX0_cutLace 24 = .ok (.aload_n 0, 1) := by decide +kernel
theorem dX0_cutLace_25 : decode cX0_cutLace 25 = .ok (.dup, 1) := by decide +kernel
theorem dX0_cutLace_26 : decode cX0_cutLace 26 = .ok (.getfield 149, 3) := by decide +kernel
theorem dX0_cutLace_29 : decode cX0_cutLace 29 = .ok (.iload_n 2, 1) := by decide +kernel
theorem dX0_cutLace_30 : decode cX0_cutLace 30 = .ok (.iadd, 1) := by decide +kernel
theorem dX0_cutLace_31 : decode cX0_cutLace 31 = .ok (.putfield 149, 3) := by decide +kernel
theorem dX0_cutLace_34 : decode cX0_cutLace 34 = .ok (.aload_n 0, 1) := by decide +kernel
theorem dX0_cutLace_35 : decode cX0_cutLace 35 = .ok (.dup, 1) := by decide +kernel
theorem dX0_cutLace_36 : decode cX0_cutLace 36 = .ok (.getfield 152, 3) := by decide +kernel
theorem dX0_cutLace_39 : decode cX0_cutLace 39 = .ok (.iload_n 2, 1) := by decide +kernel
theorem dX0_cutLace_40 : decode cX0_cutLace 40 = .ok (.iadd, 1) := by decide +kernel
theorem dX0_cutLace_41 : decode cX0_cutLace 41 = .ok (.putfield 152, 3) := by decide +kernel
theorem dX0_cutLace_44 : decode cX0_cutLace 44 = .ok (.aload_n 0, 1) := by decide +kernel
theorem dX0_cutLace_45 : decode cX0_cutLace 45 = .ok (.dup, 1) := by decide +kernel
theorem dX0_cutLace_46 : decode cX0_cutLace 46 = .ok (.getfield 155, 3) := by decide +kernel
theorem dX0_cutLace_49 : decode cX0_cutLace 49 = .ok (.iconst 1, 1) := by decide +kernel
theorem dX0_cutLace_50 : decode cX0_cutLace 50 = .ok (.iadd, 1) := by decide +kernel
theorem dX0_cutLace_51 : decode cX0_cutLace 51 = .ok (.putfield 155, 3) := by decide +kernel
theorem dX0_cutLace_54 : decode cX0_cutLace 54 = .ok (.return_, 1) := by decide +kernel
set_option maxRecDepth 20000 in
theorem ggX0_endNight_X5_sumOf : GoodIn wsX0_endNight wsX5_sumOf := goodIn_r _ [6, 7, 8, 5, 9] (by decide +kernel) (by decide +kernel)
set_option maxRecDepth 20000 in
theorem gX0_endNight_X5_sumOf_n161 : GoodIn wsX0_endNight (wsX5_sumOf) := ggX0_endNight_X5_sumOf
set_option maxRecDepth 20000 in
theorem ggX0_endNight_X1_passNight : GoodIn wsX0_endNight wsX1_passNight := goodIn_r _ [13, 14, 15, 16, 17, 18, 19, 20, 21, 5, 22, 8, 9, 40, 41, 42, 43, 44, 45, 46, 47, 48] (by decide +kernel) (by decide +kernel)
set_option maxRecDepth 20000 in
theorem gX0_endNight_X1_passNight_n164 : GoodIn wsX0_endNight (wsX1_passNight) := ggX0_endNight_X1_passNight
set_option maxRecDepth 20000 in
theorem ggX0_endNight_X3_sendAllAway : GoodIn wsX0_endNight wsX3_sendAllAway := goodIn_r _ [26, 27, 21, 5, 22, 49, 50] (by decide +kernel) (by decide +kernel)
set_option maxRecDepth 20000 in
theorem gX0_endNight_X3_sendAllAway_n167 : GoodIn wsX0_endNight (wsX3_sendAllAway) := ggX0_endNight_X3_sendAllAway
theorem dX0_endNight_0 : decode cX0_endNight 0 = .ok (.aload_n 0, 1) := by decide +kernel
theorem dX0_endNight_1 : decode cX0_endNight 1 = .ok (.getfield 12, 3) := by decide +kernel
theorem dX0_endNight_4 : decode cX0_endNight 4 = .ok (.getfield 146, 3) := by decide +kernel
theorem dX0_endNight_7 : decode cX0_endNight 7 = .ok (.aload_n 0, 1) := by decide +kernel
theorem dX0_endNight_8 : decode cX0_endNight 8 = .ok (.getfield 12, 3) := by decide +kernel
theorem dX0_endNight_11 : decode cX0_endNight 11 = .ok (.getfield 158, 3) := by decide +kernel
theorem dX0_endNight_14 : decode cX0_endNight 14 = .ok (.invokestatic 161, 3) := by decide +kernel
theorem dX0_endNight_17 : decode cX0_endNight 17 = .ok (.istore_n 1, 1) := by decide +kernel
theorem dX0_endNight_18 : decode cX0_endNight 18 = .ok (.aload_n 0, 1) := by decide +kernel
theorem dX0_endNight_19 : decode cX0_endNight 19 = .ok (.getfield 12, 3) := by decide +kernel
theorem dX0_endNight_22 : decode cX0_endNight 22 = .ok (.invokevirtual 164, 3) := by decide +kernel
theorem dX0_endNight_25 : decode cX0_endNight 25 = .ok (.aload_n 0, 1) := by decide +kernel
theorem dX0_endNight_26 : decode cX0_endNight 26 = .ok (.getfield 21, 3) := by decide +kernel
theorem dX0_endNight_29 : decode cX0_endNight 29 = .ok (.invokevirtual 167, 3) := by decide +kernel
theorem dX0_endNight_32 : decode cX0_endNight 32 = .ok (.aload_n 0, 1) := by decide +kernel
theorem dX0_endNight_33 : decode cX0_endNight 33 = .ok (.dup, 1) := by decide +kernel
theorem dX0_endNight_34 : decode cX0_endNight 34 = .ok (.getfield 115, 3) := by decide +kernel
theorem dX0_endNight_37 : decode cX0_endNight 37 = .ok (.iconst 1, 1) := by decide +kernel
theorem dX0_endNight_38 : decode cX0_endNight 38 = .ok (.iadd, 1) := by decide +kernel
theorem dX0_endNight_39 : decode cX0_endNight 39 = .ok (.putfield 115, 3) := by decide +kernel
theorem dX0_endNight_42 : decode cX0_endNight 42 = .ok (.iload_n 1, 1) := by decide +kernel
theorem dX0_endNight_43 : decode cX0_endNight 43 = .ok (.ireturn, 1) := by decide +kernel
set_option maxRecDepth 20000 in
theorem ggX0_gateOfFewestElls_X0_ellsTooMuch : GoodIn wsX0_gateOfFewestElls wsX0_ellsTooMuch := goodIn_r _ [6, 7, 8, 9, 10, 11, 12, 13, 14, 15, 5, 16, 17, 18, 19, 20, 21, 22, 23, 24, 25, 26, 27, 28, 29, 30, 31, 32, 33, 34, 35, 36, 37, 38, 39, 40, 41, 42, 43, 44, 45, 46, 47, 50, 51, 52, 53, 54, 55, 56, 57, 58] (by decide +kernel) (by decide +kernel)
set_option maxRecDepth 20000 in
theorem gX0_gateOfFewestElls_X0_ellsTooMuch : GoodIn wsX0_gateOfFewestElls (wsV RX0 124 RX0 yX0_ellsTooMuch wsX0_ellsTooMuch) := goodIn_app (goodIn_of _ (by decide +kernel)) ggX0_gateOfFewestElls_X0_ellsTooMuch
set_option maxRecDepth 20000 in
theorem ggX0_gateOfFewestElls_X5_at : GoodIn wsX0_gateOfFewestElls wsX5_at := goodIn_r _ [25] (by decide +kernel) (by decide +kernel)
set_option maxRecDepth 20000 in
theorem gX0_gateOfFewestElls_X5_at_n67 : GoodIn wsX0_gateOfFewestElls (wsX5_at) := ggX0_gateOfFewestElls_X5_at
theorem dX0_gateOfFewestElls_0 : decode cX0_gateOfFewestElls 0 = .ok (.iconst 0, 1) := by decide +kernel
theorem dX0_gateOfFewestElls_1 : decode cX0_gateOfFewestElls 1 = .ok (.istore_n 2, 1) := by decide +kernel
theorem dX0_gateOfFewestElls_2 : decode cX0_gateOfFewestElls 2 = .ok (.iconst 1, 1) := by decide +kernel
theorem dX0_gateOfFewestElls_3 : decode cX0_gateOfFewestElls 3 = .ok (.istore_n 3, 1) := by decide +kernel
theorem dX0_gateOfFewestElls_4 : decode cX0_gateOfFewestElls 4 = .ok (.iload_n 3, 1) := by decide +kernel
theorem dX0_gateOfFewestElls_5 : decode cX0_gateOfFewestElls 5 = .ok (.iconst 3, 1) := by decide +kernel
theorem dX0_gateOfFewestElls_6 : decode cX0_gateOfFewestElls 6 = .ok (.if_icmp .ge 73, 3) := by decide +kernel
theorem dX0_gateOfFewestElls_9 : decode cX0_gateOfFewestElls 9 = .ok (.aload_n 0, 1) := by decide +kernel
theorem dX0_gateOfFewestElls_10 : decode cX0_gateOfFewestElls 10 = .ok (.iload_n 1, 1) := by decide +kernel
theorem dX0_gateOfFewestElls_11 : decode cX0_gateOfFewestElls 11 = .ok (.iload_n 3, 1) := by decide +kernel
theorem dX0_gateOfFewestElls_12 : decode cX0_gateOfFewestElls 12 = .ok (.invokevirtual 124, 3) := by decide +kernel
theorem dX0_gateOfFewestElls_15 : decode cX0_gateOfFewestElls 15 = .ok (.aload_n 0, 1) := by decide +kernel
theorem dX0_gateOfFewestElls_16 : decode cX0_gateOfFewestElls 16 = .ok (.iload_n 1, 1) := by decide +kernel
theorem dX0_gateOfFewestElls_17 : decode cX0_gateOfFewestElls 17 = .ok (.iload_n 2, 1) := by decide +kernel
theorem dX0_gateOfFewestElls_18 : decode cX0_gateOfFewestElls 18 = .ok (.invokevirtual 124, 3) := by decide +kernel
theorem dX0_gateOfFewestElls_21 : decode cX0_gateOfFewestElls 21 = .ok (.isub, 1) := by decide +kernel
theorem dX0_gateOfFewestElls_22 : decode cX0_gateOfFewestElls 22 = .ok (.istore 4, 2) := by decide +kernel
theorem dX0_gateOfFewestElls_24 : decode cX0_gateOfFewestElls 24 = .ok (.aload_n 0, 1) := by decide +kernel
theorem dX0_gateOfFewestElls_25 : decode cX0_gateOfFewestElls 25 = .ok (.getfield 21, 3) := by decide +kernel
theorem dX0_gateOfFewestElls_28 : decode cX0_gateOfFewestElls 28 = .ok (.getfield 191, 3) := by decide +kernel
theorem dX0_gateOfFewestElls_31 : decode cX0_gateOfFewestElls 31 = .ok (.iload_n 3, 1) := by decide +kernel
theorem dX0_gateOfFewestElls_32 : decode cX0_gateOfFewestElls 32 = .ok (.invokestatic 67, 3) := by decide +kernel
theorem dX0_gateOfFewestElls_35 : decode cX0_gateOfFewestElls 35 = .ok (.aload_n 0, 1) := by decide +kernel
theorem dX0_gateOfFewestElls_36 : decode cX0_gateOfFewestElls 36 = .ok (.getfield 21, 3) := by decide +kernel
theorem dX0_gateOfFewestElls_39 : decode cX0_gateOfFewestElls 39 = .ok (.getfield 191, 3) := by decide +kernel
theorem dX0_gateOfFewestElls_42 : decode cX0_gateOfFewestElls 42 = .ok (.iload_n 2, 1) := by decide +kernel
theorem dX0_gateOfFewestElls_43 : decode cX0_gateOfFewestElls 43 = .ok (.invokestatic 67, 3) := by decide +kernel
theorem dX0_gateOfFewestElls_46 : decode cX0_gateOfFewestElls 46 = .ok (.if_icmp .ge 7, 3) := by decide +kernel
theorem dX0_gateOfFewestElls_49 : decode cX0_gateOfFewestElls 49 = .ok (.iconst 1, 1) := by decide +kernel
theorem dX0_gateOfFewestElls_50 : decode cX0_gateOfFewestElls 50 = .ok (.goto 4, 3) := by decide +kernel
theorem dX0_gateOfFewestElls_53 : decode cX0_gateOfFewestElls 53 = .ok (.iconst 0, 1) := by decide +kernel
theorem dX0_gateOfFewestElls_54 : decode cX0_gateOfFewestElls 54 = .ok (.istore 5, 2) := by decide +kernel
theorem dX0_gateOfFewestElls_56 : decode cX0_gateOfFewestElls 56 = .ok (.iload 4, 2) := by decide +kernel
theorem dX0_gateOfFewestElls_58 : decode cX0_gateOfFewestElls 58 = .ok (.ifCond .lt 13, 3) := by decide +kernel
theorem dX0_gateOfFewestElls_61 : decode cX0_gateOfFewestElls 61 = .ok (.iload 4, 2) := by decide +kernel
theorem dX0_gateOfFewestElls_63 : decode cX0_gateOfFewestElls 63 = .ok (.ifCond .ne 10, 3) := by decide +kernel
theorem dX0_gateOfFewestElls_66 : decode cX0_gateOfFewestElls 66 = .ok (.iload 5, 2) := by decide +kernel
theorem dX0_gateOfFewestElls_68 : decode cX0_gateOfFewestElls 68 = .ok (.ifCond .eq 5, 3) := by decide +kernel
theorem dX0_gateOfFewestElls_71 : decode cX0_gateOfFewestElls 71 = .ok (.iload_n 3, 1) := by decide +kernel
theorem dX0_gateOfFewestElls_72 : decode cX0_gateOfFewestElls 72 = .ok (.istore_n 2, 1) := by decide +kernel
theorem dX0_gateOfFewestElls_73 : decode cX0_gateOfFewestElls 73 = .ok (.iinc 3 1, 3) := by decide +kernel
theorem dX0_gateOfFewestElls_76 : decode cX0_gateOfFewestElls 76 = .ok (.goto (-72), 3) := by decide +kernel
theorem dX0_gateOfFewestElls_79 : decode cX0_gateOfFewestElls 79 = .ok (.iload_n 2, 1) := by decide +kernel
theorem dX0_gateOfFewestElls_80 : decode cX0_gateOfFewestElls 80 = .ok (.ireturn, 1) := by decide +kernel
set_option maxRecDepth 20000 in
theorem ggX0_allowsLace_X1_wornLace : GoodIn wsX0_allowsLace wsX1_wornLace := goodIn_r _ [5, 6, 7, 8, 9, 3, 10, 11, 12, 13, 14, 15, 38, 39, 40, 41, 42, 43, 44, 45, 46] (by decide +kernel) (by decide +kernel)
set_option maxRecDepth 20000 in
theorem gX0_allowsLace_X1_wornLace_n109 : GoodIn wsX0_allowsLace (wsX1_wornLace) := ggX0_allowsLace_X1_wornLace
set_option maxRecDepth 20000 in
theorem ggX0_allowsLace_X5_at : GoodIn wsX0_allowsLace wsX5_at := goodIn_r _ [15] (by decide +kernel) (by decide +kernel)
set_option maxRecDepth 20000 in
theorem gX0_allowsLace_X5_at_n67 : GoodIn wsX0_allowsLace (wsX5_at) := ggX0_allowsLace_X5_at
set_option maxRecDepth 20000 in
theorem ggX0_allowsLace_X0_allowedElls : GoodIn wsX0_allowsLace wsX0_allowedElls := goodIn_r _ [20, 21, 22, 23, 24, 25, 13, 14, 15, 26, 27, 28, 29, 30, 31, 32, 33, 34, 35, 36, 37] (by decide +kernel) (by decide +kernel)
set_option maxRecDepth 20000 in
theorem gX0_allowsLace_X0_allowedElls : GoodIn wsX0_allowsLace (wsV RX0 118 RX0 yX0_allowedElls wsX0_allowedElls) := goodIn_app (goodIn_of _ (by decide +kernel)) ggX0_allowsLace_X0_allowedElls
theorem dX0_allowsLace_0 : decode cX0_allowsLace 0 = .ok (.aload_n 0, 1) := by decide +kernel
theorem dX0_allowsLace_1 : decode cX0_allowsLace 1 = .ok (.getfield 12, 3) := by decide +kernel
theorem dX0_allowsLace_4 : decode cX0_allowsLace 4 = .ok (.iload_n 1, 1) := by decide +kernel
theorem dX0_allowsLace_5 : decode cX0_allowsLace 5 = .ok (.invokevirtual 109, 3) := by decide +kernel
theorem dX0_allowsLace_8 : decode cX0_allowsLace 8 = .ok (.aload_n 0, 1) := by decide +kernel
theorem dX0_allowsLace_9 : decode cX0_allowsLace 9 = .ok (.iload_n 2, 1) := by decide +kernel
theorem dX0_allowsLace_10 : decode cX0_allowsLace 10 = .ok (.aload_n 0, 1) := by decide +kernel
theorem dX0_allowsLace_11 : decode cX0_allowsLace 11 = .ok (.getfield 12, 3) := by decide +kernel
theorem dX0_allowsLace_14 : decode cX0_allowsLace 14 = .ok (.getfield 112, 3) := by decide +kernel
theorem dX0_allowsLace_17 : decode cX0_allowsLace 17 = .ok (.iload_n 1, 1) := by decide +kernel
theorem dX0_allowsLace_18 : decode cX0_allowsLace 18 = .ok (.invokestatic 67, 3) := by decide +kernel
theorem dX0_allowsLace_21 : decode cX0_allowsLace 21 = .ok (.iload_n 3, 1) := by decide +kernel
theorem dX0_allowsLace_22 : decode cX0_allowsLace 22 = .ok (.invokevirtual 118, 3) := by decide +kernel
theorem dX0_allowsLace_25 : decode cX0_allowsLace 25 = .ok (.if_icmp .gt 7, 3) := by decide +kernel
theorem dX0_allowsLace_28 : decode cX0_allowsLace 28 = .ok (.iconst 1, 1) := by decide +kernel
theorem dX0_allowsLace_29 : decode cX0_allowsLace 29 = .ok (.goto 4, 3) := by decide +kernel
theorem dX0_allowsLace_32 : decode cX0_allowsLace 32 = .ok (.iconst 0, 1) := by decide +kernel
theorem dX0_allowsLace_33 : decode cX0_allowsLace 33 = .ok (.ireturn, 1) := by decide +kernel
set_option maxRecDepth 20000 in
theorem ggX0_nightsUntilAllowed_X0_allowsLace : GoodIn wsX0_nightsUntilAllowed wsX0_allowsLace := goodIn_r _ [6, 7, 8, 9, 10, 11, 12, 13, 14, 15, 16, 17, 18, 19, 20, 21, 22, 23, 24, 5, 25, 26, 27, 28, 29, 30, 31, 32, 33, 34, 35, 36, 37, 38, 39, 40, 41, 42, 43, 44, 45, 46, 47, 48, 49, 50, 51] (by decide +kernel) (by decide +kernel)
set_option maxRecDepth 20000 in
theorem gX0_nightsUntilAllowed_X0_allowsLace : GoodIn wsX0_nightsUntilAllowed (wsV RX0 194 RX0 yX0_allowsLace wsX0_allowsLace) := goodIn_app (goodIn_of _ (by decide +kernel)) ggX0_nightsUntilAllowed_X0_allowsLace
theorem dX0_nightsUntilAllowed_0 : decode cX0_nightsUntilAllowed 0 = .ok (.iconst 0, 1) := by decide +kernel
theorem dX0_nightsUntilAllowed_1 : decode cX0_nightsUntilAllowed 1 = .ok (.istore_n 3, 1) := by decide +kernel
theorem dX0_nightsUntilAllowed_2 : decode cX0_nightsUntilAllowed 2 = .ok (.iload_n 3, 1) := by decide +kernel
theorem dX0_nightsUntilAllowed_3 : decode cX0_nightsUntilAllowed 3 = .ok (.bipush 6, 2) := by decide +kernel
theorem dX0_nightsUntilAllowed_5 : decode cX0_nightsUntilAllowed 5 = .ok (.if_icmp .gt 26, 3) := by decide +kernel
theorem dX0_nightsUntilAllowed_8 : decode cX0_nightsUntilAllowed 8 = .ok (.aload_n 0, 1) := by decide +kernel
theorem dX0_nightsUntilAllowed_9 : decode cX0_nightsUntilAllowed 9 = .ok (.iload_n 1, 1) := by decide +kernel
theorem dX0_nightsUntilAllowed_10 : decode cX0_nightsUntilAllowed 10 = .ok (.iload_n 2, 1) := by decide +kernel
theorem dX0_nightsUntilAllowed_11 : decode cX0_nightsUntilAllowed 11 = .ok (.aload_n 0, 1) := by decide +kernel
theorem dX0_nightsUntilAllowed_12 : decode cX0_nightsUntilAllowed 12 = .ok (.getfield 115, 3) := by decide +kernel
theorem dX0_nightsUntilAllowed_15 : decode cX0_nightsUntilAllowed 15 = .ok (.iload_n 3, 1) := by decide +kernel
theorem dX0_nightsUntilAllowed_16 : decode cX0_nightsUntilAllowed 16 = .ok (.iadd, 1) := by decide +kernel
theorem dX0_nightsUntilAllowed_17 : decode cX0_nightsUntilAllowed 17 = .ok (.invokevirtual 194, 3) := by decide +kernel
theorem dX0_nightsUntilAllowed_20 : decode cX0_nightsUntilAllowed 20 = .ok (.ifCond .eq 5, 3) := by decide +kernel
theorem dX0_nightsUntilAllowed_23 : decode cX0_nightsUntilAllowed 23 = .ok (.iload_n 3, 1) := by decide +kernel
theorem dX0_nightsUntilAllowed_24 : decode cX0_nightsUntilAllowed 24 = .ok (.ireturn, 1) := by decide +kernel
theorem dX0_nightsUntilAllowed_25 : decode cX0_nightsUntilAllowed 25 = .ok (.iinc 3 1, 3) := by decide +kernel
theorem dX0_nightsUntilAllowed_28 : decode cX0_nightsUntilAllowed 28 = .ok (.goto (-26), 3) := by decide +kernel
theorem dX0_nightsUntilAllowed_31 : decode cX0_nightsUntilAllowed 31 = .ok (.iconst (-1), 1) := by decide +kernel
theorem dX0_nightsUntilAllowed_32 : decode cX0_nightsUntilAllowed 32 = .ok (.ireturn, 1) := by decide +kernel
set_option maxRecDepth 20000 in
theorem ggX0_shareOfDecent_X0_allowsLace : GoodIn wsX0_shareOfDecent wsX0_allowsLace := goodIn_r _ [7, 1, 8, 9, 10, 11, 12, 13, 14, 15, 16, 17, 18, 19, 20, 21, 22, 23, 24, 6, 25, 26, 27, 28, 29, 30, 31, 32, 33, 34, 35, 36, 37, 38, 39, 40, 41, 42, 43, 44, 45, 46, 47, 48, 49, 50, 51] (by decide +kernel) (by decide +kernel)
set_option maxRecDepth 20000 in
theorem gX0_shareOfDecent_X0_allowsLace : GoodIn wsX0_shareOfDecent (wsV RX0 194 RX0 yX0_allowsLace wsX0_allowsLace) := goodIn_app (goodIn_of _ (by decide +kernel)) ggX0_shareOfDecent_X0_allowsLace
theorem dX0_shareOfDecent_0 : decode cX0_shareOfDecent 0 = .ok (.aload_n 0, 1) := by decide +kernel
theorem dX0_shareOfDecent_1 : decode cX0_shareOfDecent 1 = .ok (.getfield 12, 3) := by decide +kernel
theorem dX0_shareOfDecent_4 : decode cX0_shareOfDecent 4 = .ok (.getfield 158, 3) := by decide +kernel
theorem dX0_shareOfDecent_7 : decode cX0_shareOfDecent 7 = .ok (.ifCond .gt 5, 3) := by decide +kernel
theorem dX0_shareOfDecent_10 : decode cX0_shareOfDecent 10 = .ok (.dconst 1, 1) := by decide +kernel
theorem dX0_shareOfDecent_11 : decode cX0_shareOfDecent 11 = .ok (.dreturn, 1) := by decide +kernel
theorem dX0_shareOfDecent_12 : decode cX0_shareOfDecent 12 = .ok (.iconst 0, 1) := by decide +kernel
theorem dX0_shareOfDecent_13 : decode cX0_shareOfDecent 13 = .ok (.istore_n 1, 1) := by decide +kernel
theorem dX0_shareOfDecent_14 : decode cX0_shareOfDecent 14 = .ok (.iconst 0, 1) := by decide +kernel
theorem dX0_shareOfDecent_15 : decode cX0_shareOfDecent 15 = .ok (.istore_n 2, 1) := by decide +kernel
theorem dX0_shareOfDecent_16 : decode cX0_shareOfDecent 16 = .ok (.iload_n 2, 1) := by decide +kernel
theorem dX0_shareOfDecent_17 : decode cX0_shareOfDecent 17 = .ok (.aload_n 0, 1) := by decide +kernel
theorem dX0_shareOfDecent_18 : decode cX0_shareOfDecent 18 = .ok (.getfield 12, 3) := by decide +kernel
theorem dX0_shareOfDecent_21 : decode cX0_shareOfDecent 21 = .ok (.getfield 158, 3) := by decide +kernel
theorem dX0_shareOfDecent_24 : decode cX0_shareOfDecent 24 = .ok (.if_icmp .ge 30, 3) := by decide +kernel
theorem dX0_shareOfDecent_27 : decode cX0_shareOfDecent 27 = .ok (.iload_n 1, 1) := by decide +kernel
theorem dX0_shareOfDecent_28 : decode cX0_shareOfDecent 28 = .ok (.aload_n 0, 1) := by decide +kernel
theorem dX0_shareOfDecent_29 : decode cX0_shareOfDecent 29 = .ok (.iload_n 2, 1) := by decide +kernel
theorem dX0_shareOfDecent_30 : decode cX0_shareOfDecent 30 = .ok (.iconst 0, 1) := by decide +kernel
theorem dX0_shareOfDecent_31 : decode cX0_shareOfDecent 31 = .ok (.aload_n 0, 1) := by decide +kernel
theorem dX0_shareOfDecent_32 : decode cX0_shareOfDecent 32 = .ok (.getfield 115, 3) := by decide +kernel
theorem dX0_shareOfDecent_35 : decode cX0_shareOfDecent 35 = .ok (.invokevirtual 194, 3) := by decide +kernel
theorem dX0_shareOfDecent_38 : decode cX0_shareOfDecent 38 = .ok (.ifCond .eq 7, 3) := by decide +kernel
theorem dX0_shareOfDecent_41 : decode cX0_shareOfDecent 41 = .ok (.iconst 1, 1) := by decide +kernel
theorem dX0_shareOfDecent_42 : decode cX0_shareOfDecent 42 = .ok (.goto 4, 3) := by decide +kernel
theorem dX0_shareOfDecent_45 : decode cX0_shareOfDecent 45 = .ok (.iconst 0, 1) := by decide +kernel
theorem dX0_shareOfDecent_46 : decode cX0_shareOfDecent 46 = .ok (.iadd, 1) := by decide +kernel
theorem dX0_shareOfDecent_47 : decode cX0_shareOfDecent 47 = .ok (.istore_n 1, 1) := by decide +kernel
theorem dX0_shareOfDecent_48 : decode cX0_shareOfDecent 48 = .ok (.iinc 2 1, 3) := by decide +kernel
theorem dX0_shareOfDecent_51 : decode cX0_shareOfDecent 51 = .ok (.goto (-35), 3) := by decide +kernel
theorem dX0_shareOfDecent_54 : decode cX0_shareOfDecent 54 = .ok (.iload_n 1, 1) := by decide +kernel
theorem dX0_shareOfDecent_55 : decode cX0_shareOfDecent 55 = .ok (.i2d, 1) := by decide +kernel
theorem dX0_shareOfDecent_56 : decode cX0_shareOfDecent 56 = .ok (.aload_n 0, 1) := by decide +kernel
theorem dX0_shareOfDecent_57 : decode cX0_shareOfDecent 57 = .ok (.getfield 12, 3) := by decide +kernel
theorem dX0_shareOfDecent_60 : decode cX0_shareOfDecent 60 = .ok (.getfield 158, 3) := by decide +kernel
theorem dX0_shareOfDecent_63 : decode cX0_shareOfDecent 63 = .ok (.i2d, 1) := by decide +kernel
theorem dX0_shareOfDecent_64 : decode cX0_shareOfDecent 64 = .ok (.ddiv, 1) := by decide +kernel
theorem dX0_shareOfDecent_65 : decode cX0_shareOfDecent 65 = .ok (.dreturn, 1) := by decide +kernel
set_option maxRecDepth 20000 in
theorem ggX0_guestNumber_X5_at : GoodIn wsX0_guestNumber wsX5_at := goodIn_r _ [5] (by decide +kernel) (by decide +kernel)
set_option maxRecDepth 20000 in
theorem gX0_guestNumber_X5_at_n67 : GoodIn wsX0_guestNumber (wsX5_at) := ggX0_guestNumber_X5_at
set_option maxRecDepth 20000 in
theorem ggX0_guestNumber_X1_wornCoat : GoodIn wsX0_guestNumber wsX1_wornCoat := goodIn_r _ [9, 10, 11, 3, 4, 5, 42, 43, 44, 45, 46, 47, 48, 49, 50] (by decide +kernel) (by decide +kernel)
set_option maxRecDepth 20000 in
theorem gX0_guestNumber_X1_wornCoat_n53 : GoodIn wsX0_guestNumber (wsX1_wornCoat) := ggX0_guestNumber_X1_wornCoat
set_option maxRecDepth 20000 in
theorem ggX0_guestNumber_X1_wornLace : GoodIn wsX0_guestNumber wsX1_wornLace := goodIn_r _ [14, 15, 16, 6, 8, 7, 9, 10, 11, 3, 4, 5, 42, 43, 44, 45, 46, 47, 48, 49, 50] (by decide +kernel) (by decide +kernel)
set_option maxRecDepth 20000 in
theorem gX0_guestNumber_X1_wornLace_n109 : GoodIn wsX0_guestNumber (wsX1_wornLace) := ggX0_guestNumber_X1_wornLace
set_option maxRecDepth 20000 in
theorem ggX0_guestNumber_X3_gateOf : GoodIn wsX0_guestNumber wsX3_gateOf := goodIn_r _ [20, 21, 22, 23, 18, 24, 25, 26, 3, 4, 5, 51, 52] (by decide +kernel) (by decide +kernel)
set_option maxRecDepth 20000 in
theorem gX0_guestNumber_X3_gateOf_n61 : GoodIn wsX0_guestNumber (wsX3_gateOf) := ggX0_guestNumber_X3_gateOf
set_option maxRecDepth 20000 in
theorem ggX0_guestNumber_X3_placeOf : GoodIn wsX0_guestNumber wsX3_placeOf := goodIn_r _ [29, 21, 22, 23, 18, 24, 25, 26, 3, 4, 5, 51, 52] (by decide +kernel) (by decide +kernel)
set_option maxRecDepth 20000 in
theorem gX0_guestNumber_X3_placeOf_n198 : GoodIn wsX0_guestNumber (wsX3_placeOf) := ggX0_guestNumber_X3_placeOf
theorem dX0_guestNumber_0 : decode cX0_guestNumber 0 = .ok (.iload_n 2, 1) := by decide +kernel
theorem dX0_guestNumber_1 : decode cX0_guestNumber 1 = .ok (.tableswitch 163 0 9 #[55, 67, 79, 91, 103, 112, 121, 133, 145, 154], 55) := by decide +kernel
theorem dX0_guestNumber_56 : decode cX0_guestNumber 56 = .ok (.aload_n 0, 1) := by decide +kernel
theorem dX0_guestNumber_57 : decode cX0_guestNumber 57 = .ok (.getfield 12, 3) := by decide +kernel
theorem dX0_guestNumber_60 : decode cX0_guestNumber 60 = .ok (.getfield 112, 3) := by decide +kernel
theorem dX0_guestNumber_63 : decode cX0_guestNumber 63 = .ok (.iload_n 1, 1) := by decide +kernel
theorem dX0_guestNumber_64 : decode cX0_guestNumber 64 = .ok (.invokestatic 67, 3) := by decide +kernel
theorem dX0_guestNumber_67 : decode cX0_guestNumber 67 = .ok (.ireturn, 1) := by decide +kernel
theorem dX0_guestNumber_68 : decode cX0_guestNumber 68 = .ok (.aload_n 0, 1) := by decide +kernel
theorem dX0_guestNumber_69 : decode cX0_guestNumber 69 = .ok (.getfield 12, 3) := by decide +kernel
theorem dX0_guestNumber_72 : decode cX0_guestNumber 72 = .ok (.getfield 71, 3) := by decide +kernel
theorem dX0_guestNumber_75 : decode cX0_guestNumber 75 = .ok (.iload_n 1, 1) := by decide +kernel
theorem dX0_guestNumber_76 : decode cX0_guestNumber 76 = .ok (.invokestatic 67, 3) := by decide +kernel
theorem dX0_guestNumber_79 : decode cX0_guestNumber 79 = .ok (.ireturn, 1) := by decide +kernel
theorem dX0_guestNumber_80 : decode cX0_guestNumber 80 = .ok (.aload_n 0, 1) := by decide +kernel
theorem dX0_guestNumber_81 : decode cX0_guestNumber 81 = .ok (.getfield 12, 3) := by decide +kernel
theorem dX0_guestNumber_84 : decode cX0_guestNumber 84 = .ok (.getfield 64, 3) := by decide +kernel
theorem dX0_guestNumber_87 : decode cX0_guestNumber 87 = .ok (.iload_n 1, 1) := by decide +kernel
theorem dX0_guestNumber_88 : decode cX0_guestNumber 88 = .ok (.invokestatic 67, 3) := by decide +kernel
theorem dX0_guestNumber_91 : decode cX0_guestNumber 91 = .ok (.ireturn, 1) := by decide +kernel
theorem dX0_guestNumber_92 : decode cX0_guestNumber 92 = .ok (.aload_n 0, 1) := by decide +kernel
theorem dX0_guestNumber_93 : decode cX0_guestNumber 93 = .ok (.getfield 12, 3) := by decide +kernel
theorem dX0_guestNumber_96 : decode cX0_guestNumber 96 = .ok (.getfield 74, 3) := by decide +kernel
theorem dX0_guestNumber_99 : decode cX0_guestNumber 99 = .ok (.iload_n 1, 1) := by decide +kernel
theorem dX0_guestNumber_100 : decode cX0_guestNumber 100 = .ok (.invokestatic 67, 3) := by decide +kernel
theorem dX0_guestNumber_103 : decode cX0_guestNumber 103 = .ok (.ireturn, 1) := by decide +kernel
theorem dX0_guestNumber_104 : decode cX0_guestNumber 104 = .ok (.aload_n 0, 1) := by decide +kernel
theorem dX0_guestNumber_105 : decode cX0_guestNumber 105 = .ok (.getfield 12, 3) := by decide +kernel
theorem dX0_guestNumber_108 : decode cX0_guestNumber 108 = .ok (.iload_n 1, 1) := by decide +kernel
theorem dX0_guestNumber_109 : decode cX0_guestNumber 109 = .ok (.invokevirtual 53, 3) := by decide +kernel
theorem dX0_guestNumber_112 : decode cX0_guestNumber 112 = .ok (.ireturn, 1) := by decide +kernel
theorem dX0_guestNumber_113 : decode cX0_guestNumber 113 = .ok (.aload_n 0, 1) := by decide +kernel
theorem dX0_guestNumber_114 : decode cX0_guestNumber 114 = .ok (.getfield 12, 3) := by decide +kernel
theorem dX0_guestNumber_117 : decode cX0_guestNumber 117 = .ok (.iload_n 1, 1) := by decide +kernel
theorem dX0_guestNumber_118 : decode cX0_guestNumber 118 = .ok (.invokevirtual 109, 3) := by decide +kernel
theorem dX0_guestNumber_121 : decode cX0_guestNumber 121 = .ok (.ireturn, 1) := by decide +kernel
theorem dX0_guestNumber_122 : decode cX0_guestNumber 122 = .ok (.aload_n 0, 1) := by decide +kernel
theorem dX0_guestNumber_123 : decode cX0_guestNumber 123 = .ok (.getfield 12, 3) := by decide +kernel
theorem dX0_guestNumber_126 : decode cX0_guestNumber 126 = .ok (.getfield 94, 3) := by decide +kernel
theorem dX0_guestNumber_129 : decode cX0_guestNumber 129 = .ok (.iload_n 1, 1) := by decide +kernel
theorem dX0_guestNumber_130 : decode cX0_guestNumber 130 = .ok (.invokestatic 67, 3) := by decide +kernel
theorem dX0_guestNumber_133 : decode cX0_guestNumber 133 = .ok (.ireturn, 1) := by decide +kernel
theorem dX0_guestNumber_134 : decode cX0_guestNumber 134 = .ok (.aload_n 0, 1) := by decide +kernel
theorem dX0_guestNumber_135 : decode cX0_guestNumber 135 = .ok (.getfield 12, 3) := by decide +kernel
theorem dX0_guestNumber_138 : decode cX0_guestNumber 138 = .ok (.getfield 146, 3) := by decide +kernel
theorem dX0_guestNumber_141 : decode cX0_guestNumber 141 = .ok (.iload_n 1, 1) := by decide +kernel
theorem dX0_guestNumber_142 : decode cX0_guestNumber 142 = .ok (.invokestatic 67, 3) := by decide +kernel
theorem dX0_guestNumber_145 : decode cX0_guestNumber 145 = .ok (.ireturn, 1) := by decide +kernel
theorem dX0_guestNumber_146 : decode cX0_guestNumber 146 = .ok (.aload_n 0, 1) := by decide +kernel
theorem dX0_guestNumber_147 : decode cX0_guestNumber 147 = .ok (.getfield 21, 3) := by decide +kernel
theorem dX0_guestNumber_150 : decode cX0_guestNumber 150 = .ok (.iload_n 1, 1) := by decide +kernel
theorem dX0_guestNumber_151 : decode cX0_guestNumber 151 = .ok (.invokevirtual 61, 3) := by decide +kernel
theorem dX0_guestNumber_154 : decode cX0_guestNumber 154 = .ok (.ireturn, 1) := by decide +kernel
theorem dX0_guestNumber_155 : decode cX0_guestNumber 155 = .ok (.aload_n 0, 1) := by decide +kernel
theorem dX0_guestNumber_156 : decode cX0_guestNumber 156 = .ok (.getfield 21, 3) := by decide +kernel
theorem dX0_guestNumber_159 : decode cX0_guestNumber 159 = .ok (.iload_n 1, 1) := by decide +kernel
theorem dX0_guestNumber_160 : decode cX0_guestNumber 160 = .ok (.invokevirtual 198, 3) := by decide +kernel
theorem dX0_guestNumber_163 : decode cX0_guestNumber 163 = .ok (.ireturn, 1) := by decide +kernel
theorem dX0_guestNumber_164 : decode cX0_guestNumber 164 = .ok (.aload_n 0, 1) := by decide +kernel
theorem dX0_guestNumber_165 : decode cX0_guestNumber 165 = .ok (.getfield 12, 3) := by decide +kernel
theorem dX0_guestNumber_168 : decode cX0_guestNumber 168 = .ok (.getfield 201, 3) := by decide +kernel
theorem dX0_guestNumber_171 : decode cX0_guestNumber 171 = .ok (.iload_n 1, 1) := by decide +kernel
theorem dX0_guestNumber_172 : decode cX0_guestNumber 172 = .ok (.invokestatic 67, 3) := by decide +kernel
theorem dX0_guestNumber_175 : decode cX0_guestNumber 175 = .ok (.ireturn, 1) := by decide +kernel
set_option maxRecDepth 20000 in
theorem ggX0_countNumber_X5_sumOf : GoodIn wsX0_countNumber wsX5_sumOf := goodIn_r _ [13, 14, 15, 12, 16] (by decide +kernel) (by decide +kernel)
set_option maxRecDepth 20000 in
theorem gX0_countNumber_X5_sumOf_n161 : GoodIn wsX0_countNumber (wsX5_sumOf) := ggX0_countNumber_X5_sumOf
set_option maxRecDepth 20000 in
theorem ggX0_countNumber_X1_howManyMasked : GoodIn wsX0_countNumber wsX1_howManyMasked := goodIn_r _ [20, 21, 22, 15, 12, 16, 43, 44, 45, 46, 47, 48, 49, 50, 51] (by decide +kernel) (by decide +kernel)
set_option maxRecDepth 20000 in
theorem gX0_countNumber_X1_howManyMasked_n204 : GoodIn wsX0_countNumber (wsX1_howManyMasked) := ggX0_countNumber_X1_howManyMasked
set_option maxRecDepth 20000 in
theorem ggX0_countNumber_X1_bitsOfInside : GoodIn wsX0_countNumber wsX1_bitsOfInside := goodIn_r _ [25, 21, 26, 27, 28, 18, 29, 30, 15, 12, 16, 43, 44, 45, 46, 47, 48, 49, 50, 51] (by decide +kernel) (by decide +kernel)
set_option maxRecDepth 20000 in
theorem gX0_countNumber_X1_bitsOfInside_n208 : GoodIn wsX0_countNumber (wsX1_bitsOfInside) := ggX0_countNumber_X1_bitsOfInside
set_option maxRecDepth 20000 in
theorem ggX0_countNumber_X5_at : GoodIn wsX0_countNumber wsX5_at := goodIn_r _ [16] (by decide +kernel) (by decide +kernel)
set_option maxRecDepth 20000 in
theorem gX0_countNumber_X5_at_n67 : GoodIn wsX0_countNumber (wsX5_at) := ggX0_countNumber_X5_at
theorem dX0_countNumber_0 : decode cX0_countNumber 0 = .ok (.iload_n 1, 1) := by decide +kernel
theorem dX0_countNumber_1 : decode cX0_countNumber 1 = .ok (.tableswitch 218 0 14 #[75, 80, 88, 106, 118, 136, 141, 159, 164, 182, 187, 192, 197, 202, 210], 75) := by decide +kernel
theorem dX0_countNumber_76 : decode cX0_countNumber 76 = .ok (.aload_n 0, 1) := by decide +kernel
theorem dX0_countNumber_77 : decode cX0_countNumber 77 = .ok (.getfield 115, 3) := by decide +kernel
theorem dX0_countNumber_80 : decode cX0_countNumber 80 = .ok (.ireturn, 1) := by decide +kernel
theorem dX0_countNumber_81 : decode cX0_countNumber 81 = .ok (.aload_n 0, 1) := by decide +kernel
theorem dX0_countNumber_82 : decode cX0_countNumber 82 = .ok (.getfield 12, 3) := by decide +kernel
theorem dX0_countNumber_85 : decode cX0_countNumber 85 = .ok (.getfield 158, 3) := by decide +kernel
theorem dX0_countNumber_88 : decode cX0_countNumber 88 = .ok (.ireturn, 1) := by decide +kernel
theorem dX0_countNumber_89 : decode cX0_countNumber 89 = .ok (.aload_n 0, 1) := by decide +kernel
theorem dX0_countNumber_90 : decode cX0_countNumber 90 = .ok (.getfield 12, 3) := by decide +kernel
theorem dX0_countNumber_93 : decode cX0_countNumber 93 = .ok (.getfield 146, 3) := by decide +kernel
theorem dX0_countNumber_96 : decode cX0_countNumber 96 = .ok (.aload_n 0, 1) := by decide +kernel
theorem dX0_countNumber_97 : decode cX0_countNumber 97 = .ok (.getfield 12, 3) := by decide +kernel
theorem dX0_countNumber_100 : decode cX0_countNumber 100 = .ok (.getfield 158, 3) := by decide +kernel
theorem dX0_countNumber_103 : decode cX0_countNumber 103 = .ok (.invokestatic 161, 3) := by decide +kernel
theorem dX0_countNumber_106 : decode cX0_countNumber 106 = .ok (.ireturn, 1) := by decide +kernel
theorem dX0_countNumber_107 : decode cX0_countNumber 107 = .ok (.aload_n 0, 1) := by decide +kernel
theorem dX0_countNumber_108 : decode cX0_countNumber 108 = .ok (.getfield 21, 3) := by decide +kernel
theorem dX0_countNumber_111 : decode cX0_countNumber 111 = .ok (.getfield 191, 3) := by decide +kernel
theorem dX0_countNumber_114 : decode cX0_countNumber 114 = .ok (.iconst 3, 1) := by decide +kernel
theorem dX0_countNumber_115 : decode cX0_countNumber 115 = .ok (.invokestatic 161, 3) := by decide +kernel
theorem dX0_countNumber_118 : decode cX0_countNumber 118 = .ok (.ireturn, 1) := by decide +kernel
theorem dX0_countNumber_119 : decode cX0_countNumber 119 = .ok (.aload_n 0, 1) := by decide +kernel
theorem dX0_countNumber_120 : decode cX0_countNumber 120 = .ok (.getfield 12, 3) := by decide +kernel
theorem dX0_countNumber_123 : decode cX0_countNumber 123 = .ok (.getfield 71, 3) := by decide +kernel
theorem dX0_countNumber_126 : decode cX0_countNumber 126 = .ok (.aload_n 0, 1) := by decide +kernel
theorem dX0_countNumber_127 : decode cX0_countNumber 127 = .ok (.getfield 12, 3) := by decide +kernel
theorem dX0_countNumber_130 : decode cX0_countNumber 130 = .ok (.getfield 158, 3) := by decide +kernel
theorem dX0_countNumber_133 : decode cX0_countNumber 133 = .ok (.invokestatic 161, 3) := by decide +kernel
theorem dX0_countNumber_136 : decode cX0_countNumber 136 = .ok (.ireturn, 1) := by decide +kernel
theorem dX0_countNumber_137 : decode cX0_countNumber 137 = .ok (.aload_n 0, 1) := by decide +kernel
theorem dX0_countNumber_138 : decode cX0_countNumber 138 = .ok (.getfield 97, 3) := by decide +kernel
theorem dX0_countNumber_141 : decode cX0_countNumber 141 = .ok (.ireturn, 1) := by decide +kernel
theorem dX0_countNumber_142 : decode cX0_countNumber 142 = .ok (.aload_n 0, 1) := by decide +kernel
theorem dX0_countNumber_143 : decode cX0_countNumber 143 = .ok (.getfield 12, 3) := by decide +kernel
theorem dX0_countNumber_146 : decode cX0_countNumber 146 = .ok (.getfield 64, 3) := by decide +kernel
theorem dX0_countNumber_149 : decode cX0_countNumber 149 = .ok (.aload_n 0, 1) := by decide +kernel
theorem dX0_countNumber_150 : decode cX0_countNumber 150 = .ok (.getfield 12, 3) := by decide +kernel
theorem dX0_countNumber_153 : decode cX0_countNumber 153 = .ok (.getfield 158, 3) := by decide +kernel
theorem dX0_countNumber_156 : decode cX0_countNumber 156 = .ok (.invokestatic 161, 3) := by decide +kernel
theorem dX0_countNumber_159 : decode cX0_countNumber 159 = .ok (.ireturn, 1) := by decide +kernel
theorem dX0_countNumber_160 : decode cX0_countNumber 160 = .ok (.aload_n 0, 1) := by decide +kernel
theorem dX0_countNumber_161 : decode cX0_countNumber 161 = .ok (.getfield 43, 3) := by decide +kernel
theorem dX0_countNumber_164 : decode cX0_countNumber 164 = .ok (.ireturn, 1) := by decide +kernel
theorem dX0_countNumber_165 : decode cX0_countNumber 165 = .ok (.aload_n 0, 1) := by decide +kernel
theorem dX0_countNumber_166 : decode cX0_countNumber 166 = .ok (.getfield 12, 3) := by decide +kernel
theorem dX0_countNumber_169 : decode cX0_countNumber 169 = .ok (.getfield 74, 3) := by decide +kernel
theorem dX0_countNumber_172 : decode cX0_countNumber 172 = .ok (.aload_n 0, 1) := by decide +kernel
theorem dX0_countNumber_173 : decode cX0_countNumber 173 = .ok (.getfield 12, 3) := by decide +kernel
theorem dX0_countNumber_176 : decode cX0_countNumber 176 = .ok (.getfield 158, 3) := by decide +kernel
theorem dX0_countNumber_179 : decode cX0_countNumber 179 = .ok (.invokestatic 161, 3) := by decide +kernel
theorem dX0_countNumber_182 : decode cX0_countNumber 182 = .ok (.ireturn, 1) := by decide +kernel
theorem dX0_countNumber_183 : decode cX0_countNumber 183 = .ok (.aload_n 0, 1) := by decide +kernel
theorem dX0_countNumber_184 : decode cX0_countNumber 184 = .ok (.getfield 149, 3) := by decide +kernel
theorem dX0_countNumber_187 : decode cX0_countNumber 187 = .ok (.ireturn, 1) := by decide +kernel
theorem dX0_countNumber_188 : decode cX0_countNumber 188 = .ok (.aload_n 0, 1) := by decide +kernel
theorem dX0_countNumber_189 : decode cX0_countNumber 189 = .ok (.getfield 46, 3) := by decide +kernel
theorem dX0_countNumber_192 : decode cX0_countNumber 192 = .ok (.ireturn, 1) := by decide +kernel
theorem dX0_countNumber_193 : decode cX0_countNumber 193 = .ok (.aload_n 0, 1) := by decide +kernel
theorem dX0_countNumber_194 : decode cX0_countNumber 194 = .ok (.getfield 155, 3) := by decide +kernel
theorem dX0_countNumber_197 : decode cX0_countNumber 197 = .ok (.ireturn, 1) := by decide +kernel
theorem dX0_countNumber_198 : decode cX0_countNumber 198 = .ok (.aload_n 0, 1) := by decide +kernel
theorem dX0_countNumber_199 : decode cX0_countNumber 199 = .ok (.getfield 152, 3) := by decide +kernel
theorem dX0_countNumber_202 : decode cX0_countNumber 202 = .ok (.ireturn, 1) := by decide +kernel
theorem dX0_countNumber_203 : decode cX0_countNumber 203 = .ok (.aload_n 0, 1) := by decide +kernel
theorem dX0_countNumber_204 : decode cX0_countNumber 204 = .ok (.getfield 12, 3) := by decide +kernel
theorem dX0_countNumber_207 : decode cX0_countNumber 207 = .ok (.invokevirtual 204, 3) := by decide +kernel
theorem dX0_countNumber_210 : decode cX0_countNumber 210 = .ok (.ireturn, 1) := by decide +kernel
theorem dX0_countNumber_211 : decode cX0_countNumber 211 = .ok (.aload_n 0, 1) := by decide +kernel
theorem dX0_countNumber_212 : decode cX0_countNumber 212 = .ok (.getfield 12, 3) := by decide +kernel
theorem dX0_countNumber_215 : decode cX0_countNumber 215 = .ok (.invokevirtual 208, 3) := by decide +kernel
theorem dX0_countNumber_218 : decode cX0_countNumber 218 = .ok (.ireturn, 1) := by decide +kernel
theorem dX0_countNumber_219 : decode cX0_countNumber 219 = .ok (.aload_n 0, 1) := by decide +kernel
theorem dX0_countNumber_220 : decode cX0_countNumber 220 = .ok (.getfield 25, 3) := by decide +kernel
theorem dX0_countNumber_223 : decode cX0_countNumber 223 = .ok (.iload_n 1, 1) := by decide +kernel
theorem dX0_countNumber_224 : decode cX0_countNumber 224 = .ok (.bipush 15, 2) := by decide +kernel
theorem dX0_countNumber_226 : decode cX0_countNumber 226 = .ok (.isub, 1) := by decide +kernel
theorem dX0_countNumber_227 : decode cX0_countNumber 227 = .ok (.invokestatic 67, 3) := by decide +kernel
theorem dX0_countNumber_230 : decode cX0_countNumber 230 = .ok (.ireturn, 1) := by decide +kernel
set_option maxRecDepth 20000 in
theorem ggX0_copyState_X1_copyGuests : GoodIn wsX0_copyState wsX1_copyGuests := goodIn_r _ [16, 17, 18, 19, 20, 21, 22, 23, 24, 25, 26, 27, 28, 29, 30, 31, 32, 33, 34, 35, 36, 55, 56, 57, 58, 59, 60, 61, 62, 63] (by decide +kernel) (by decide +kernel)
set_option maxRecDepth 20000 in
theorem gX0_copyState_X1_copyGuests_n211 : GoodIn wsX0_copyState (wsX1_copyGuests) := ggX0_copyState_X1_copyGuests
set_option maxRecDepth 20000 in
theorem ggX0_copyState_X3_copyLines : GoodIn wsX0_copyState wsX3_copyLines := goodIn_r _ [40, 41, 42, 26, 27, 28, 29, 30, 31, 32, 33, 34, 35, 36, 64, 65] (by decide +kernel) (by decide +kernel)
set_option maxRecDepth 20000 in
theorem gX0_copyState_X3_copyLines_n215 : GoodIn wsX0_copyState (wsX3_copyLines) := ggX0_copyState_X3_copyLines
set_option maxRecDepth 20000 in
theorem ggX0_copyState_X5_copyRow : GoodIn wsX0_copyState wsX5_copyRow := goodIn_r _ [28, 29, 30, 31, 32, 33, 34, 35, 36] (by decide +kernel) (by decide +kernel)
set_option maxRecDepth 20000 in
theorem gX0_copyState_X5_copyRow_n39 : GoodIn wsX0_copyState (wsX5_copyRow) := ggX0_copyState_X5_copyRow
theorem dX0_copyState_0 : decode cX0_copyState 0 = .ok (.aload_n 0, 1) := by decide +kernel
theorem dX0_copyState_1 : decode cX0_copyState 1 = .ok (.getfield 12, 3) := by decide +kernel
theorem dX0_copyState_4 : decode cX0_copyState 4 = .ok (.aload_n 1, 1) := by decide +kernel
theorem dX0_copyState_5 : decode cX0_copyState 5 = .ok (.getfield 12, 3) := by decide +kernel
theorem dX0_copyState_8 : decode cX0_copyState 8 = .ok (.invokevirtual 211, 3) := by decide +kernel
theorem dX0_copyState_11 : decode cX0_copyState 11 = .ok (.aload_n 0, 1) := by decide +kernel
theorem dX0_copyState_12 : decode cX0_copyState 12 = .ok (.getfield 21, 3) := by decide +kernel
theorem dX0_copyState_15 : decode cX0_copyState 15 = .ok (.aload_n 1, 1) := by decide +kernel
theorem dX0_copyState_16 : decode cX0_copyState 16 = .ok (.getfield 21, 3) := by decide +kernel
theorem dX0_copyState_19 : decode cX0_copyState 19 = .ok (.invokevirtual 215, 3) := by decide +kernel
theorem dX0_copyState_22 : decode cX0_copyState 22 = .ok (.aload_n 1, 1) := by decide +kernel
theorem dX0_copyState_23 : decode cX0_copyState 23 = .ok (.getfield 25, 3) := by decide +kernel
theorem dX0_copyState_26 : decode cX0_copyState 26 = .ok (.aload_n 0, 1) := by decide +kernel
theorem dX0_copyState_27 : decode cX0_copyState 27 = .ok (.getfield 25, 3) := by decide +kernel
theorem dX0_copyState_30 : decode cX0_copyState 30 = .ok (.invokestatic 39, 3) := by decide +kernel
theorem dX0_copyState_33 : decode cX0_copyState 33 = .ok (.aload_n 0, 1) := by decide +kernel
theorem dX0_copyState_34 : decode cX0_copyState 34 = .ok (.aload_n 1, 1) := by decide +kernel
theorem dX0_copyState_35 : decode cX0_copyState 35 = .ok (.getfield 115, 3) := by decide +kernel
theorem dX0_copyState_38 : decode cX0_copyState 38 = .ok (.putfield 115, 3) := by decide +kernel
theorem dX0_copyState_41 : decode cX0_copyState 41 = .ok (.aload_n 0, 1) := by decide +kernel
theorem dX0_copyState_42 : decode cX0_copyState 42 = .ok (.aload_n 1, 1) := by decide +kernel
theorem dX0_copyState_43 : decode cX0_copyState 43 = .ok (.getfield 97, 3) := by decide +kernel
theorem dX0_copyState_46 : decode cX0_copyState 46 = .ok (.putfield 97, 3) := by decide +kernel
theorem dX0_copyState_49 : decode cX0_copyState 49 = .ok (.aload_n 0, 1) := by decide +kernel
theorem dX0_copyState_50 : decode cX0_copyState 50 = .ok (.aload_n 1, 1) := by decide +kernel
theorem dX0_copyState_51 : decode cX0_copyState 51 = .ok (.getfield 149, 3) := by decide +kernel
theorem dX0_copyState_54 : decode cX0_copyState 54 = .ok (.putfield 149, 3) := by decide +kernel
theorem dX0_copyState_57 : decode cX0_copyState 57 = .ok (.aload_n 0, 1) := by decide +kernel
theorem dX0_copyState_58 : decode cX0_copyState 58 = .ok (.aload_n 1, 1) := by decide +kernel
theorem dX0_copyState_59 : decode cX0_copyState 59 = .ok (.getfield 43, 3) := by decide +kernel
theorem dX0_copyState_62 : decode cX0_copyState 62 = .ok (.putfield 43, 3) := by decide +kernel
theorem dX0_copyState_65 : decode cX0_copyState 65 = .ok (.aload_n 0, 1) := by decide +kernel
theorem dX0_copyState_66 : decode cX0_copyState 66 = .ok (.aload_n 1, 1) := by decide +kernel
theorem dX0_copyState_67 : decode cX0_copyState 67 = .ok (.getfield 46, 3) := by decide +kernel
theorem dX0_copyState_70 : decode cX0_copyState 70 = .ok (.putfield 46, 3) := by decide +kernel
theorem dX0_copyState_73 : decode cX0_copyState 73 = .ok (.aload_n 0, 1) := by decide +kernel
theorem dX0_copyState_74 : decode cX0_copyState 74 = .ok (.aload_n 1, 1) := by decide +kernel
theorem dX0_copyState_75 : decode cX0_copyState 75 = .ok (.getfield 155, 3) := by decide +kernel
theorem dX0_copyState_78 : decode cX0_copyState 78 = .ok (.putfield 155, 3) := by decide +kernel
theorem dX0_copyState_81 : decode cX0_copyState 81 = .ok (.aload_n 0, 1) := by decide +kernel
theorem dX0_copyState_82 : decode cX0_copyState 82 = .ok (.aload_n 1, 1) := by decide +kernel
theorem dX0_copyState_83 : decode cX0_copyState 83 = .ok (.getfield 152, 3) := by decide +kernel
theorem dX0_copyState_86 : decode cX0_copyState 86 = .ok (.putfield 152, 3) := by decide +kernel
theorem dX0_copyState_89 : decode cX0_copyState 89 = .ok (.aload_n 0, 1) := by decide +kernel
theorem dX0_copyState_90 : decode cX0_copyState 90 = .ok (.aload_n 1, 1) := by decide +kernel
theorem dX0_copyState_91 : decode cX0_copyState 91 = .ok (.getfield 29, 3) := by decide +kernel
theorem dX0_copyState_94 : decode cX0_copyState 94 = .ok (.putfield 29, 3) := by decide +kernel
theorem dX0_copyState_97 : decode cX0_copyState 97 = .ok (.aload_n 0, 1) := by decide +kernel
theorem dX0_copyState_98 : decode cX0_copyState 98 = .ok (.aload_n 1, 1) := by decide +kernel
theorem dX0_copyState_99 : decode cX0_copyState 99 = .ok (.getfield 33, 3) := by decide +kernel
theorem dX0_copyState_102 : decode cX0_copyState 102 = .ok (.putfield 33, 3) := by decide +kernel
theorem dX0_copyState_105 : decode cX0_copyState 105 = .ok (.return_, 1) := by decide +kernel
theorem dX1_init_0 : decode cX1_init 0 = .ok (.aload_n 0, 1) := by decide +kernel
theorem dX1_init_1 : decode cX1_init 1 = .ok (.invokespecial 3, 3) := by decide +kernel
theorem dX1_init_4 : decode cX1_init 4 = .ok (.aload_n 0, 1) := by decide +kernel
theorem dX1_init_5 : decode cX1_init 5 = .ok (.bipush 10, 2) := by decide +kernel
theorem dX1_init_7 : decode cX1_init 7 = .ok (.newarray .int, 2) := by decide +kernel
theorem dX1_init_9 : decode cX1_init 9 = .ok (.putfield 9, 3) := by decide +kernel
theorem dX1_init_12 : decode cX1_init 12 = .ok (.aload_n 0, 1) := by decide +kernel
theorem dX1_init_13 : decode cX1_init 13 = .ok (.bipush 10, 2) := by decide +kernel
theorem dX1_init_15 : decode cX1_init 15 = .ok (.newarray .int, 2) := by decide +kernel
theorem dX1_init_17 : decode cX1_init 17 = .ok (.putfield 15, 3) := by decide +kernel
theorem dX1_init_20 : decode cX1_init 20 = .ok (.aload_n 0, 1) := by decide +kernel
theorem dX1_init_21 : decode cX1_init 21 = .ok (.bipush 10, 2) := by decide +kernel
theorem dX1_init_23 : decode cX1_init 23 = .ok (.newarray .int, 2) := by decide +kernel
theorem dX1_init_25 : decode cX1_init 25 = .ok (.putfield 18, 3) := by decide +kernel
theorem dX1_init_28 : decode cX1_init 28 = .ok (.aload_n 0, 1) := by decide +kernel
theorem dX1_init_29 : decode cX1_init 29 = .ok (.bipush 10, 2) := by decide +kernel
theorem dX1_init_31 : decode cX1_init 31 = .ok (.newarray .int, 2) := by decide +kernel
theorem dX1_init_33 : decode cX1_init 33 = .ok (.putfield 21, 3) := by decide +kernel
theorem dX1_init_36 : decode cX1_init 36 = .ok (.aload_n 0, 1) := by decide +kernel
theorem dX1_init_37 : decode cX1_init 37 = .ok (.bipush 10, 2) := by decide +kernel
theorem dX1_init_39 : decode cX1_init 39 = .ok (.newarray .int, 2) := by decide +kernel
theorem dX1_init_41 : decode cX1_init 41 = .ok (.putfield 24, 3) := by decide +kernel
theorem dX1_init_44 : decode cX1_init 44 = .ok (.aload_n 0, 1) := by decide +kernel
theorem dX1_init_45 : decode cX1_init 45 = .ok (.bipush 10, 2) := by decide +kernel
theorem dX1_init_47 : decode cX1_init 47 = .ok (.newarray .int, 2) := by decide +kernel
theorem dX1_init_49 : decode cX1_init 49 = .ok (.putfield 27, 3) := by decide +kernel
theorem dX1_init_52 : decode cX1_init 52 = .ok (.aload_n 0, 1) := by decide +kernel
theorem dX1_init_53 : decode cX1_init 53 = .ok (.bipush 10, 2) := by decide +kernel
theorem dX1_init_55 : decode cX1_init 55 = .ok (.newarray .int, 2) := by decide +kernel
theorem dX1_init_57 : decode cX1_init 57 = .ok (.putfield 30, 3) := by decide +kernel
theorem dX1_init_60 : decode cX1_init 60 = .ok (.aload_n 0, 1) := by decide +kernel
theorem dX1_init_61 : decode cX1_init 61 = .ok (.bipush 10, 2) := by decide +kernel
theorem dX1_init_63 : decode cX1_init 63 = .ok (.newarray .int, 2) := by decide +kernel
theorem dX1_init_65 : decode cX1_init 65 = .ok (.putfield 33, 3) := by decide +kernel
theorem dX1_init_68 : decode cX1_init 68 = .ok (.return_, 1) := by decide +kernel
theorem dX1_has_0 : decode cX1_has 0 = .ok (.iload_n 1, 1) := by decide +kernel
theorem dX1_has_1 : decode cX1_has 1 = .ok (.ifCond .lt 15, 3) := by decide +kernel
theorem dX1_has_4 : decode cX1_has 4 = .ok (.iload_n 1, 1) := by decide +kernel
theorem dX1_has_5 : decode cX1_has 5 = .ok (.aload_n 0, 1) := by decide +kernel
theorem dX1_has_6 : decode cX1_has 6 = .ok (.getfield 36, 3) := by decide +kernel
theorem dX1_has_9 : decode cX1_has 9 = .ok (.if_icmp .ge 7, 3) := by decide +kernel
theorem dX1_has_12 : decode cX1_has 12 = .ok (.iconst 1, 1) := by decide +kernel
theorem dX1_has_13 : decode cX1_has 13 = .ok (.goto 4, 3) := by decide +kernel
theorem dX1_has_16 : decode cX1_has 16 = .ok (.iconst 0, 1) := by decide +kernel
theorem dX1_has_17 : decode cX1_has 17 = .ok (.ireturn, 1) := by decide +kernel
set_option maxRecDepth 20000 in
theorem ggX1_takeIn_X5_put : GoodIn wsX1_takeIn wsX5_put := goodIn_r _ [12] (by decide +kernel) (by decide +kernel)
set_option maxRecDepth 20000 in
theorem gX1_takeIn_X5_put_n40 : GoodIn wsX1_takeIn (wsX5_put) := ggX1_takeIn_X5_put
theorem dX1_takeIn_0 : decode cX1_takeIn 0 = .ok (.aload_n 0, 1) := by decide +kernel
theorem dX1_takeIn_1 : decode cX1_takeIn 1 = .ok (.getfield 36, 3) := by decide +kernel
theorem dX1_takeIn_4 : decode cX1_takeIn 4 = .ok (.istore 4, 2) := by decide +kernel
theorem dX1_takeIn_6 : decode cX1_takeIn 6 = .ok (.aload_n 0, 1) := by decide +kernel
theorem dX1_takeIn_7 : decode cX1_takeIn 7 = .ok (.getfield 9, 3) := by decide +kernel
theorem dX1_takeIn_10 : decode cX1_takeIn 10 = .ok (.iload 4, 2) := by decide +kernel
theorem dX1_takeIn_12 : decode cX1_takeIn 12 = .ok (.iload_n 1, 1) := by decide +kernel
theorem dX1_takeIn_13 : decode cX1_takeIn 13 = .ok (.invokestatic 40, 3) := by decide +kernel
theorem dX1_takeIn_16 : decode cX1_takeIn 16 = .ok (.aload_n 0, 1) := by decide +kernel
theorem dX1_takeIn_17 : decode cX1_takeIn 17 = .ok (.getfield 15, 3) := by decide +kernel
theorem dX1_takeIn_20 : decode cX1_takeIn 20 = .ok (.iload 4, 2) := by decide +kernel
theorem dX1_takeIn_22 : decode cX1_takeIn 22 = .ok (.iload_n 3, 1) := by decide +kernel
theorem dX1_takeIn_23 : decode cX1_takeIn 23 = .ok (.invokestatic 40, 3) := by decide +kernel
theorem dX1_takeIn_26 : decode cX1_takeIn 26 = .ok (.aload_n 0, 1) := by decide +kernel
theorem dX1_takeIn_27 : decode cX1_takeIn 27 = .ok (.getfield 18, 3) := by decide +kernel
theorem dX1_takeIn_30 : decode cX1_takeIn 30 = .ok (.iload 4, 2) := by decide +kernel
theorem dX1_takeIn_32 : decode cX1_takeIn 32 = .ok (.iconst 0, 1) := by decide +kernel
theorem dX1_takeIn_33 : decode cX1_takeIn 33 = .ok (.invokestatic 40, 3) := by decide +kernel
theorem dX1_takeIn_36 : decode cX1_takeIn 36 = .ok (.aload_n 0, 1) := by decide +kernel
theorem dX1_takeIn_37 : decode cX1_takeIn 37 = .ok (.getfield 21, 3) := by decide +kernel
theorem dX1_takeIn_40 : decode cX1_takeIn 40 = .ok (.iload 4, 2) := by decide +kernel
theorem dX1_takeIn_42 : decode cX1_takeIn 42 = .ok (.iload_n 2, 1) := by decide +kernel
theorem dX1_takeIn_43 : decode cX1_takeIn 43 = .ok (.invokestatic 40, 3) := by decide +kernel
theorem dX1_takeIn_46 : decode cX1_takeIn 46 = .ok (.aload_n 0, 1) := by decide +kernel
theorem dX1_takeIn_47 : decode cX1_takeIn 47 = .ok (.getfield 24, 3) := by decide +kernel
theorem dX1_takeIn_50 : decode cX1_takeIn 50 = .ok (.iload 4, 2) := by decide +kernel
theorem dX1_takeIn_52 : decode cX1_takeIn 52 = .ok (.iconst (-1), 1) := by decide +kernel
theorem dX1_takeIn_53 : decode cX1_takeIn 53 = .ok (.invokestatic 40, 3) := by decide +kernel
theorem dX1_takeIn_56 : decode cX1_takeIn 56 = .ok (.aload_n 0, 1) := by decide +kernel
theorem dX1_takeIn_57 : decode cX1_takeIn 57 = .ok (.getfield 27, 3) := by decide +kernel
theorem dX1_takeIn_60 : decode cX1_takeIn 60 = .ok (.iload 4, 2) := by decide +kernel
theorem dX1_takeIn_62 : decode cX1_takeIn 62 = .ok (.iconst (-1), 1) := by decide +kernel
theorem dX1_takeIn_63 : decode cX1_takeIn 63 = .ok (.invokestatic 40, 3) := by decide +kernel
theorem dX1_takeIn_66 : decode cX1_takeIn 66 = .ok (.aload_n 0, 1) := by decide +kernel
theorem dX1_takeIn_67 : decode cX1_takeIn 67 = .ok (.getfield 30, 3) := by decide +kernel
theorem dX1_takeIn_70 : decode cX1_takeIn 70 = .ok (.iload 4, 2) := by decide +kernel
theorem dX1_takeIn_72 : decode cX1_takeIn 72 = .ok (.iconst 0, 1) := by decide +kernel
theorem dX1_takeIn_73 : decode cX1_takeIn 73 = .ok (.invokestatic 40, 3) := by decide +kernel
theorem dX1_takeIn_76 : decode cX1_takeIn 76 = .ok (.aload_n 0, 1) := by decide +kernel
theorem dX1_takeIn_77 : decode cX1_takeIn 77 = .ok (.getfield 33, 3) := by decide +kernel
theorem dX1_takeIn_80 : decode cX1_takeIn 80 = .ok (.iload 4, 2) := by decide +kernel
theorem dX1_takeIn_82 : decode cX1_takeIn 82 = .ok (.iconst 0, 1) := by decide +kernel
theorem dX1_takeIn_83 : decode cX1_takeIn 83 = .ok (.invokestatic 40, 3) := by decide +kernel
theorem dX1_takeIn_86 : decode cX1_takeIn 86 = .ok (.aload_n 0, 1) := by decide +kernel
theorem dX1_takeIn_87 : decode cX1_takeIn 87 = .ok (.dup, 1) := by decide +kernel
theorem dX1_takeIn_88 : decode cX1_takeIn 88 = .ok (.getfield 36, 3) := by decide +kernel
theorem dX1_takeIn_91 : decode cX1_takeIn 91 = .ok (.iconst 1, 1) := by decide +kernel
theorem dX1_takeIn_92 : decode cX1_takeIn 92 = .ok (.iadd, 1) := by decide +kernel
theorem dX1_takeIn_93 : decode cX1_takeIn 93 = .ok (.putfield 36, 3) := by decide +kernel
theorem dX1_takeIn_96 : decode cX1_takeIn 96 = .ok (.iload 4, 2) := by decide +kernel
theorem dX1_takeIn_98 : decode cX1_takeIn 98 = .ok (.ireturn, 1) := by decide +kernel
set_option maxRecDepth 20000 in
theorem ggX1_takeOut_X1_closeGap : GoodIn wsX1_takeOut wsX1_closeGap := goodIn_r _ [14, 9, 15, 16, 17, 18, 19, 23, 24, 25, 26, 27, 28, 29, 30, 31] (by decide +kernel) (by decide +kernel)
set_option maxRecDepth 20000 in
theorem gX1_takeOut_X1_closeGap : GoodIn wsX1_takeOut (wsV RX1 44 RX1 yX1_closeGap wsX1_closeGap) := goodIn_app (goodIn_of _ (by decide +kernel)) ggX1_takeOut_X1_closeGap
set_option maxRecDepth 20000 in
theorem ggX1_takeOut_X5_at : GoodIn wsX1_takeOut wsX5_at := goodIn_r _ [17] (by decide +kernel) (by decide +kernel)
set_option maxRecDepth 20000 in
theorem gX1_takeOut_X5_at_n48 : GoodIn wsX1_takeOut (wsX5_at) := ggX1_takeOut_X5_at
set_option maxRecDepth 20000 in
theorem ggX1_takeOut_X1_numberWithout : GoodIn wsX1_takeOut wsX1_numberWithout := goodIn_r _ [22] (by decide +kernel) (by decide +kernel)
set_option maxRecDepth 20000 in
theorem gX1_takeOut_X1_numberWithout : GoodIn wsX1_takeOut (va_wsS RX1 52 yX1_numberWithout wsX1_numberWithout) := goodIn_app (goodIn_of _ (by decide +kernel)) ggX1_takeOut_X1_numberWithout
set_option maxRecDepth 20000 in
theorem ggX1_takeOut_X5_put : GoodIn wsX1_takeOut wsX5_put := goodIn_r _ [19] (by decide +kernel) (by decide +kernel)
set_option maxRecDepth 20000 in
theorem gX1_takeOut_X5_put_n40 : GoodIn wsX1_takeOut (wsX5_put) := ggX1_takeOut_X5_put
theorem dX1_takeOut_0 : decode cX1_takeOut 0 = .ok (.aload_n 0, 1) := by decide +kernel
theorem dX1_takeOut_1 : decode cX1_takeOut 1 = .ok (.aload_n 0, 1) := by decide +kernel
theorem dX1_takeOut_2 : decode cX1_takeOut 2 = .ok (.getfield 9, 3) := by decide +kernel
theorem dX1_takeOut_5 : decode cX1_takeOut 5 = .ok (.iload_n 1, 1) := by decide +kernel
theorem dX1_takeOut_6 : decode cX1_takeOut 6 = .ok (.invokevirtual 44, 3) := by decide +kernel
theorem dX1_takeOut_9 : decode cX1_takeOut 9 = .ok (.aload_n 0, 1) := by decide +kernel
theorem dX1_takeOut_10 : decode cX1_takeOut 10 = .ok (.aload_n 0, 1) := by decide +kernel
theorem dX1_takeOut_11 : decode cX1_takeOut 11 = .ok (.getfield 15, 3) := by decide +kernel
theorem dX1_takeOut_14 : decode cX1_takeOut 14 = .ok (.iload_n 1, 1) := by decide +kernel
theorem dX1_takeOut_15 : decode cX1_takeOut 15 = .ok (.invokevirtual 44, 3) := by decide +kernel
theorem dX1_takeOut_18 : decode cX1_takeOut 18 = .ok (.aload_n 0, 1) := by decide +kernel
theorem dX1_takeOut_19 : decode cX1_takeOut 19 = .ok (.aload_n 0, 1) := by decide +kernel
theorem dX1_takeOut_20 : decode cX1_takeOut 20 = .ok (.getfield 18, 3) := by decide +kernel
theorem dX1_takeOut_23 : decode cX1_takeOut 23 = .ok (.iload_n 1, 1) := by decide +kernel
theorem dX1_takeOut_24 : decode cX1_takeOut 24 = .ok (.invokevirtual 44, 3) := by decide +kernel
theorem dX1_takeOut_27 : decode cX1_takeOut 27 = .ok (.aload_n 0, 1) := by decide +kernel
theorem dX1_takeOut_28 : decode cX1_takeOut 28 = .ok (.aload_n 0, 1) := by decide +kernel
theorem dX1_takeOut_29 : decode cX1_takeOut 29 = .ok (.getfield 21, 3) := by decide +kernel
theorem dX1_takeOut_32 : decode cX1_takeOut 32 = .ok (.iload_n 1, 1) := by decide +kernel
theorem dX1_takeOut_33 : decode cX1_takeOut 33 = .ok (.invokevirtual 44, 3) := by decide +kernel
theorem dX1_takeOut_36 : decode cX1_takeOut 36 = .ok (.aload_n 0, 1) := by decide +kernel
theorem dX1_takeOut_37 : decode cX1_takeOut 37 = .ok (.aload_n 0, 1) := by decide +kernel
theorem dX1_takeOut_38 : decode cX1_takeOut 38 = .ok (.getfield 24, 3) := by decide +kernel
theorem dX1_takeOut_41 : decode cX1_takeOut 41 = .ok (.iload_n 1, 1) := by decide +kernel
theorem dX1_takeOut_42 : decode cX1_takeOut 42 = .ok (.invokevirtual 44, 3) := by decide +kernel
theorem dX1_takeOut_45 : decode cX1_takeOut 45 = .ok (.aload_n 0, 1) := by decide +kernel
theorem dX1_takeOut_46 : decode cX1_takeOut 46 = .ok (.aload_n 0, 1) := by decide +kernel
theorem dX1_takeOut_47 : decode cX1_takeOut 47 = .ok (.getfield 27, 3) := by decide +kernel
theorem dX1_takeOut_50 : decode cX1_takeOut 50 = .ok (.iload_n 1, 1) := by decide +kernel
theorem dX1_takeOut_51 : decode cX1_takeOut 51 = .ok (.invokevirtual 44, 3) := by decide +kernel
theorem dX1_takeOut_54 : decode cX1_takeOut 54 = .ok (.aload_n 0, 1) := by decide +kernel
theorem dX1_takeOut_55 : decode cX1_takeOut 55 = .ok (.aload_n 0, 1) := by decide +kernel
theorem dX1_takeOut_56 : decode cX1_takeOut 56 = .ok (.getfield 30, 3) := by decide +kernel
theorem dX1_takeOut_59 : decode cX1_takeOut 59 = .ok (.iload_n 1, 1) := by decide +kernel
theorem dX1_takeOut_60 : decode cX1_takeOut 60 = .ok (.invokevirtual 44, 3) := by decide +kernel
theorem dX1_takeOut_63 : decode cX1_takeOut 63 = .ok (.aload_n 0, 1) := by decide +kernel
theorem dX1_takeOut_64 : decode cX1_takeOut 64 = .ok (.aload_n 0, 1) := by decide +kernel
theorem dX1_takeOut_65 : decode cX1_takeOut 65 = .ok (.getfield 33, 3) := by decide +kernel
theorem dX1_takeOut_68 : decode cX1_takeOut 68 = .ok (.iload_n 1, 1) := by decide +kernel
theorem dX1_takeOut_69 : decode cX1_takeOut 69 = .ok (.invokevirtual 44, 3) := by decide +kernel
theorem dX1_takeOut_72 : decode cX1_takeOut 72 = .ok (.aload_n 0, 1) := by decide +kernel
theorem dX1_takeOut_73 : decode cX1_takeOut 73 = .ok (.dup, 1) := by decide +kernel
theorem dX1_takeOut_74 : decode cX1_takeOut 74 = .ok (.getfield 36, 3) := by decide +kernel
theorem dX1_takeOut_77 : decode cX1_takeOut 77 = .ok (.iconst 1, 1) := by decide +kernel
theorem dX1_takeOut_78 : decode cX1_takeOut 78 = .ok (.isub, 1) := by decide +kernel
theorem dX1_takeOut_79 : decode cX1_takeOut 79 = .ok (.putfield 36, 3) := by decide +kernel
theorem dX1_takeOut_82 : decode cX1_takeOut 82 = .ok (.iconst 0, 1) := by decide +kernel
theorem dX1_takeOut_83 : decode cX1_takeOut 83 = .ok (.istore_n 2, 1) := by decide +kernel
theorem dX1_takeOut_84 : decode cX1_takeOut 84 = .ok (.iload_n 2, 1) := by decide +kernel
theorem dX1_takeOut_85 : decode cX1_takeOut 85 = .ok (.aload_n 0, 1) := by decide +kernel
theorem dX1_takeOut_86 : decode cX1_takeOut 86 = .ok (.getfield 36, 3) := by decide +kernel
theorem dX1_takeOut_89 : decode cX1_takeOut 89 = .ok (.if_icmp .ge 49, 3) := by decide +kernel
theorem dX1_takeOut_92 : decode cX1_takeOut 92 = .ok (.aload_n 0, 1) := by decide +kernel
theorem dX1_takeOut_93 : decode cX1_takeOut 93 = .ok (.getfield 24, 3) := by decide +kernel
theorem dX1_takeOut_96 : decode cX1_takeOut 96 = .ok (.iload_n 2, 1) := by decide +kernel
theorem dX1_takeOut_97 : decode cX1_takeOut 97 = .ok (.iload_n 1, 1) := by decide +kernel
theorem dX1_takeOut_98 : decode cX1_takeOut 98 = .ok (.aload_n 0, 1) := by decide +kernel
theorem dX1_takeOut_99 : decode cX1_takeOut 99 = .ok (.getfield 24, 3) := by decide +kernel
theorem dX1_takeOut_102 : decode cX1_takeOut 102 = .ok (.iload_n 2, 1) := by decide +kernel
theorem dX1_takeOut_103 : decode cX1_takeOut 103 = .ok (.invokestatic 48, 3) := by decide +kernel
theorem dX1_takeOut_106 : decode cX1_takeOut 106 = .ok (.invokestatic 52, 3) := by decide +kernel
theorem dX1_takeOut_109 : decode cX1_takeOut 109 = .ok (.invokestatic 40, 3) := by decide +kernel
theorem dX1_takeOut_112 : decode cX1_takeOut 112 = .ok (.aload_n 0, 1) := by decide +kernel
theorem dX1_takeOut_113 : decode cX1_takeOut 113 = .ok (.getfield 27, 3) := by decide +kernel
theorem dX1_takeOut_116 : decode cX1_takeOut 116 = .ok (.iload_n 2, 1) := by decide +kernel
theorem dX1_takeOut_117 : decode cX1_takeOut 117 = .ok (.iload_n 1, 1) := by decide +kernel
theorem dX1_takeOut_118 : decode cX1_takeOut 118 = .ok (.aload_n 0, 1) := by decide +kernel
theorem dX1_takeOut_119 : decode cX1_takeOut 119 = .ok (.getfield 27, 3) := by decide +kernel
theorem dX1_takeOut_122 : decode cX1_takeOut 122 = .ok (.iload_n 2, 1) := by decide +kernel
theorem dX1_takeOut_123 : decode cX1_takeOut 123 = .ok (.invokestatic 48, 3) := by decide +kernel
theorem dX1_takeOut_126 : decode cX1_takeOut 126 = .ok (.invokestatic 52, 3) := by decide +kernel
theorem dX1_takeOut_129 : decode cX1_takeOut 129 = .ok (.invokestatic 40, 3) := by decide +kernel
theorem dX1_takeOut_132 : decode cX1_takeOut 132 = .ok (.iinc 2 1, 3) := by decide +kernel
theorem dX1_takeOut_135 : decode cX1_takeOut 135 = .ok (.goto (-51), 3) := by decide +kernel
theorem dX1_takeOut_138 : decode cX1_takeOut 138 = .ok (.return_, 1) := by decide +kernel
set_option maxRecDepth 20000 in
theorem ggX1_closeGap_X5_at : GoodIn wsX1_closeGap wsX5_at := goodIn_r _ [4] (by decide +kernel) (by decide +kernel)
set_option maxRecDepth 20000 in
theorem gX1_closeGap_X5_at_n48 : GoodIn wsX1_closeGap (wsX5_at) := ggX1_closeGap_X5_at
set_option maxRecDepth 20000 in
theorem ggX1_closeGap_X5_put : GoodIn wsX1_closeGap wsX5_put := goodIn_r _ [6] (by decide +kernel) (by decide +kernel)
