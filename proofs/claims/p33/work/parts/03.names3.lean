set_option maxRecDepth 20000 in
theorem gX5_ifOpened_X5_isGate : GoodIn wsX5_ifOpened (va_wsS RX5 118 yX5_isGate wsX5_isGate) := goodIn_app (goodIn_of _ (by decide +kernel)) ggX5_ifOpened_X5_isGate
set_option maxRecDepth 20000 in
theorem ggX5_ifOpened_X5_needIndex : GoodIn wsX5_ifOpened wsX5_needIndex := goodIn_ca (goodIn_r _ [22, 7, 8] (by decide +kernel) (by decide +kernel)) (goodIn_sub (fun _ h => List.mem_cons_of_mem _ (List.mem_append_left _ (List.mem_append_right _ h))) (by decide +kernel))
set_option maxRecDepth 20000 in
theorem gX5_ifOpened_X5_needIndex : GoodIn wsX5_ifOpened (va_wsS RX5 121 yX5_needIndex wsX5_needIndex) := goodIn_app (goodIn_of _ (by decide +kernel)) ggX5_ifOpened_X5_needIndex
set_option maxRecDepth 20000 in
theorem ggX5_ifOpened_X5_isWithin : GoodIn wsX5_ifOpened wsX5_isWithin := goodIn_r _ [19] (by decide +kernel) (by decide +kernel)
set_option maxRecDepth 20000 in
theorem gX5_ifOpened_X5_isWithin : GoodIn wsX5_ifOpened (va_wsS RX5 37 yX5_isWithin wsX5_isWithin) := goodIn_app (goodIn_of _ (by decide +kernel)) ggX5_ifOpened_X5_isWithin
set_option maxRecDepth 20000 in
theorem ggX5_ifOpened_X5_needArgument : GoodIn wsX5_ifOpened wsX5_needArgument := goodIn_ca (goodIn_r _ [25, 26, 27] (by decide +kernel) (by decide +kernel)) (goodIn_sub (fun _ h => List.mem_cons_of_mem _ (List.mem_append_right _ h)) (by decide +kernel))
set_option maxRecDepth 20000 in
theorem gX5_ifOpened_X5_needArgument : GoodIn wsX5_ifOpened (va_wsS RX5 41 yX5_needArgument wsX5_needArgument) := goodIn_app (goodIn_of _ (by decide +kernel)) ggX5_ifOpened_X5_needArgument
set_option maxRecDepth 20000 in
theorem ggX5_ifOpened_X0_gateNumber : GoodIn wsX5_ifOpened wsX0_gateNumber := goodIn_r _ [31, 32, 33, 34, 35, 36, 29, 37, 38, 39, 40, 41, 42, 43, 44, 45, 46, 47, 10, 48, 49, 50, 51, 52, 5, 53, 54, 55, 56, 57, 58, 59, 60, 61, 62, 63, 64, 65, 66, 67, 68, 69, 70, 71, 72, 73, 74, 75, 76, 77, 83, 84, 85, 86, 87, 88, 89, 90, 91, 92, 93, 94, 95, 96, 97, 98, 99, 100, 101, 102, 103] (by decide +kernel) (by decide +kernel)
set_option maxRecDepth 20000 in
theorem gX5_ifOpened_X0_gateNumber_n203 : GoodIn wsX5_ifOpened (wsX0_gateNumber) := ggX5_ifOpened_X0_gateNumber
theorem dX5_ifOpened_0 : decode cX5_ifOpened 0 = .ok (.aload_n 0, 1) := by decide +kernel
theorem dX5_ifOpened_1 : decode cX5_ifOpened 1 = .ok (.iload_n 1, 1) := by decide +kernel
theorem dX5_ifOpened_2 : decode cX5_ifOpened 2 = .ok (.invokevirtual 66, 3) := by decide +kernel
theorem dX5_ifOpened_5 : decode cX5_ifOpened 5 = .ok (.iload_n 2, 1) := by decide +kernel
theorem dX5_ifOpened_6 : decode cX5_ifOpened 6 = .ok (.invokestatic 118, 3) := by decide +kernel
theorem dX5_ifOpened_9 : decode cX5_ifOpened 9 = .ok (.invokestatic 121, 3) := by decide +kernel
theorem dX5_ifOpened_12 : decode cX5_ifOpened 12 = .ok (.iload_n 3, 1) := by decide +kernel
theorem dX5_ifOpened_13 : decode cX5_ifOpened 13 = .ok (.iconst 0, 1) := by decide +kernel
theorem dX5_ifOpened_14 : decode cX5_ifOpened 14 = .ok (.iconst 3, 1) := by decide +kernel
theorem dX5_ifOpened_15 : decode cX5_ifOpened 15 = .ok (.invokestatic 37, 3) := by decide +kernel
theorem dX5_ifOpened_18 : decode cX5_ifOpened 18 = .ok (.invokestatic 41, 3) := by decide +kernel
theorem dX5_ifOpened_21 : decode cX5_ifOpened 21 = .ok (.aload_n 0, 1) := by decide +kernel
theorem dX5_ifOpened_22 : decode cX5_ifOpened 22 = .ok (.getfield 10, 3) := by decide +kernel
theorem dX5_ifOpened_25 : decode cX5_ifOpened 25 = .ok (.iload_n 1, 1) := by decide +kernel
theorem dX5_ifOpened_26 : decode cX5_ifOpened 26 = .ok (.iload_n 2, 1) := by decide +kernel
theorem dX5_ifOpened_27 : decode cX5_ifOpened 27 = .ok (.iload_n 3, 1) := by decide +kernel
theorem dX5_ifOpened_28 : decode cX5_ifOpened 28 = .ok (.invokevirtual 203, 3) := by decide +kernel
theorem dX5_ifOpened_31 : decode cX5_ifOpened 31 = .ok (.ireturn, 1) := by decide +kernel
set_option maxRecDepth 20000 in
theorem ggX5_bestGate_X5_needGuest : GoodIn wsX5_bestGate wsX5_needGuest := goodIn_ca (goodIn_r _ [6, 7, 8, 1, 9, 10, 11, 12, 13, 50, 51, 52, 53, 54, 55, 56, 57, 58, 59, 60, 61, 62, 63, 64, 65, 66, 67, 68, 69, 70, 71, 72, 73, 74, 75] (by decide +kernel) (by decide +kernel)) (goodIn_sub (fun _ h => List.mem_cons_of_mem _ (List.mem_append_right _ h)) (by decide +kernel))
set_option maxRecDepth 20000 in
theorem gX5_bestGate_X5_needGuest : GoodIn wsX5_bestGate (wsV RX5 66 RX5 yX5_needGuest wsX5_needGuest) := goodIn_app (goodIn_of _ (by decide +kernel)) ggX5_bestGate_X5_needGuest
set_option maxRecDepth 20000 in
theorem ggX5_bestGate_X0_gateOfFewestElls : GoodIn wsX5_bestGate wsX0_gateOfFewestElls := goodIn_r _ [17, 18, 19, 20, 21, 15, 22, 23, 24, 25, 26, 27, 28, 29, 30, 31, 32, 33, 10, 34, 35, 36, 37, 38, 5, 39, 40, 41, 42, 43, 44, 45, 46, 47, 48, 49, 55, 56, 57, 58, 59, 60, 61, 62, 63, 64, 65, 66, 76, 77, 67, 68, 69, 70, 71, 72, 73, 74, 75] (by decide +kernel) (by decide +kernel)
set_option maxRecDepth 20000 in
theorem gX5_bestGate_X0_gateOfFewestElls_n206 : GoodIn wsX5_bestGate (wsX0_gateOfFewestElls) := ggX5_bestGate_X0_gateOfFewestElls
theorem dX5_bestGate_0 : decode cX5_bestGate 0 = .ok (.aload_n 0, 1) := by decide +kernel
theorem dX5_bestGate_1 : decode cX5_bestGate 1 = .ok (.iload_n 1, 1) := by decide +kernel
theorem dX5_bestGate_2 : decode cX5_bestGate 2 = .ok (.invokevirtual 66, 3) := by decide +kernel
theorem dX5_bestGate_5 : decode cX5_bestGate 5 = .ok (.aload_n 0, 1) := by decide +kernel
theorem dX5_bestGate_6 : decode cX5_bestGate 6 = .ok (.getfield 10, 3) := by decide +kernel
theorem dX5_bestGate_9 : decode cX5_bestGate 9 = .ok (.iload_n 1, 1) := by decide +kernel
theorem dX5_bestGate_10 : decode cX5_bestGate 10 = .ok (.invokevirtual 206, 3) := by decide +kernel
theorem dX5_bestGate_13 : decode cX5_bestGate 13 = .ok (.ireturn, 1) := by decide +kernel
set_option maxRecDepth 20000 in
theorem ggX5_freeIn_X5_needGuest : GoodIn wsX5_freeIn wsX5_needGuest := goodIn_ca (goodIn_r _ [6, 7, 8, 1, 9, 10, 11, 12, 13, 54, 55, 56, 57, 58, 59, 60, 61, 62, 63, 64, 65, 66, 67, 68, 69, 70, 71, 72, 73, 74, 75, 76, 77, 78, 79] (by decide +kernel) (by decide +kernel)) (goodIn_sub (fun _ h => List.mem_cons_of_mem _ (List.mem_append_right _ h)) (by decide +kernel))
set_option maxRecDepth 20000 in
theorem gX5_freeIn_X5_needGuest : GoodIn wsX5_freeIn (wsV RX5 66 RX5 yX5_needGuest wsX5_needGuest) := goodIn_app (goodIn_of _ (by decide +kernel)) ggX5_freeIn_X5_needGuest
set_option maxRecDepth 20000 in
theorem ggX5_freeIn_X5_isGate : GoodIn wsX5_freeIn wsX5_isGate := goodIn_r _ [16, 17, 18, 5, 19] (by decide +kernel) (by decide +kernel)
set_option maxRecDepth 20000 in
theorem gX5_freeIn_X5_isGate : GoodIn wsX5_freeIn (va_wsS RX5 118 yX5_isGate wsX5_isGate) := goodIn_app (goodIn_of _ (by decide +kernel)) ggX5_freeIn_X5_isGate
set_option maxRecDepth 20000 in
theorem ggX5_freeIn_X5_needIndex : GoodIn wsX5_freeIn wsX5_needIndex := goodIn_ca (goodIn_r _ [22, 7, 8] (by decide +kernel) (by decide +kernel)) (goodIn_sub (fun _ h => List.mem_cons_of_mem _ (List.mem_append_right _ h)) (by decide +kernel))
set_option maxRecDepth 20000 in
theorem gX5_freeIn_X5_needIndex : GoodIn wsX5_freeIn (va_wsS RX5 121 yX5_needIndex wsX5_needIndex) := goodIn_app (goodIn_of _ (by decide +kernel)) ggX5_freeIn_X5_needIndex
set_option maxRecDepth 20000 in
theorem ggX5_freeIn_X0_nightsUntilAllowed : GoodIn wsX5_freeIn wsX0_nightsUntilAllowed := goodIn_r _ [26, 27, 28, 29, 30, 24, 31, 32, 33, 10, 34, 35, 36, 37, 38, 39, 40, 41, 42, 43, 5, 44, 45, 46, 47, 48, 49, 50, 51, 52, 53, 59, 60, 61, 62, 63, 64, 65, 66, 67, 68, 69, 70, 71, 72, 73, 74, 75, 76, 77, 78, 79] (by decide +kernel) (by decide +kernel)
set_option maxRecDepth 20000 in
theorem gX5_freeIn_X0_nightsUntilAllowed_n209 : GoodIn wsX5_freeIn (wsX0_nightsUntilAllowed) := ggX5_freeIn_X0_nightsUntilAllowed
theorem dX5_freeIn_0 : decode cX5_freeIn 0 = .ok (.aload_n 0, 1) := by decide +kernel
theorem dX5_freeIn_1 : decode cX5_freeIn 1 = .ok (.iload_n 1, 1) := by decide +kernel
theorem dX5_freeIn_2 : decode cX5_freeIn 2 = .ok (.invokevirtual 66, 3) := by decide +kernel
theorem dX5_freeIn_5 : decode cX5_freeIn 5 = .ok (.iload_n 2, 1) := by decide +kernel
theorem dX5_freeIn_6 : decode cX5_freeIn 6 = .ok (.invokestatic 118, 3) := by decide +kernel
theorem dX5_freeIn_9 : decode cX5_freeIn 9 = .ok (.invokestatic 121, 3) := by decide +kernel
theorem dX5_freeIn_12 : decode cX5_freeIn 12 = .ok (.aload_n 0, 1) := by decide +kernel
theorem dX5_freeIn_13 : decode cX5_freeIn 13 = .ok (.getfield 10, 3) := by decide +kernel
theorem dX5_freeIn_16 : decode cX5_freeIn 16 = .ok (.iload_n 1, 1) := by decide +kernel
theorem dX5_freeIn_17 : decode cX5_freeIn 17 = .ok (.iload_n 2, 1) := by decide +kernel
theorem dX5_freeIn_18 : decode cX5_freeIn 18 = .ok (.invokevirtual 209, 3) := by decide +kernel
theorem dX5_freeIn_21 : decode cX5_freeIn 21 = .ok (.ireturn, 1) := by decide +kernel
set_option maxRecDepth 20000 in
theorem ggX5_decentShare_X0_shareOfDecent : GoodIn wsX5_decentShare wsX0_shareOfDecent := goodIn_r _ [5, 6, 7, 8, 9, 10, 3, 11, 12, 13, 14, 15, 16, 17, 18, 19, 20, 21, 22, 23, 24, 25, 26, 27, 28, 29, 30, 31, 32, 33, 34, 40, 41, 42, 43, 44, 45, 46, 47, 48, 49, 50, 51, 52, 53, 54, 55, 56, 57, 58, 59, 60] (by decide +kernel) (by decide +kernel)
set_option maxRecDepth 20000 in
theorem gX5_decentShare_X0_shareOfDecent_n212 : GoodIn wsX5_decentShare (wsX0_shareOfDecent) := ggX5_decentShare_X0_shareOfDecent
theorem dX5_decentShare_0 : decode cX5_decentShare 0 = .ok (.aload_n 0, 1) := by decide +kernel
theorem dX5_decentShare_1 : decode cX5_decentShare 1 = .ok (.getfield 10, 3) := by decide +kernel
theorem dX5_decentShare_4 : decode cX5_decentShare 4 = .ok (.invokevirtual 212, 3) := by decide +kernel
theorem dX5_decentShare_7 : decode cX5_decentShare 7 = .ok (.dreturn, 1) := by decide +kernel
theorem dX5_isWithin_0 : decode cX5_isWithin 0 = .ok (.iload_n 0, 1) := by decide +kernel
theorem dX5_isWithin_1 : decode cX5_isWithin 1 = .ok (.iload_n 1, 1) := by decide +kernel
theorem dX5_isWithin_2 : decode cX5_isWithin 2 = .ok (.if_icmp .lt 12, 3) := by decide +kernel
theorem dX5_isWithin_5 : decode cX5_isWithin 5 = .ok (.iload_n 0, 1) := by decide +kernel
theorem dX5_isWithin_6 : decode cX5_isWithin 6 = .ok (.iload_n 2, 1) := by decide +kernel
theorem dX5_isWithin_7 : decode cX5_isWithin 7 = .ok (.if_icmp .gt 7, 3) := by decide +kernel
theorem dX5_isWithin_10 : decode cX5_isWithin 10 = .ok (.iconst 1, 1) := by decide +kernel
theorem dX5_isWithin_11 : decode cX5_isWithin 11 = .ok (.goto 4, 3) := by decide +kernel
theorem dX5_isWithin_14 : decode cX5_isWithin 14 = .ok (.iconst 0, 1) := by decide +kernel
theorem dX5_isWithin_15 : decode cX5_isWithin 15 = .ok (.ireturn, 1) := by decide +kernel
set_option maxRecDepth 20000 in
theorem ggX5_isGate_X5_isWithin : GoodIn wsX5_isGate wsX5_isWithin := goodIn_r _ [4] (by decide +kernel) (by decide +kernel)
set_option maxRecDepth 20000 in
theorem gX5_isGate_X5_isWithin : GoodIn wsX5_isGate (va_wsS RX5 37 yX5_isWithin wsX5_isWithin) := goodIn_app (goodIn_of _ (by decide +kernel)) ggX5_isGate_X5_isWithin
theorem dX5_isGate_0 : decode cX5_isGate 0 = .ok (.iload_n 0, 1) := by decide +kernel
theorem dX5_isGate_1 : decode cX5_isGate 1 = .ok (.iconst 0, 1) := by decide +kernel
theorem dX5_isGate_2 : decode cX5_isGate 2 = .ok (.iconst 2, 1) := by decide +kernel
theorem dX5_isGate_3 : decode cX5_isGate 3 = .ok (.invokestatic 37, 3) := by decide +kernel
theorem dX5_isGate_6 : decode cX5_isGate 6 = .ok (.ireturn, 1) := by decide +kernel
set_option maxRecDepth 20000 in
theorem ggX5_needGuest_X1_has : GoodIn wsX5_needGuest wsX1_has := goodIn_r _ [7, 8, 26, 27, 28, 29, 30, 31, 32, 33, 34] (by decide +kernel) (by decide +kernel)
set_option maxRecDepth 20000 in
theorem gX5_needGuest_X1_has_n236 : GoodIn wsX5_needGuest (wsX1_has) := ggX5_needGuest_X1_has
theorem dX5_needGuest_0 : decode cX5_needGuest 0 = .ok (.aload_n 0, 1) := by decide +kernel
theorem dX5_needGuest_1 : decode cX5_needGuest 1 = .ok (.getfield 10, 3) := by decide +kernel
theorem dX5_needGuest_4 : decode cX5_needGuest 4 = .ok (.getfield 45, 3) := by decide +kernel
theorem dX5_needGuest_7 : decode cX5_needGuest 7 = .ok (.iload_n 1, 1) := by decide +kernel
theorem dX5_needGuest_8 : decode cX5_needGuest 8 = .ok (.invokevirtual 236, 3) := by decide +kernel
theorem dX5_needGuest_11 : decode cX5_needGuest 11 = .ok (.ifCond .ne 13, 3) := by decide +kernel
theorem dX5_needGuest_14 : decode cX5_needGuest 14 = .ok (.new 239, 3) := by decide +kernel
theorem dX5_needGuest_17 : decode cX5_needGuest 17 = .ok (.dup, 1) := by decide +kernel
theorem dX5_needGuest_18 : decode cX5_needGuest 18 = .ok (.ldc 241, 2) := by decide +kernel
theorem dX5_needGuest_20 : decode cX5_needGuest 20 = .ok (.invokespecial 243, 3) := by decide +kernel
theorem dX5_needGuest_23 : decode cX5_needGuest 23 = .ok (.athrow, 1) := by decide +kernel
theorem dX5_needGuest_24 : decode cX5_needGuest 24 = .ok (.return_, 1) := by decide +kernel
theorem dX5_needIndex_0 : decode cX5_needIndex 0 = .ok (.iload_n 0, 1) := by decide +kernel
theorem dX5_needIndex_1 : decode cX5_needIndex 1 = .ok (.ifCond .ne 13, 3) := by decide +kernel
theorem dX5_needIndex_4 : decode cX5_needIndex 4 = .ok (.new 239, 3) := by decide +kernel
theorem dX5_needIndex_7 : decode cX5_needIndex 7 = .ok (.dup, 1) := by decide +kernel
theorem dX5_needIndex_8 : decode cX5_needIndex 8 = .ok (.ldc 246, 2) := by decide +kernel
theorem dX5_needIndex_10 : decode cX5_needIndex 10 = .ok (.invokespecial 243, 3) := by decide +kernel
theorem dX5_needIndex_13 : decode cX5_needIndex 13 = .ok (.athrow, 1) := by decide +kernel
theorem dX5_needIndex_14 : decode cX5_needIndex 14 = .ok (.return_, 1) := by decide +kernel
theorem dX5_needArgument_0 : decode cX5_needArgument 0 = .ok (.iload_n 0, 1) := by decide +kernel
theorem dX5_needArgument_1 : decode cX5_needArgument 1 = .ok (.ifCond .ne 13, 3) := by decide +kernel
theorem dX5_needArgument_4 : decode cX5_needArgument 4 = .ok (.new 248, 3) := by decide +kernel
theorem dX5_needArgument_7 : decode cX5_needArgument 7 = .ok (.dup, 1) := by decide +kernel
theorem dX5_needArgument_8 : decode cX5_needArgument 8 = .ok (.ldc 250, 2) := by decide +kernel
theorem dX5_needArgument_10 : decode cX5_needArgument 10 = .ok (.invokespecial 252, 3) := by decide +kernel
theorem dX5_needArgument_13 : decode cX5_needArgument 13 = .ok (.athrow, 1) := by decide +kernel
theorem dX5_needArgument_14 : decode cX5_needArgument 14 = .ok (.return_, 1) := by decide +kernel
theorem dX5_needState_0 : decode cX5_needState 0 = .ok (.iload_n 0, 1) := by decide +kernel
theorem dX5_needState_1 : decode cX5_needState 1 = .ok (.ifCond .ne 13, 3) := by decide +kernel
theorem dX5_needState_4 : decode cX5_needState 4 = .ok (.new 253, 3) := by decide +kernel
theorem dX5_needState_7 : decode cX5_needState 7 = .ok (.dup, 1) := by decide +kernel
theorem dX5_needState_8 : decode cX5_needState 8 = .ok (.ldc 255, 2) := by decide +kernel
theorem dX5_needState_10 : decode cX5_needState 10 = .ok (.invokespecial 257, 3) := by decide +kernel
theorem dX5_needState_13 : decode cX5_needState 13 = .ok (.athrow, 1) := by decide +kernel
theorem dX5_needState_14 : decode cX5_needState 14 = .ok (.return_, 1) := by decide +kernel
theorem dX5_at_0 : decode cX5_at 0 = .ok (.iload_n 1, 1) := by decide +kernel
theorem dX5_at_1 : decode cX5_at 1 = .ok (.ifCond .lt 15, 3) := by decide +kernel
theorem dX5_at_4 : decode cX5_at 4 = .ok (.iload_n 1, 1) := by decide +kernel
theorem dX5_at_5 : decode cX5_at 5 = .ok (.aload_n 0, 1) := by decide +kernel
theorem dX5_at_6 : decode cX5_at 6 = .ok (.arraylength, 1) := by decide +kernel
theorem dX5_at_7 : decode cX5_at 7 = .ok (.if_icmp .ge 9, 3) := by decide +kernel
theorem dX5_at_10 : decode cX5_at 10 = .ok (.aload_n 0, 1) := by decide +kernel
theorem dX5_at_11 : decode cX5_at 11 = .ok (.iload_n 1, 1) := by decide +kernel
theorem dX5_at_12 : decode cX5_at 12 = .ok (.iaload, 1) := by decide +kernel
theorem dX5_at_13 : decode cX5_at 13 = .ok (.goto 4, 3) := by decide +kernel
theorem dX5_at_16 : decode cX5_at 16 = .ok (.iconst 0, 1) := by decide +kernel
theorem dX5_at_17 : decode cX5_at 17 = .ok (.ireturn, 1) := by decide +kernel
theorem dX5_put_0 : decode cX5_put 0 = .ok (.iload_n 1, 1) := by decide +kernel
theorem dX5_put_1 : decode cX5_put 1 = .ok (.ifCond .lt 13, 3) := by decide +kernel
theorem dX5_put_4 : decode cX5_put 4 = .ok (.iload_n 1, 1) := by decide +kernel
theorem dX5_put_5 : decode cX5_put 5 = .ok (.aload_n 0, 1) := by decide +kernel
theorem dX5_put_6 : decode cX5_put 6 = .ok (.arraylength, 1) := by decide +kernel
theorem dX5_put_7 : decode cX5_put 7 = .ok (.if_icmp .ge 7, 3) := by decide +kernel
theorem dX5_put_10 : decode cX5_put 10 = .ok (.aload_n 0, 1) := by decide +kernel
theorem dX5_put_11 : decode cX5_put 11 = .ok (.iload_n 1, 1) := by decide +kernel
theorem dX5_put_12 : decode cX5_put 12 = .ok (.iload_n 2, 1) := by decide +kernel
theorem dX5_put_13 : decode cX5_put 13 = .ok (.iastore, 1) := by decide +kernel
theorem dX5_put_14 : decode cX5_put 14 = .ok (.return_, 1) := by decide +kernel
theorem dX5_copyRow_0 : decode cX5_copyRow 0 = .ok (.aload_n 0, 1) := by decide +kernel
theorem dX5_copyRow_1 : decode cX5_copyRow 1 = .ok (.iconst 0, 1) := by decide +kernel
theorem dX5_copyRow_2 : decode cX5_copyRow 2 = .ok (.aload_n 1, 1) := by decide +kernel
theorem dX5_copyRow_3 : decode cX5_copyRow 3 = .ok (.iconst 0, 1) := by decide +kernel
theorem dX5_copyRow_4 : decode cX5_copyRow 4 = .ok (.aload_n 0, 1) := by decide +kernel
theorem dX5_copyRow_5 : decode cX5_copyRow 5 = .ok (.arraylength, 1) := by decide +kernel
theorem dX5_copyRow_6 : decode cX5_copyRow 6 = .ok (.aload_n 1, 1) := by decide +kernel
theorem dX5_copyRow_7 : decode cX5_copyRow 7 = .ok (.arraylength, 1) := by decide +kernel
theorem dX5_copyRow_8 : decode cX5_copyRow 8 = .ok (.invokestatic 258, 3) := by decide +kernel
theorem dX5_copyRow_11 : decode cX5_copyRow 11 = .ok (.invokestatic 263, 3) := by decide +kernel
theorem dX5_copyRow_14 : decode cX5_copyRow 14 = .ok (.return_, 1) := by decide +kernel
set_option maxRecDepth 20000 in
theorem ggX5_sumOf_X5_at : GoodIn wsX5_sumOf wsX5_at := goodIn_r _ [4] (by decide +kernel) (by decide +kernel)
set_option maxRecDepth 20000 in
theorem gX5_sumOf_X5_at : GoodIn wsX5_sumOf (va_wsS RX5 93 yX5_at wsX5_at) := goodIn_app (goodIn_of _ (by decide +kernel)) ggX5_sumOf_X5_at
theorem dX5_sumOf_0 : decode cX5_sumOf 0 = .ok (.iconst 0, 1) := by decide +kernel
theorem dX5_sumOf_1 : decode cX5_sumOf 1 = .ok (.istore_n 2, 1) := by decide +kernel
theorem dX5_sumOf_2 : decode cX5_sumOf 2 = .ok (.iconst 0, 1) := by decide +kernel
theorem dX5_sumOf_3 : decode cX5_sumOf 3 = .ok (.istore_n 3, 1) := by decide +kernel
theorem dX5_sumOf_4 : decode cX5_sumOf 4 = .ok (.iload_n 3, 1) := by decide +kernel
theorem dX5_sumOf_5 : decode cX5_sumOf 5 = .ok (.iload_n 1, 1) := by decide +kernel
theorem dX5_sumOf_6 : decode cX5_sumOf 6 = .ok (.if_icmp .ge 17, 3) := by decide +kernel
theorem dX5_sumOf_9 : decode cX5_sumOf 9 = .ok (.iload_n 2, 1) := by decide +kernel
theorem dX5_sumOf_10 : decode cX5_sumOf 10 = .ok (.aload_n 0, 1) := by decide +kernel
theorem dX5_sumOf_11 : decode cX5_sumOf 11 = .ok (.iload_n 3, 1) := by decide +kernel
theorem dX5_sumOf_12 : decode cX5_sumOf 12 = .ok (.invokestatic 93, 3) := by decide +kernel
theorem dX5_sumOf_15 : decode cX5_sumOf 15 = .ok (.iadd, 1) := by decide +kernel
theorem dX5_sumOf_16 : decode cX5_sumOf 16 = .ok (.istore_n 2, 1) := by decide +kernel
theorem dX5_sumOf_17 : decode cX5_sumOf 17 = .ok (.iinc 3 1, 3) := by decide +kernel
theorem dX5_sumOf_20 : decode cX5_sumOf 20 = .ok (.goto (-16), 3) := by decide +kernel
theorem dX5_sumOf_23 : decode cX5_sumOf 23 = .ok (.iload_n 2, 1) := by decide +kernel
theorem dX5_sumOf_24 : decode cX5_sumOf 24 = .ok (.ireturn, 1) := by decide +kernel
set_option maxRecDepth 20000 in
theorem ggX5_numberOf_X0_countNumber : GoodIn wsX5_numberOf wsX0_countNumber := goodIn_r _ [6, 7, 8, 9, 10, 11, 12, 13, 14, 15, 16, 17, 18, 19, 20, 21, 22, 23, 24, 25, 26, 27, 28, 29, 30, 31, 32, 33, 34, 35, 36, 45, 46, 47, 48, 49, 50, 51, 52, 53, 54, 55, 56, 57, 58, 59, 60, 61, 62, 63, 64, 65, 66, 67] (by decide +kernel) (by decide +kernel)
set_option maxRecDepth 20000 in
theorem gX5_numberOf_X0_countNumber_n269 : GoodIn wsX5_numberOf (wsX0_countNumber) := ggX5_numberOf_X0_countNumber
theorem dX5_numberOf_0 : decode cX5_numberOf 0 = .ok (.iload_n 1, 1) := by decide +kernel
theorem dX5_numberOf_1 : decode cX5_numberOf 1 = .ok (.bipush 21, 2) := by decide +kernel
theorem dX5_numberOf_3 : decode cX5_numberOf 3 = .ok (.if_icmp .ne 13, 3) := by decide +kernel
theorem dX5_numberOf_6 : decode cX5_numberOf 6 = .ok (.aload_n 0, 1) := by decide +kernel
theorem dX5_numberOf_7 : decode cX5_numberOf 7 = .ok (.getfield 22, 3) := by decide +kernel
theorem dX5_numberOf_10 : decode cX5_numberOf 10 = .ok (.getfield 184, 3) := by decide +kernel
theorem dX5_numberOf_13 : decode cX5_numberOf 13 = .ok (.goto 11, 3) := by decide +kernel
theorem dX5_numberOf_16 : decode cX5_numberOf 16 = .ok (.aload_n 0, 1) := by decide +kernel
theorem dX5_numberOf_17 : decode cX5_numberOf 17 = .ok (.getfield 10, 3) := by decide +kernel
theorem dX5_numberOf_20 : decode cX5_numberOf 20 = .ok (.iload_n 1, 1) := by decide +kernel
theorem dX5_numberOf_21 : decode cX5_numberOf 21 = .ok (.invokevirtual 269, 3) := by decide +kernel
theorem dX5_numberOf_24 : decode cX5_numberOf 24 = .ok (.ireturn, 1) := by decide +kernel
theorem dJ9_max_7cf53_0 : decode cJ9_max_7cf53 0 = .ok (.iload_n 0, 1) := by decide +kernel
theorem dJ9_max_7cf53_1 : decode cJ9_max_7cf53 1 = .ok (.iload_n 1, 1) := by decide +kernel
theorem dJ9_max_7cf53_2 : decode cJ9_max_7cf53 2 = .ok (.if_icmp .lt 7, 3) := by decide +kernel
theorem dJ9_max_7cf53_5 : decode cJ9_max_7cf53 5 = .ok (.iload_n 0, 1) := by decide +kernel
theorem dJ9_max_7cf53_6 : decode cJ9_max_7cf53 6 = .ok (.goto 4, 3) := by decide +kernel
theorem dJ9_max_7cf53_9 : decode cJ9_max_7cf53 9 = .ok (.iload_n 1, 1) := by decide +kernel
theorem dJ9_max_7cf53_10 : decode cJ9_max_7cf53 10 = .ok (.ireturn, 1) := by decide +kernel
theorem dJ9_min_7cf53_0 : decode cJ9_min_7cf53 0 = .ok (.iload_n 0, 1) := by decide +kernel
theorem dJ9_min_7cf53_1 : decode cJ9_min_7cf53 1 = .ok (.iload_n 1, 1) := by decide +kernel
theorem dJ9_min_7cf53_2 : decode cJ9_min_7cf53 2 = .ok (.if_icmp .gt 7, 3) := by decide +kernel
theorem dJ9_min_7cf53_5 : decode cJ9_min_7cf53 5 = .ok (.iload_n 0, 1) := by decide +kernel
theorem dJ9_min_7cf53_6 : decode cJ9_min_7cf53 6 = .ok (.goto 4, 3) := by decide +kernel
theorem dJ9_min_7cf53_9 : decode cJ9_min_7cf53 9 = .ok (.iload_n 1, 1) := by decide +kernel
theorem dJ9_min_7cf53_10 : decode cJ9_min_7cf53 10 = .ok (.ireturn, 1) := by decide +kernel
theorem dL_cell_0 : decode cL_cell 0 = .ok (.iload_n 1, 1) := by decide +kernel
theorem dL_cell_1 : decode cL_cell 1 = .ok (.aload_n 0, 1) := by decide +kernel
theorem dL_cell_2 : decode cL_cell 2 = .ok (.arraylength, 1) := by decide +kernel
theorem dL_cell_3 : decode cL_cell 3 = .ok (.if_icmp .ge 9, 3) := by decide +kernel
theorem dL_cell_6 : decode cL_cell 6 = .ok (.aload_n 0, 1) := by decide +kernel
theorem dL_cell_7 : decode cL_cell 7 = .ok (.iload_n 1, 1) := by decide +kernel
theorem dL_cell_8 : decode cL_cell 8 = .ok (.iaload, 1) := by decide +kernel
theorem dL_cell_9 : decode cL_cell 9 = .ok (.goto 11, 3) := by decide +kernel
theorem dL_cell_12 : decode cL_cell 12 = .ok (.ldc 7, 2) := by decide +kernel
theorem dL_cell_14 : decode cL_cell 14 = .ok (.iload_n 1, 1) := by decide +kernel
theorem dL_cell_15 : decode cL_cell 15 = .ok (.sipush 353, 3) := by decide +kernel
theorem dL_cell_18 : decode cL_cell 18 = .ok (.iadd, 1) := by decide +kernel
theorem dL_cell_19 : decode cL_cell 19 = .ok (.imul, 1) := by decide +kernel
theorem dL_cell_20 : decode cL_cell 20 = .ok (.ireturn, 1) := by decide +kernel
theorem dL_up_0 : decode cL_up 0 = .ok (.iload_n 0, 1) := by decide +kernel
theorem dL_up_1 : decode cL_up 1 = .ok (.ldc 8, 2) := by decide +kernel
theorem dL_up_3 : decode cL_up 3 = .ok (.iand, 1) := by decide +kernel
theorem dL_up_4 : decode cL_up 4 = .ok (.iload_n 1, 1) := by decide +kernel
theorem dL_up_5 : decode cL_up 5 = .ok (.irem, 1) := by decide +kernel
theorem dL_up_6 : decode cL_up 6 = .ok (.ireturn, 1) := by decide +kernel
set_option maxRecDepth 20000 in
theorem ggL_looks_X5_count : GoodIn wsL_looks wsX5_count := goodIn_ca (goodIn_r _ [7, 8, 9, 6, 10, 11, 12, 13, 14, 15, 16, 17, 18, 19, 20, 21, 22, 23, 24, 25, 26, 27, 28, 29, 30, 31, 32, 33, 34, 35, 36, 37, 38, 39, 40, 41, 42, 43, 44, 45, 46, 47, 48, 49, 50, 51, 52, 53, 54, 94, 95, 96, 97, 98, 99, 100, 101, 102, 103, 104, 105, 106, 107, 108, 109, 110, 111, 112, 113, 114, 115, 116, 117, 118, 119, 120, 121, 122, 123, 124] (by decide +kernel) (by decide +kernel)) (goodIn_sub (fun _ h => List.mem_cons_of_mem _ (List.mem_append_left _ (List.mem_append_right _ h))) (by decide +kernel))
set_option maxRecDepth 20000 in
theorem gL_looks_X5_count : GoodIn wsL_looks (wsV RL 13 RX5 yX5_count wsX5_count) := goodIn_app (goodIn_of _ (by decide +kernel)) ggL_looks_X5_count
set_option maxRecDepth 20000 in
theorem ggL_looks_X5_guest : GoodIn wsL_looks wsX5_guest := goodIn_ca (goodIn_ca (goodIn_r _ [58, 21, 59, 60, 61, 6, 62, 63, 64, 65, 42, 66, 67, 45, 8, 9, 10, 11, 12, 13, 14, 15, 68, 23, 69, 70, 27, 28, 39, 40, 71, 72, 73, 74, 75, 76, 77, 78, 79, 80, 81, 82, 83, 84, 85, 86, 87, 88, 89, 90, 91, 92, 93, 94, 95, 96, 97, 98, 102, 103, 104, 105, 106, 107, 108, 109, 110, 111, 112, 113, 114, 115, 116, 117, 118, 119, 120, 121, 122, 123, 124] (by decide +kernel) (by decide +kernel)) (goodIn_sub (fun _ h => List.mem_cons_of_mem _ (List.mem_append_right _ h)) (by decide +kernel))) (goodIn_sub (fun _ h => List.mem_cons_of_mem _ (List.mem_append_left _ (List.mem_append_right _ h))) (by decide +kernel))
set_option maxRecDepth 20000 in
theorem gL_looks_X5_guest : GoodIn wsL_looks (wsV RL 19 RX5 yX5_guest wsX5_guest) := goodIn_app (goodIn_of _ (by decide +kernel)) ggL_looks_X5_guest
theorem dL_looks_0 : decode cL_looks 0 = .ok (.ldc2_w 9, 3) := by decide +kernel
theorem dL_looks_3 : decode cL_looks 3 = .ok (.lstore_n 1, 1) := by decide +kernel
theorem dL_looks_4 : decode cL_looks 4 = .ok (.iconst 0, 1) := by decide +kernel
theorem dL_looks_5 : decode cL_looks 5 = .ok (.istore_n 3, 1) := by decide +kernel
theorem dL_looks_6 : decode cL_looks 6 = .ok (.iload_n 3, 1) := by decide +kernel
theorem dL_looks_7 : decode cL_looks 7 = .ok (.bipush 21, 2) := by decide +kernel
theorem dL_looks_9 : decode cL_looks 9 = .ok (.if_icmp .ge 22, 3) := by decide +kernel
theorem dL_looks_12 : decode cL_looks 12 = .ok (.ldc2_w 11, 3) := by decide +kernel
theorem dL_looks_15 : decode cL_looks 15 = .ok (.lload_n 1, 1) := by decide +kernel
theorem dL_looks_16 : decode cL_looks 16 = .ok (.lmul, 1) := by decide +kernel
theorem dL_looks_17 : decode cL_looks 17 = .ok (.aload_n 0, 1) := by decide +kernel
theorem dL_looks_18 : decode cL_looks 18 = .ok (.iload_n 3, 1) := by decide +kernel
theorem dL_looks_19 : decode cL_looks 19 = .ok (.invokevirtual 13, 3) := by decide +kernel
theorem dL_looks_22 : decode cL_looks 22 = .ok (.i2l, 1) := by decide +kernel
theorem dL_looks_23 : decode cL_looks 23 = .ok (.ladd, 1) := by decide +kernel
theorem dL_looks_24 : decode cL_looks 24 = .ok (.lstore_n 1, 1) := by decide +kernel
theorem dL_looks_25 : decode cL_looks 25 = .ok (.iinc 3 1, 3) := by decide +kernel
theorem dL_looks_28 : decode cL_looks 28 = .ok (.goto (-22), 3) := by decide +kernel
theorem dL_looks_31 : decode cL_looks 31 = .ok (.iconst 0, 1) := by decide +kernel
theorem dL_looks_32 : decode cL_looks 32 = .ok (.istore_n 3, 1) := by decide +kernel
theorem dL_looks_33 : decode cL_looks 33 = .ok (.iload_n 3, 1) := by decide +kernel
theorem dL_looks_34 : decode cL_looks 34 = .ok (.bipush 11, 2) := by decide +kernel
theorem dL_looks_36 : decode cL_looks 36 = .ok (.aload_n 0, 1) := by decide +kernel
theorem dL_looks_37 : decode cL_looks 37 = .ok (.iconst 1, 1) := by decide +kernel
theorem dL_looks_38 : decode cL_looks 38 = .ok (.invokevirtual 13, 3) := by decide +kernel
theorem dL_looks_41 : decode cL_looks 41 = .ok (.imul, 1) := by decide +kernel
theorem dL_looks_42 : decode cL_looks 42 = .ok (.if_icmp .ge 29, 3) := by decide +kernel
theorem dL_looks_45 : decode cL_looks 45 = .ok (.ldc2_w 11, 3) := by decide +kernel
theorem dL_looks_48 : decode cL_looks 48 = .ok (.lload_n 1, 1) := by decide +kernel
theorem dL_looks_49 : decode cL_looks 49 = .ok (.lmul, 1) := by decide +kernel
theorem dL_looks_50 : decode cL_looks 50 = .ok (.aload_n 0, 1) := by decide +kernel
theorem dL_looks_51 : decode cL_looks 51 = .ok (.iload_n 3, 1) := by decide +kernel
theorem dL_looks_52 : decode cL_looks 52 = .ok (.bipush 11, 2) := by decide +kernel
theorem dL_looks_54 : decode cL_looks 54 = .ok (.idiv, 1) := by decide +kernel
theorem dL_looks_55 : decode cL_looks 55 = .ok (.iload_n 3, 1) := by decide +kernel
theorem dL_looks_56 : decode cL_looks 56 = .ok (.bipush 11, 2) := by decide +kernel
theorem dL_looks_58 : decode cL_looks 58 = .ok (.irem, 1) := by decide +kernel
theorem dL_looks_59 : decode cL_looks 59 = .ok (.invokevirtual 19, 3) := by decide +kernel
theorem dL_looks_62 : decode cL_looks 62 = .ok (.i2l, 1) := by decide +kernel
theorem dL_looks_63 : decode cL_looks 63 = .ok (.ladd, 1) := by decide +kernel
theorem dL_looks_64 : decode cL_looks 64 = .ok (.lstore_n 1, 1) := by decide +kernel
theorem dL_looks_65 : decode cL_looks 65 = .ok (.iinc 3 1, 3) := by decide +kernel
theorem dL_looks_68 : decode cL_looks 68 = .ok (.goto (-35), 3) := by decide +kernel
theorem dL_looks_71 : decode cL_looks 71 = .ok (.lload_n 1, 1) := by decide +kernel
theorem dL_looks_72 : decode cL_looks 72 = .ok (.lreturn, 1) := by decide +kernel
set_option maxRecDepth 20000 in
theorem ggL_act_X5_count : GoodIn wsL_act wsX5_count := goodIn_ca (goodIn_r _ [5, 6, 7, 4, 8, 9, 10, 11, 12, 13, 14, 15, 16, 17, 18, 19, 20, 21, 22, 23, 24, 25, 26, 27, 28, 29, 30, 31, 32, 33, 34, 35, 36, 37, 38, 39, 40, 41, 42, 43, 44, 45, 46, 47, 48, 49, 50, 51, 52, 320, 321, 322, 323, 324, 325, 326, 327, 328, 329, 330, 331, 332, 333, 334, 335, 336, 337, 338, 339, 340, 341, 342, 343, 344, 345, 346, 347, 348, 349, 350] (by decide +kernel) (by decide +kernel)) (goodIn_sub (fun _ h => List.mem_cons_of_mem _ (List.mem_append_left _ (List.mem_append_left _ (List.mem_append_right _ h)))) (by decide +kernel))
set_option maxRecDepth 20000 in
theorem gL_act_X5_count : GoodIn wsL_act (wsV RL 13 RX5 yX5_count wsX5_count) := goodIn_app (goodIn_of _ (by decide +kernel)) ggL_act_X5_count
set_option maxRecDepth 20000 in
theorem ggL_act_L_up : GoodIn wsL_act wsL_up := goodIn_r _ [56, 57] (by decide +kernel) (by decide +kernel)
set_option maxRecDepth 20000 in
theorem gL_act_L_up : GoodIn wsL_act (va_wsS RL 23 yL_up wsL_up) := goodIn_app (goodIn_of _ (by decide +kernel)) ggL_act_L_up
set_option maxRecDepth 20000 in
theorem ggL_act_X5_come : GoodIn wsL_act wsX5_come := goodIn_ca (goodIn_ca (goodIn_r _ [61, 19, 18, 6, 7, 4, 8, 9, 10, 11, 12, 13, 62, 63, 64, 65, 66, 67, 68, 69, 70, 71, 72, 73, 74, 75, 76, 77, 78, 21, 79, 80, 25, 26, 33, 24, 27, 29, 28, 30, 31, 32, 81, 82, 83, 40, 84, 85, 86, 87, 88, 89, 90, 91, 44, 52, 43, 92, 93, 94, 95, 96, 97, 98, 99, 100, 101, 102, 103, 104, 105, 106, 107, 108, 109, 110, 111, 112, 113, 114, 115, 320, 321, 322, 323, 324, 328, 329, 330, 331, 332, 333, 334, 335, 336, 337, 338, 339, 340, 341, 342, 343, 344, 345, 346, 347, 348, 325, 326, 327, 349, 350] (by decide +kernel) (by decide +kernel)) (goodIn_sub (fun _ h => List.mem_cons_of_mem _ (List.mem_append_left _ (List.mem_append_left _ (List.mem_append_right _ h)))) (by decide +kernel))) (goodIn_sub (fun _ h => List.mem_cons_of_mem _ (List.mem_append_left _ (List.mem_append_right _ h))) (by decide +kernel))
set_option maxRecDepth 20000 in
theorem gL_act_X5_come : GoodIn wsL_act (wsV RL 28 RX5 yX5_come wsX5_come) := goodIn_app (goodIn_of _ (by decide +kernel)) ggL_act_X5_come
set_option maxRecDepth 20000 in
theorem ggL_act_X5_guest : GoodIn wsL_act wsX5_guest := goodIn_ca (goodIn_ca (goodIn_r _ [119, 19, 120, 121, 122, 4, 123, 124, 125, 126, 40, 127, 128, 43, 6, 7, 8, 9, 10, 11, 12, 13, 129, 21, 130, 131, 25, 26, 37, 38, 132, 133, 134, 90, 91, 135, 136, 137, 89, 138, 139, 103, 140, 141, 142, 143, 144, 145, 107, 106, 146, 147, 148, 320, 321, 322, 323, 324, 328, 329, 330, 331, 332, 333, 334, 335, 336, 337, 338, 339, 340, 341, 342, 343, 344, 345, 346, 347, 348, 349, 350] (by decide +kernel) (by decide +kernel)) (goodIn_sub (fun _ h => List.mem_cons_of_mem _ (List.mem_append_right _ h)) (by decide +kernel))) (goodIn_sub (fun _ h => List.mem_cons_of_mem _ (List.mem_append_left _ (List.mem_append_left _ (List.mem_append_right _ h)))) (by decide +kernel))
set_option maxRecDepth 20000 in
theorem gL_act_X5_guest : GoodIn wsL_act (wsV RL 19 RX5 yX5_guest wsX5_guest) := goodIn_app (goodIn_of _ (by decide +kernel)) ggL_act_X5_guest
set_option maxRecDepth 20000 in
theorem ggL_act_X5_leave : GoodIn wsL_act wsX5_leave := goodIn_ca (goodIn_ca (goodIn_r _ [152, 19, 18, 120, 121, 122, 4, 123, 124, 125, 126, 40, 127, 128, 43, 153, 21, 154, 155, 25, 26, 132, 133, 134, 90, 91, 37, 38, 49, 50, 51, 52, 139, 103, 140, 141, 142, 143, 144, 145, 107, 106, 62, 63, 64, 65, 66, 67, 68, 69, 70, 71, 72, 73, 74, 75, 76, 77, 78, 79, 80, 33, 24, 27, 29, 28, 30, 31, 32, 81, 82, 83, 84, 85, 86, 87, 88, 89, 44, 92, 93, 94, 95, 96, 97, 98, 99, 100, 101, 102, 104, 105, 156, 157, 158, 159, 160, 161, 162, 163, 164, 165, 114, 115, 166, 167, 168, 169, 170, 171, 320, 321, 322, 323, 324, 328, 329, 330, 331, 332, 333, 334, 335, 336, 337, 338, 339, 340, 341, 342, 343, 344, 345, 346, 347, 348, 349, 350, 325, 326, 327] (by decide +kernel) (by decide +kernel)) (goodIn_sub (fun _ h => List.mem_cons_of_mem _ (List.mem_append_right _ h)) (by decide +kernel))) (goodIn_sub (fun _ h => List.mem_cons_of_mem _ (List.mem_append_left _ (List.mem_append_right _ h))) (by decide +kernel))
set_option maxRecDepth 20000 in
theorem gL_act_X5_leave : GoodIn wsL_act (wsV RL 32 RX5 yX5_leave wsX5_leave) := goodIn_app (goodIn_of _ (by decide +kernel)) ggL_act_X5_leave
set_option maxRecDepth 20000 in
theorem ggL_act_X5_earn : GoodIn wsL_act wsX5_earn := goodIn_ca (goodIn_ca (goodIn_r _ [175, 18, 19, 120, 121, 122, 4, 123, 124, 125, 126, 40, 127, 128, 43, 6, 7, 8, 9, 10, 11, 12, 13, 67, 68, 69, 70, 71, 72, 73, 74, 75, 76, 77, 78, 21, 79, 80, 25, 26, 33, 24, 27, 29, 28, 30, 31, 32, 81, 82, 83, 84, 85, 86, 87, 88, 89, 90, 91, 44, 52, 92, 93, 94, 95, 96, 97, 98, 99, 100, 101, 102, 103, 104, 105, 106, 107, 176, 177, 178, 179, 37, 38, 114, 115, 320, 321, 322, 323, 324, 328, 329, 330, 331, 332, 333, 334, 335, 336, 337, 338, 339, 340, 341, 342, 343, 344, 345, 346, 347, 348, 325, 326, 327, 349, 350] (by decide +kernel) (by decide +kernel)) (goodIn_sub (fun _ h => List.mem_cons_of_mem _ (List.mem_append_right _ h)) (by decide +kernel))) (goodIn_sub (fun _ h => List.mem_cons_of_mem _ (List.mem_append_left _ (List.mem_append_left _ (List.mem_append_right _ h)))) (by decide +kernel))
set_option maxRecDepth 20000 in
theorem gL_act_X5_earn : GoodIn wsL_act (wsV RL 35 RX5 yX5_earn wsX5_earn) := goodIn_app (goodIn_of _ (by decide +kernel)) ggL_act_X5_earn
set_option maxRecDepth 20000 in
theorem ggL_act_X5_noLoan : GoodIn wsL_act wsX5_noLoan := goodIn_ca (goodIn_r _ [183, 19, 120, 121, 122, 4, 123, 124, 125, 126, 40, 127, 128, 43, 184, 185, 186, 90, 138, 132, 133, 134, 91, 37, 38, 48, 49, 50, 51, 52, 320, 321, 322, 323, 324, 328, 329, 330, 331, 332, 333, 334, 335, 336, 337, 338, 339, 340, 341, 342, 343, 344, 345, 346, 347, 348] (by decide +kernel) (by decide +kernel)) (goodIn_sub (fun _ h => List.mem_cons_of_mem _ (List.mem_append_right _ h)) (by decide +kernel))
set_option maxRecDepth 20000 in
theorem gL_act_X5_noLoan : GoodIn wsL_act (wsV RL 38 RX5 yX5_noLoan wsX5_noLoan) := goodIn_app (goodIn_of _ (by decide +kernel)) ggL_act_X5_noLoan
set_option maxRecDepth 20000 in
theorem ggL_act_X5_lend : GoodIn wsL_act wsX5_lend := goodIn_ca (goodIn_ca (goodIn_r _ [190, 19, 18, 120, 121, 122, 4, 123, 124, 125, 126, 40, 127, 128, 43, 184, 185, 186, 90, 138, 132, 133, 134, 91, 37, 38, 48, 49, 50, 51, 52, 62, 63, 64, 65, 66, 67, 68, 69, 70, 71, 72, 73, 74, 75, 76, 77, 78, 21, 79, 80, 25, 26, 33, 24, 27, 29, 28, 30, 31, 32, 81, 82, 83, 84, 85, 86, 87, 88, 89, 44, 92, 93, 94, 95, 96, 97, 98, 99, 100, 101, 102, 103, 104, 105, 106, 107, 191, 192, 193, 114, 115, 36, 320, 321, 322, 323, 324, 328, 329, 330, 331, 332, 333, 334, 335, 336, 337, 338, 339, 340, 341, 342, 343, 344, 345, 346, 347, 348, 325, 326, 327, 349, 350] (by decide +kernel) (by decide +kernel)) (goodIn_sub (fun _ h => List.mem_cons_of_mem _ (List.mem_append_right _ h)) (by decide +kernel))) (goodIn_sub (fun _ h => List.mem_cons_of_mem _ (List.mem_append_left _ (List.mem_append_right _ h))) (by decide +kernel))
set_option maxRecDepth 20000 in
theorem gL_act_X5_lend : GoodIn wsL_act (wsV RL 41 RX5 yX5_lend wsX5_lend) := goodIn_app (goodIn_of _ (by decide +kernel)) ggL_act_X5_lend
set_option maxRecDepth 20000 in
theorem ggL_act_X5_pay : GoodIn wsL_act wsX5_pay := goodIn_ca (goodIn_r _ [197, 18, 19, 120, 121, 122, 4, 123, 124, 125, 126, 40, 127, 128, 43, 67, 68, 69, 70, 71, 72, 73, 74, 75, 76, 77, 78, 21, 79, 80, 25, 26, 33, 24, 27, 29, 28, 30, 31, 32, 81, 82, 83, 84, 85, 86, 87, 88, 89, 90, 91, 44, 52, 92, 93, 94, 95, 96, 97, 98, 99, 100, 101, 102, 103, 104, 105, 106, 107, 198, 199, 200, 179, 37, 38, 201, 202, 203, 114, 115, 36, 320, 321, 322, 323, 324, 328, 329, 330, 331, 332, 333, 334, 335, 336, 337, 338, 339, 340, 341, 342, 343, 344, 345, 346, 347, 348, 325, 326, 327, 349, 350] (by decide +kernel) (by decide +kernel)) (goodIn_sub (fun _ h => List.mem_cons_of_mem _ (List.mem_append_right _ h)) (by decide +kernel))
set_option maxRecDepth 20000 in
theorem gL_act_X5_pay : GoodIn wsL_act (wsV RL 44 RX5 yX5_pay wsX5_pay) := goodIn_app (goodIn_of _ (by decide +kernel)) ggL_act_X5_pay
set_option maxRecDepth 20000 in
theorem ggL_act_X5_giveBack : GoodIn wsL_act wsX5_giveBack := goodIn_ca (goodIn_ca (goodIn_r _ [207, 19, 18, 120, 121, 122, 4, 123, 124, 125, 126, 40, 127, 128, 43, 208, 209, 210, 90, 37, 38, 48, 49, 50, 51, 52, 62, 63, 64, 65, 66, 67, 68, 69, 70, 71, 72, 73, 74, 75, 76, 77, 78, 21, 79, 80, 25, 26, 33, 24, 27, 29, 28, 30, 31, 32, 81, 82, 83, 84, 85, 86, 87, 88, 89, 91, 44, 92, 93, 94, 95, 96, 97, 98, 99, 100, 101, 102, 103, 104, 105, 106, 107, 211, 212, 213, 114, 115, 320, 321, 322, 323, 324, 328, 329, 330, 331, 332, 333, 334, 335, 336, 337, 338, 339, 340, 341, 342, 343, 344, 345, 346, 347, 348, 325, 326, 327, 349, 350] (by decide +kernel) (by decide +kernel)) (goodIn_sub (fun _ h => List.mem_cons_of_mem _ (List.mem_append_right _ h)) (by decide +kernel))) (goodIn_sub (fun _ h => List.mem_cons_of_mem _ (List.mem_append_left _ (List.mem_append_right _ h))) (by decide +kernel))
set_option maxRecDepth 20000 in
theorem gL_act_X5_giveBack : GoodIn wsL_act (wsV RL 47 RX5 yX5_giveBack wsX5_giveBack) := goodIn_app (goodIn_of _ (by decide +kernel)) ggL_act_X5_giveBack
set_option maxRecDepth 20000 in
theorem ggL_act_X5_whyNot : GoodIn wsL_act wsX5_whyNot := goodIn_ca (goodIn_r _ [217, 19, 120, 121, 122, 4, 123, 124, 125, 126, 40, 127, 128, 43, 218, 21, 219, 220, 25, 37, 38, 221, 222, 223, 26, 33, 49, 50, 51, 52, 139, 103, 140, 141, 142, 143, 144, 145, 107, 106, 320, 321, 322, 323, 324, 328, 329, 330, 331, 332, 333, 334, 335, 336, 337, 338, 339, 340, 341, 342, 343, 344, 345, 346, 347, 348, 349, 350] (by decide +kernel) (by decide +kernel)) (goodIn_sub (fun _ h => List.mem_cons_of_mem _ (List.mem_append_right _ h)) (by decide +kernel))
set_option maxRecDepth 20000 in
theorem gL_act_X5_whyNot : GoodIn wsL_act (wsV RL 50 RX5 yX5_whyNot wsX5_whyNot) := goodIn_app (goodIn_of _ (by decide +kernel)) ggL_act_X5_whyNot
set_option maxRecDepth 20000 in
theorem ggL_act_X5_mask : GoodIn wsL_act wsX5_mask := goodIn_ca (goodIn_ca (goodIn_r _ [227, 19, 18, 120, 121, 122, 4, 123, 124, 125, 126, 40, 127, 128, 43, 218, 21, 219, 220, 25, 37, 38, 62, 63, 64, 65, 66, 67, 68, 69, 70, 71, 72, 73, 74, 75, 76, 77, 78, 79, 80, 26, 33, 24, 27, 29, 28, 30, 31, 32, 81, 82, 83, 84, 85, 86, 87, 88, 89, 90, 91, 44, 52, 92, 93, 94, 95, 96, 97, 98, 99, 100, 101, 102, 103, 104, 105, 106, 107, 228, 229, 230, 201, 202, 203, 114, 115, 36, 320, 321, 322, 323, 324, 328, 329, 330, 331, 332, 333, 334, 335, 336, 337, 338, 339, 340, 341, 342, 343, 344, 345, 346, 347, 348, 325, 326, 327, 349, 350] (by decide +kernel) (by decide +kernel)) (goodIn_sub (fun _ h => List.mem_cons_of_mem _ (List.mem_append_right _ h)) (by decide +kernel))) (goodIn_sub (fun _ h => List.mem_cons_of_mem _ (List.mem_append_left _ (List.mem_append_right _ h))) (by decide +kernel))
set_option maxRecDepth 20000 in
theorem gL_act_X5_mask : GoodIn wsL_act (wsV RL 54 RX5 yX5_mask wsX5_mask) := goodIn_app (goodIn_of _ (by decide +kernel)) ggL_act_X5_mask
set_option maxRecDepth 20000 in
theorem ggL_act_X5_night : GoodIn wsL_act wsX5_night := goodIn_r _ [234, 18, 19, 67, 68, 69, 70, 71, 72, 73, 74, 75, 76, 77, 78, 21, 79, 80, 25, 26, 33, 24, 27, 29, 28, 30, 31, 32, 81, 82, 83, 40, 84, 85, 86, 87, 88, 89, 90, 91, 44, 52, 43, 92, 4, 93, 94, 95, 96, 97, 98, 99, 100, 101, 102, 103, 104, 105, 106, 107, 235, 236, 237, 34, 35, 36, 37, 38, 238, 239, 240, 241, 242, 243, 114, 115, 244, 245, 246, 320, 321, 322, 323, 324, 325, 326, 327, 328, 329, 330, 331, 332, 333, 334, 335, 336, 337, 338, 339, 340, 341, 342, 343, 344, 345, 346, 347, 348, 349, 350] (by decide +kernel) (by decide +kernel)
set_option maxRecDepth 20000 in
theorem gL_act_X5_night : GoodIn wsL_act (wsV RL 57 RX5 yX5_night wsX5_night) := goodIn_app (goodIn_of _ (by decide +kernel)) ggL_act_X5_night
set_option maxRecDepth 20000 in
theorem ggL_act_X5_set : GoodIn wsL_act wsX5_set := goodIn_ca (goodIn_ca (goodIn_r _ [250, 251, 252, 18, 19, 6, 7, 4, 8, 253, 254, 255, 124, 125, 36, 37, 38, 9, 10, 11, 12, 13, 67, 68, 69, 70, 71, 72, 73, 74, 75, 76, 77, 78, 21, 79, 80, 25, 26, 33, 24, 27, 29, 28, 30, 31, 32, 81, 82, 83, 40, 84, 85, 86, 87, 88, 89, 90, 91, 44, 52, 43, 92, 93, 94, 95, 96, 97, 98, 99, 100, 101, 102, 103, 104, 105, 106, 107, 256, 114, 115, 320, 321, 322, 323, 324, 328, 329, 330, 331, 332, 333, 334, 335, 336, 337, 338, 339, 325, 326, 327, 340, 341, 342, 343, 344, 345, 346, 347, 348, 349, 350] (by decide +kernel) (by decide +kernel)) (goodIn_sub (fun _ h => List.mem_cons_of_mem _ (List.mem_append_right _ h)) (by decide +kernel))) (goodIn_sub (fun _ h => List.mem_cons_of_mem _ (List.mem_append_left _ (List.mem_append_left _ (List.mem_append_right _ h)))) (by decide +kernel))
set_option maxRecDepth 20000 in
theorem gL_act_X5_set : GoodIn wsL_act (wsV RL 61 RX5 yX5_set wsX5_set) := goodIn_app (goodIn_of _ (by decide +kernel)) ggL_act_X5_set
set_option maxRecDepth 20000 in
theorem ggL_act_X5_restore : GoodIn wsL_act wsX5_restore := goodIn_ca (goodIn_r _ [260, 261, 18, 19, 262, 62, 63, 4, 64, 65, 66, 67, 68, 69, 70, 71, 72, 73, 74, 75, 76, 77, 78, 21, 79, 80, 25, 26, 33, 24, 27, 29, 28, 30, 31, 32, 81, 82, 83, 40, 84, 85, 86, 87, 88, 89, 90, 91, 44, 52, 43, 92, 93, 94, 95, 96, 97, 98, 99, 100, 101, 102, 103, 104, 105, 106, 107, 320, 321, 322, 323, 324, 328, 329, 330, 331, 332, 333, 334, 335, 336, 337, 338, 339, 325, 326, 327, 340, 341, 342, 343, 344, 345, 346, 347, 348, 349, 350] (by decide +kernel) (by decide +kernel)) (goodIn_sub (fun _ h => List.mem_cons_of_mem _ (List.mem_append_left _ (List.mem_append_right _ h))) (by decide +kernel))
set_option maxRecDepth 20000 in
theorem gL_act_X5_restore : GoodIn wsL_act (wsV RL 64 RX5 yX5_restore wsX5_restore) := goodIn_app (goodIn_of _ (by decide +kernel)) ggL_act_X5_restore
set_option maxRecDepth 20000 in
theorem ggL_act_X5_line : GoodIn wsL_act wsX5_line := goodIn_ca (goodIn_r _ [266, 19, 267, 268, 4, 269, 6, 7, 8, 253, 254, 255, 124, 125, 36, 37, 38, 320, 321, 322, 323, 324, 328, 329, 330, 331, 332, 333, 334, 335, 336, 337, 338, 339, 349, 350] (by decide +kernel) (by decide +kernel)) (goodIn_sub (fun _ h => List.mem_cons_of_mem _ (List.mem_append_right _ h)) (by decide +kernel))
set_option maxRecDepth 20000 in
theorem gL_act_X5_line : GoodIn wsL_act (wsV RL 67 RX5 yX5_line wsX5_line) := goodIn_app (goodIn_of _ (by decide +kernel)) ggL_act_X5_line
set_option maxRecDepth 20000 in
theorem ggL_act_X5_open : GoodIn wsL_act wsX5_open := goodIn_ca (goodIn_ca (goodIn_r _ [273, 19, 18, 267, 268, 4, 269, 6, 7, 8, 253, 254, 255, 124, 125, 36, 37, 38, 62, 63, 64, 65, 66, 67, 68, 69, 70, 71, 72, 73, 74, 75, 76, 77, 78, 21, 79, 80, 25, 26, 33, 24, 27, 29, 28, 30, 31, 32, 81, 82, 83, 40, 84, 85, 86, 87, 88, 89, 90, 91, 44, 52, 43, 92, 93, 94, 95, 96, 97, 98, 99, 100, 101, 102, 103, 104, 105, 106, 107, 274, 275, 276, 277, 278, 279, 280, 281, 282, 283, 114, 115, 126, 127, 128, 284, 285, 286, 287, 288, 242, 243, 289, 290, 291, 292, 132, 133, 134, 135, 136, 137, 138, 293, 294, 295, 296, 297, 298, 299, 300, 301, 302, 303, 304, 179, 305, 306, 307, 308, 201, 202, 203, 309, 310, 311, 312, 320, 321, 322, 323, 324, 328, 329, 330, 331, 332, 333, 334, 335, 336, 337, 338, 339, 349, 350, 325, 326, 327, 340, 341, 342, 343, 344, 345, 346, 347, 348] (by decide +kernel) (by decide +kernel)) (goodIn_sub (fun _ h => List.mem_cons_of_mem _ (List.mem_append_right _ h)) (by decide +kernel))) (goodIn_sub (fun _ h => List.mem_cons_of_mem _ (List.mem_append_left _ (List.mem_append_right _ h))) (by decide +kernel))
set_option maxRecDepth 20000 in
theorem gL_act_X5_open : GoodIn wsL_act (wsV RL 70 RX5 yX5_open wsX5_open) := goodIn_app (goodIn_of _ (by decide +kernel)) ggL_act_X5_open
set_option maxRecDepth 20000 in
theorem ggL_act_X5_queue : GoodIn wsL_act wsX5_queue := goodIn_ca (goodIn_ca (goodIn_r _ [316, 19, 18, 120, 121, 122, 4, 123, 124, 125, 126, 40, 127, 128, 43, 267, 268, 269, 6, 7, 8, 253, 254, 255, 221, 21, 222, 223, 25, 26, 33, 49, 50, 51, 52, 37, 38, 139, 103, 140, 141, 142, 143, 144, 145, 107, 106, 62, 63, 64, 65, 66, 67, 68, 69, 70, 71, 72, 73, 74, 75, 76, 77, 78, 79, 80, 24, 27, 29, 28, 30, 31, 32, 81, 82, 83, 84, 85, 86, 87, 88, 89, 90, 91, 44, 92, 93, 94, 95, 96, 97, 98, 99, 100, 101, 102, 104, 105, 317, 318, 319, 114, 115, 320, 321, 322, 323, 324, 328, 329, 330, 331, 332, 333, 334, 335, 336, 337, 338, 339, 340, 341, 342, 343, 344, 345, 346, 347, 348, 349, 350, 325, 326, 327] (by decide +kernel) (by decide +kernel)) (goodIn_sub (fun _ h => List.mem_cons_of_mem _ (List.mem_append_right _ h)) (by decide +kernel))) (goodIn_sub (fun _ h => List.mem_cons_of_mem _ (List.mem_append_left _ (List.mem_append_right _ h))) (by decide +kernel))
set_option maxRecDepth 20000 in
theorem gL_act_X5_queue : GoodIn wsL_act (wsV RL 73 RX5 yX5_queue wsX5_queue) := goodIn_app (goodIn_of _ (by decide +kernel)) ggL_act_X5_queue
theorem dL_act_0 : decode cL_act 0 = .ok (.aload_n 0, 1) := by decide +kernel
theorem dL_act_1 : decode cL_act 1 = .ok (.iconst 1, 1) := by decide +kernel
theorem dL_act_2 : decode cL_act 2 = .ok (.invokevirtual 13, 3) := by decide +kernel
theorem dL_act_5 : decode cL_act 5 = .ok (.istore_n 3, 1) := by decide +kernel
theorem dL_act_6 : decode cL_act 6 = .ok (.iload_n 2, 1) := by decide +kernel
theorem dL_act_7 : decode cL_act 7 = .ok (.bipush 8, 2) := by decide +kernel
theorem dL_act_9 : decode cL_act 9 = .ok (.ishr, 1) := by decide +kernel
theorem dL_act_10 : decode cL_act 10 = .ok (.iconst 3, 1) := by decide +kernel
theorem dL_act_11 : decode cL_act 11 = .ok (.invokestatic 23, 3) := by decide +kernel
theorem dL_act_14 : decode cL_act 14 = .ok (.istore 4, 2) := by decide +kernel
theorem dL_act_16 : decode cL_act 16 = .ok (.iload_n 3, 1) := by decide +kernel
theorem dL_act_17 : decode cL_act 17 = .ok (.iconst 3, 1) := by decide +kernel
theorem dL_act_18 : decode cL_act 18 = .ok (.if_icmp .lt 18, 3) := by decide +kernel
theorem dL_act_21 : decode cL_act 21 = .ok (.iload_n 1, 1) := by decide +kernel
theorem dL_act_22 : decode cL_act 22 = .ok (.bipush 20, 2) := by decide +kernel
theorem dL_act_24 : decode cL_act 24 = .ok (.invokestatic 23, 3) := by decide +kernel
theorem dL_act_27 : decode cL_act 27 = .ok (.ifCond .ne 50, 3) := by decide +kernel
theorem dL_act_30 : decode cL_act 30 = .ok (.iload_n 3, 1) := by decide +kernel
theorem dL_act_31 : decode cL_act 31 = .ok (.bipush 10, 2) := by decide +kernel
theorem dL_act_33 : decode cL_act 33 = .ok (.if_icmp .ge 44, 3) := by decide +kernel
theorem dL_act_36 : decode cL_act 36 = .ok (.aload_n 0, 1) := by decide +kernel
theorem dL_act_37 : decode cL_act 37 = .ok (.iload_n 2, 1) := by decide +kernel
theorem dL_act_38 : decode cL_act 38 = .ok (.iconst 5, 1) := by decide +kernel
theorem dL_act_39 : decode cL_act 39 = .ok (.invokestatic 23, 3) := by decide +kernel
theorem dL_act_42 : decode cL_act 42 = .ok (.iload_n 2, 1) := by decide +kernel
theorem dL_act_43 : decode cL_act 43 = .ok (.iconst 3, 1) := by decide +kernel
theorem dL_act_44 : decode cL_act 44 = .ok (.ishr, 1) := by decide +kernel
theorem dL_act_45 : decode cL_act 45 = .ok (.bipush 41, 2) := by decide +kernel
theorem dL_act_47 : decode cL_act 47 = .ok (.invokestatic 23, 3) := by decide +kernel
theorem dL_act_50 : decode cL_act 50 = .ok (.iload_n 2, 1) := by decide +kernel
theorem dL_act_51 : decode cL_act 51 = .ok (.bipush 9, 2) := by decide +kernel
theorem dL_act_53 : decode cL_act 53 = .ok (.ishr, 1) := by decide +kernel
theorem dL_act_54 : decode cL_act 54 = .ok (.iload_n 2, 1) := by decide +kernel
theorem dL_act_55 : decode cL_act 55 = .ok (.bipush 17, 2) := by decide +kernel
theorem dL_act_57 : decode cL_act 57 = .ok (.ishr, 1) := by decide +kernel
theorem dL_act_58 : decode cL_act 58 = .ok (.iconst 1, 1) := by decide +kernel
theorem dL_act_59 : decode cL_act 59 = .ok (.iand, 1) := by decide +kernel
theorem dL_act_60 : decode cL_act 60 = .ok (.ifCond .ne 8, 3) := by decide +kernel
theorem dL_act_63 : decode cL_act 63 = .ok (.bipush 100, 2) := by decide +kernel
theorem dL_act_65 : decode cL_act 65 = .ok (.goto 5, 3) := by decide +kernel
theorem dL_act_68 : decode cL_act 68 = .ok (.bipush 15, 2) := by decide +kernel
theorem dL_act_70 : decode cL_act 70 = .ok (.invokestatic 23, 3) := by decide +kernel
theorem dL_act_73 : decode cL_act 73 = .ok (.invokevirtual 28, 3) := by decide +kernel
theorem dL_act_76 : decode cL_act 76 = .ok (.ireturn, 1) := by decide +kernel
theorem dL_act_77 : decode cL_act 77 = .ok (.iload_n 2, 1) := by decide +kernel
theorem dL_act_78 : decode cL_act 78 = .ok (.iload_n 3, 1) := by decide +kernel
theorem dL_act_79 : decode cL_act 79 = .ok (.invokestatic 23, 3) := by decide +kernel
theorem dL_act_82 : decode cL_act 82 = .ok (.istore 5, 2) := by decide +kernel
theorem dL_act_84 : decode cL_act 84 = .ok (.iload_n 2, 1) := by decide +kernel
theorem dL_act_85 : decode cL_act 85 = .ok (.iconst 4, 1) := by decide +kernel
theorem dL_act_86 : decode cL_act 86 = .ok (.ishr, 1) := by decide +kernel
theorem dL_act_87 : decode cL_act 87 = .ok (.iload_n 3, 1) := by decide +kernel
theorem dL_act_88 : decode cL_act 88 = .ok (.invokestatic 23, 3) := by decide +kernel
theorem dL_act_91 : decode cL_act 91 = .ok (.istore 6, 2) := by decide +kernel
theorem dL_act_93 : decode cL_act 93 = .ok (.aload_n 0, 1) := by decide +kernel
theorem dL_act_94 : decode cL_act 94 = .ok (.iload 5, 2) := by decide +kernel
theorem dL_act_96 : decode cL_act 96 = .ok (.iconst 4, 1) := by decide +kernel
theorem dL_act_97 : decode cL_act 97 = .ok (.invokevirtual 19, 3) := by decide +kernel
theorem dL_act_100 : decode cL_act 100 = .ok (.istore 7, 2) := by decide +kernel
theorem dL_act_102 : decode cL_act 102 = .ok (.iload 7, 2) := by decide +kernel
theorem dL_act_104 : decode cL_act 104 = .ok (.iload 5, 2) := by decide +kernel
theorem dL_act_106 : decode cL_act 106 = .ok (.if_icmp .ne 40, 3) := by decide +kernel
theorem dL_act_109 : decode cL_act 109 = .ok (.aload_n 0, 1) := by decide +kernel
theorem dL_act_110 : decode cL_act 110 = .ok (.iload 5, 2) := by decide +kernel
theorem dL_act_112 : decode cL_act 112 = .ok (.bipush 10, 2) := by decide +kernel
theorem dL_act_114 : decode cL_act 114 = .ok (.invokevirtual 19, 3) := by decide +kernel
theorem dL_act_117 : decode cL_act 117 = .ok (.ifCond .ge 29, 3) := by decide +kernel
theorem dL_act_120 : decode cL_act 120 = .ok (.aload_n 0, 1) := by decide +kernel
theorem dL_act_121 : decode cL_act 121 = .ok (.iload 5, 2) := by decide +kernel
theorem dL_act_123 : decode cL_act 123 = .ok (.bipush 7, 2) := by decide +kernel
theorem dL_act_125 : decode cL_act 125 = .ok (.invokevirtual 19, 3) := by decide +kernel
theorem dL_act_128 : decode cL_act 128 = .ok (.ifCond .ne 18, 3) := by decide +kernel
theorem dL_act_131 : decode cL_act 131 = .ok (.aload_n 0, 1) := by decide +kernel
theorem dL_act_132 : decode cL_act 132 = .ok (.iload 5, 2) := by decide +kernel
theorem dL_act_134 : decode cL_act 134 = .ok (.bipush 8, 2) := by decide +kernel
theorem dL_act_136 : decode cL_act 136 = .ok (.invokevirtual 19, 3) := by decide +kernel
theorem dL_act_139 : decode cL_act 139 = .ok (.ifCond .ge 7, 3) := by decide +kernel
theorem dL_act_142 : decode cL_act 142 = .ok (.iconst 1, 1) := by decide +kernel
theorem dL_act_143 : decode cL_act 143 = .ok (.goto 4, 3) := by decide +kernel
theorem dL_act_146 : decode cL_act 146 = .ok (.iconst 0, 1) := by decide +kernel
theorem dL_act_147 : decode cL_act 147 = .ok (.istore 8, 2) := by decide +kernel
theorem dL_act_149 : decode cL_act 149 = .ok (.iload_n 1, 1) := by decide +kernel
theorem dL_act_150 : decode cL_act 150 = .ok (.bipush 20, 2) := by decide +kernel
theorem dL_act_152 : decode cL_act 152 = .ok (.invokestatic 23, 3) := by decide +kernel
theorem dL_act_155 : decode cL_act 155 = .ok (.tableswitch 382 0 14 #[73, 73, 110, 128, 128, 128, 157, 217, 217, 243, 248, 334, 357, 357, 357], 73) := by decide +kernel
theorem dL_act_228 : decode cL_act 228 = .ok (.iload 8, 2) := by decide +kernel
theorem dL_act_230 : decode cL_act 230 = .ok (.ifCond .eq 17, 3) := by decide +kernel
theorem dL_act_233 : decode cL_act 233 = .ok (.iload_n 3, 1) := by decide +kernel
theorem dL_act_234 : decode cL_act 234 = .ok (.iconst 3, 1) := by decide +kernel
theorem dL_act_235 : decode cL_act 235 = .ok (.if_icmp .le 12, 3) := by decide +kernel
theorem dL_act_238 : decode cL_act 238 = .ok (.aload_n 0, 1) := by decide +kernel
theorem dL_act_239 : decode cL_act 239 = .ok (.iload 5, 2) := by decide +kernel
theorem dL_act_241 : decode cL_act 241 = .ok (.invokevirtual 32, 3) := by decide +kernel
theorem dL_act_244 : decode cL_act 244 = .ok (.goto 20, 3) := by decide +kernel
theorem dL_act_247 : decode cL_act 247 = .ok (.aload_n 0, 1) := by decide +kernel
theorem dL_act_248 : decode cL_act 248 = .ok (.iload 5, 2) := by decide +kernel
theorem dL_act_250 : decode cL_act 250 = .ok (.iconst 1, 1) := by decide +kernel
theorem dL_act_251 : decode cL_act 251 = .ok (.iload_n 2, 1) := by decide +kernel
theorem dL_act_252 : decode cL_act 252 = .ok (.bipush 9, 2) := by decide +kernel
theorem dL_act_254 : decode cL_act 254 = .ok (.ishr, 1) := by decide +kernel
theorem dL_act_255 : decode cL_act 255 = .ok (.bipush 99, 2) := by decide +kernel
theorem dL_act_257 : decode cL_act 257 = .ok (.invokestatic 23, 3) := by decide +kernel
theorem dL_act_260 : decode cL_act 260 = .ok (.iadd, 1) := by decide +kernel
theorem dL_act_261 : decode cL_act 261 = .ok (.invokevirtual 35, 3) := by decide +kernel
theorem dL_act_264 : decode cL_act 264 = .ok (.ireturn, 1) := by decide +kernel
theorem dL_act_265 : decode cL_act 265 = .ok (.aload_n 0, 1) := by decide +kernel
theorem dL_act_266 : decode cL_act 266 = .ok (.iload 5, 2) := by decide +kernel
theorem dL_act_268 : decode cL_act 268 = .ok (.iconst 1, 1) := by decide +kernel
theorem dL_act_269 : decode cL_act 269 = .ok (.iload_n 2, 1) := by decide +kernel
theorem dL_act_270 : decode cL_act 270 = .ok (.bipush 9, 2) := by decide +kernel
theorem dL_act_272 : decode cL_act 272 = .ok (.ishr, 1) := by decide +kernel
theorem dL_act_273 : decode cL_act 273 = .ok (.bipush 99, 2) := by decide +kernel
theorem dL_act_275 : decode cL_act 275 = .ok (.invokestatic 23, 3) := by decide +kernel
theorem dL_act_278 : decode cL_act 278 = .ok (.iadd, 1) := by decide +kernel
theorem dL_act_279 : decode cL_act 279 = .ok (.invokevirtual 35, 3) := by decide +kernel
theorem dL_act_282 : decode cL_act 282 = .ok (.ireturn, 1) := by decide +kernel
theorem dL_act_283 : decode cL_act 283 = .ok (.aload_n 0, 1) := by decide +kernel
theorem dL_act_284 : decode cL_act 284 = .ok (.iload 5, 2) := by decide +kernel
theorem dL_act_286 : decode cL_act 286 = .ok (.iload 6, 2) := by decide +kernel
theorem dL_act_288 : decode cL_act 288 = .ok (.invokevirtual 38, 3) := by decide +kernel
theorem dL_act_291 : decode cL_act 291 = .ok (.ifCond .ne 14, 3) := by decide +kernel
theorem dL_act_294 : decode cL_act 294 = .ok (.aload_n 0, 1) := by decide +kernel
theorem dL_act_295 : decode cL_act 295 = .ok (.iload 5, 2) := by decide +kernel
theorem dL_act_297 : decode cL_act 297 = .ok (.iload 6, 2) := by decide +kernel
theorem dL_act_299 : decode cL_act 299 = .ok (.invokevirtual 41, 3) := by decide +kernel
theorem dL_act_302 : decode cL_act 302 = .ok (.goto 9, 3) := by decide +kernel
theorem dL_act_305 : decode cL_act 305 = .ok (.aload_n 0, 1) := by decide +kernel
theorem dL_act_306 : decode cL_act 306 = .ok (.iload 5, 2) := by decide +kernel
theorem dL_act_308 : decode cL_act 308 = .ok (.invokevirtual 44, 3) := by decide +kernel
theorem dL_act_311 : decode cL_act 311 = .ok (.ireturn, 1) := by decide +kernel
theorem dL_act_312 : decode cL_act 312 = .ok (.iload 7, 2) := by decide +kernel
theorem dL_act_314 : decode cL_act 314 = .ok (.ifCond .lt 34, 3) := by decide +kernel
theorem dL_act_317 : decode cL_act 317 = .ok (.iload 7, 2) := by decide +kernel
theorem dL_act_319 : decode cL_act 319 = .ok (.iload 5, 2) := by decide +kernel
theorem dL_act_321 : decode cL_act 321 = .ok (.if_icmp .eq 27, 3) := by decide +kernel
theorem dL_act_324 : decode cL_act 324 = .ok (.aload_n 0, 1) := by decide +kernel
theorem dL_act_325 : decode cL_act 325 = .ok (.iload 5, 2) := by decide +kernel
theorem dL_act_327 : decode cL_act 327 = .ok (.bipush 7, 2) := by decide +kernel
theorem dL_act_329 : decode cL_act 329 = .ok (.invokevirtual 19, 3) := by decide +kernel
theorem dL_act_332 : decode cL_act 332 = .ok (.aload_n 0, 1) := by decide +kernel
theorem dL_act_333 : decode cL_act 333 = .ok (.iload 7, 2) := by decide +kernel
theorem dL_act_335 : decode cL_act 335 = .ok (.bipush 7, 2) := by decide +kernel
theorem dL_act_337 : decode cL_act 337 = .ok (.invokevirtual 19, 3) := by decide +kernel
theorem dL_act_340 : decode cL_act 340 = .ok (.iadd, 1) := by decide +kernel
theorem dL_act_341 : decode cL_act 341 = .ok (.ifCond .ne 7, 3) := by decide +kernel
theorem dL_act_344 : decode cL_act 344 = .ok (.iconst 1, 1) := by decide +kernel
theorem dL_act_345 : decode cL_act 345 = .ok (.goto 4, 3) := by decide +kernel
theorem dL_act_348 : decode cL_act 348 = .ok (.iconst 0, 1) := by decide +kernel
theorem dL_act_349 : decode cL_act 349 = .ok (.istore 9, 2) := by decide +kernel
theorem dL_act_351 : decode cL_act 351 = .ok (.iload 9, 2) := by decide +kernel
theorem dL_act_353 : decode cL_act 353 = .ok (.ifCond .eq 12, 3) := by decide +kernel
theorem dL_act_356 : decode cL_act 356 = .ok (.aload_n 0, 1) := by decide +kernel
theorem dL_act_357 : decode cL_act 357 = .ok (.iload 5, 2) := by decide +kernel
theorem dL_act_359 : decode cL_act 359 = .ok (.invokevirtual 47, 3) := by decide +kernel
theorem dL_act_362 : decode cL_act 362 = .ok (.goto 9, 3) := by decide +kernel
theorem dL_act_365 : decode cL_act 365 = .ok (.aload_n 0, 1) := by decide +kernel
theorem dL_act_366 : decode cL_act 366 = .ok (.iload 5, 2) := by decide +kernel
theorem dL_act_368 : decode cL_act 368 = .ok (.invokevirtual 44, 3) := by decide +kernel
theorem dL_act_371 : decode cL_act 371 = .ok (.ireturn, 1) := by decide +kernel
theorem dL_act_372 : decode cL_act 372 = .ok (.aload_n 0, 1) := by decide +kernel
theorem dL_act_373 : decode cL_act 373 = .ok (.iload 5, 2) := by decide +kernel
theorem dL_act_375 : decode cL_act 375 = .ok (.iconst 1, 1) := by decide +kernel
theorem dL_act_376 : decode cL_act 376 = .ok (.invokevirtual 50, 3) := by decide +kernel
theorem dL_act_379 : decode cL_act 379 = .ok (.ifCond .ne 12, 3) := by decide +kernel
theorem dL_act_382 : decode cL_act 382 = .ok (.aload_n 0, 1) := by decide +kernel
theorem dL_act_383 : decode cL_act 383 = .ok (.iload 5, 2) := by decide +kernel
theorem dL_act_385 : decode cL_act 385 = .ok (.invokevirtual 54, 3) := by decide +kernel
theorem dL_act_388 : decode cL_act 388 = .ok (.goto 9, 3) := by decide +kernel
theorem dL_act_391 : decode cL_act 391 = .ok (.aload_n 0, 1) := by decide +kernel
theorem dL_act_392 : decode cL_act 392 = .ok (.iload 5, 2) := by decide +kernel
theorem dL_act_394 : decode cL_act 394 = .ok (.invokevirtual 44, 3) := by decide +kernel
theorem dL_act_397 : decode cL_act 397 = .ok (.ireturn, 1) := by decide +kernel
theorem dL_act_398 : decode cL_act 398 = .ok (.aload_n 0, 1) := by decide +kernel
theorem dL_act_399 : decode cL_act 399 = .ok (.invokevirtual 57, 3) := by decide +kernel
theorem dL_act_402 : decode cL_act 402 = .ok (.ireturn, 1) := by decide +kernel
theorem dL_act_403 : decode cL_act 403 = .ok (.iload_n 2, 1) := by decide +kernel
theorem dL_act_404 : decode cL_act 404 = .ok (.bipush 6, 2) := by decide +kernel
theorem dL_act_406 : decode cL_act 406 = .ok (.invokestatic 23, 3) := by decide +kernel
theorem dL_act_409 : decode cL_act 409 = .ok (.istore 10, 2) := by decide +kernel
theorem dL_act_411 : decode cL_act 411 = .ok (.iload 10, 2) := by decide +kernel
theorem dL_act_413 : decode cL_act 413 = .ok (.ifCond .ne 8, 3) := by decide +kernel
theorem dL_act_416 : decode cL_act 416 = .ok (.bipush 20, 2) := by decide +kernel
theorem dL_act_418 : decode cL_act 418 = .ok (.goto 27, 3) := by decide +kernel
theorem dL_act_421 : decode cL_act 421 = .ok (.iload 10, 2) := by decide +kernel
theorem dL_act_423 : decode cL_act 423 = .ok (.iconst 1, 1) := by decide +kernel
theorem dL_act_424 : decode cL_act 424 = .ok (.if_icmp .ne 8, 3) := by decide +kernel
theorem dL_act_427 : decode cL_act 427 = .ok (.bipush 10, 2) := by decide +kernel
theorem dL_act_429 : decode cL_act 429 = .ok (.goto 16, 3) := by decide +kernel
theorem dL_act_432 : decode cL_act 432 = .ok (.iload 10, 2) := by decide +kernel
theorem dL_act_434 : decode cL_act 434 = .ok (.iconst 5, 1) := by decide +kernel
theorem dL_act_435 : decode cL_act 435 = .ok (.if_icmp .ne 8, 3) := by decide +kernel
theorem dL_act_438 : decode cL_act 438 = .ok (.bipush 99, 2) := by decide +kernel
theorem dL_act_440 : decode cL_act 440 = .ok (.goto 5, 3) := by decide +kernel
theorem dL_act_443 : decode cL_act 443 = .ok (.bipush 9, 2) := by decide +kernel
theorem dL_act_445 : decode cL_act 445 = .ok (.istore 11, 2) := by decide +kernel
theorem dL_act_447 : decode cL_act 447 = .ok (.iload 10, 2) := by decide +kernel
theorem dL_act_449 : decode cL_act 449 = .ok (.iconst 3, 1) := by decide +kernel
theorem dL_act_450 : decode cL_act 450 = .ok (.if_icmp .eq 9, 3) := by decide +kernel
theorem dL_act_453 : decode cL_act 453 = .ok (.iload 10, 2) := by decide +kernel
theorem dL_act_455 : decode cL_act 455 = .ok (.iconst 4, 1) := by decide +kernel
theorem dL_act_456 : decode cL_act 456 = .ok (.if_icmp .ne 7, 3) := by decide +kernel
theorem dL_act_459 : decode cL_act 459 = .ok (.iconst 1, 1) := by decide +kernel
theorem dL_act_460 : decode cL_act 460 = .ok (.goto 4, 3) := by decide +kernel
theorem dL_act_463 : decode cL_act 463 = .ok (.iconst 0, 1) := by decide +kernel
theorem dL_act_464 : decode cL_act 464 = .ok (.istore 12, 2) := by decide +kernel
theorem dL_act_466 : decode cL_act 466 = .ok (.aload_n 0, 1) := by decide +kernel
theorem dL_act_467 : decode cL_act 467 = .ok (.iload 10, 2) := by decide +kernel
theorem dL_act_469 : decode cL_act 469 = .ok (.iload 12, 2) := by decide +kernel
theorem dL_act_471 : decode cL_act 471 = .ok (.iload_n 2, 1) := by decide +kernel
theorem dL_act_472 : decode cL_act 472 = .ok (.iconst 3, 1) := by decide +kernel
theorem dL_act_473 : decode cL_act 473 = .ok (.ishr, 1) := by decide +kernel
theorem dL_act_474 : decode cL_act 474 = .ok (.iload 11, 2) := by decide +kernel
theorem dL_act_476 : decode cL_act 476 = .ok (.iconst 1, 1) := by decide +kernel
theorem dL_act_477 : decode cL_act 477 = .ok (.iadd, 1) := by decide +kernel
theorem dL_act_478 : decode cL_act 478 = .ok (.iload 12, 2) := by decide +kernel
theorem dL_act_480 : decode cL_act 480 = .ok (.isub, 1) := by decide +kernel
theorem dL_act_481 : decode cL_act 481 = .ok (.invokestatic 23, 3) := by decide +kernel
theorem dL_act_484 : decode cL_act 484 = .ok (.iadd, 1) := by decide +kernel
theorem dL_act_485 : decode cL_act 485 = .ok (.invokevirtual 61, 3) := by decide +kernel
theorem dL_act_488 : decode cL_act 488 = .ok (.ireturn, 1) := by decide +kernel
theorem dL_act_489 : decode cL_act 489 = .ok (.iload_n 2, 1) := by decide +kernel
theorem dL_act_490 : decode cL_act 490 = .ok (.bipush 12, 2) := by decide +kernel
theorem dL_act_492 : decode cL_act 492 = .ok (.ishr, 1) := by decide +kernel
theorem dL_act_493 : decode cL_act 493 = .ok (.iconst 3, 1) := by decide +kernel
theorem dL_act_494 : decode cL_act 494 = .ok (.iand, 1) := by decide +kernel
theorem dL_act_495 : decode cL_act 495 = .ok (.ifCond .ne 10, 3) := by decide +kernel
theorem dL_act_498 : decode cL_act 498 = .ok (.aload_n 0, 1) := by decide +kernel
theorem dL_act_499 : decode cL_act 499 = .ok (.invokevirtual 64, 3) := by decide +kernel
theorem dL_act_502 : decode cL_act 502 = .ok (.goto 9, 3) := by decide +kernel
theorem dL_act_505 : decode cL_act 505 = .ok (.aload_n 0, 1) := by decide +kernel
theorem dL_act_506 : decode cL_act 506 = .ok (.iload 5, 2) := by decide +kernel
theorem dL_act_508 : decode cL_act 508 = .ok (.invokevirtual 44, 3) := by decide +kernel
theorem dL_act_511 : decode cL_act 511 = .ok (.ireturn, 1) := by decide +kernel
theorem dL_act_512 : decode cL_act 512 = .ok (.aload_n 0, 1) := by decide +kernel
theorem dL_act_513 : decode cL_act 513 = .ok (.iload 4, 2) := by decide +kernel
theorem dL_act_515 : decode cL_act 515 = .ok (.invokevirtual 67, 3) := by decide +kernel
theorem dL_act_518 : decode cL_act 518 = .ok (.ifCond .le 12, 3) := by decide +kernel
theorem dL_act_521 : decode cL_act 521 = .ok (.aload_n 0, 1) := by decide +kernel
theorem dL_act_522 : decode cL_act 522 = .ok (.iload 4, 2) := by decide +kernel
theorem dL_act_524 : decode cL_act 524 = .ok (.invokevirtual 70, 3) := by decide +kernel
theorem dL_act_527 : decode cL_act 527 = .ok (.goto 9, 3) := by decide +kernel
theorem dL_act_530 : decode cL_act 530 = .ok (.aload_n 0, 1) := by decide +kernel
theorem dL_act_531 : decode cL_act 531 = .ok (.iload 5, 2) := by decide +kernel
theorem dL_act_533 : decode cL_act 533 = .ok (.invokevirtual 44, 3) := by decide +kernel
theorem dL_act_536 : decode cL_act 536 = .ok (.ireturn, 1) := by decide +kernel
theorem dL_act_537 : decode cL_act 537 = .ok (.aload_n 0, 1) := by decide +kernel
theorem dL_act_538 : decode cL_act 538 = .ok (.iload 5, 2) := by decide +kernel
theorem dL_act_540 : decode cL_act 540 = .ok (.iconst 0, 1) := by decide +kernel
theorem dL_act_541 : decode cL_act 541 = .ok (.invokevirtual 50, 3) := by decide +kernel
theorem dL_act_544 : decode cL_act 544 = .ok (.ifCond .ne 14, 3) := by decide +kernel
theorem dL_act_547 : decode cL_act 547 = .ok (.aload_n 0, 1) := by decide +kernel
theorem dL_act_548 : decode cL_act 548 = .ok (.iload 5, 2) := by decide +kernel
theorem dL_act_550 : decode cL_act 550 = .ok (.iload 4, 2) := by decide +kernel
theorem dL_act_552 : decode cL_act 552 = .ok (.invokevirtual 73, 3) := by decide +kernel
theorem dL_act_555 : decode cL_act 555 = .ok (.goto 25, 3) := by decide +kernel
theorem dL_act_558 : decode cL_act 558 = .ok (.aload_n 0, 1) := by decide +kernel
theorem dL_act_559 : decode cL_act 559 = .ok (.iload 4, 2) := by decide +kernel
theorem dL_act_561 : decode cL_act 561 = .ok (.invokevirtual 67, 3) := by decide +kernel
theorem dL_act_564 : decode cL_act 564 = .ok (.ifCond .le 12, 3) := by decide +kernel
theorem dL_act_567 : decode cL_act 567 = .ok (.aload_n 0, 1) := by decide +kernel
theorem dL_act_568 : decode cL_act 568 = .ok (.iload 4, 2) := by decide +kernel
theorem dL_act_570 : decode cL_act 570 = .ok (.invokevirtual 70, 3) := by decide +kernel
theorem dL_act_573 : decode cL_act 573 = .ok (.goto 7, 3) := by decide +kernel
theorem dL_act_576 : decode cL_act 576 = .ok (.aload_n 0, 1) := by decide +kernel
theorem dL_act_577 : decode cL_act 577 = .ok (.invokevirtual 57, 3) := by decide +kernel
theorem dL_act_580 : decode cL_act 580 = .ok (.ireturn, 1) := by decide +kernel
set_option maxRecDepth 20000 in
theorem ggL_holds_X5_count : GoodIn wsL_holds wsX5_count := goodIn_ca (goodIn_r _ [6, 7, 8, 5, 9, 10, 11, 12, 13, 14, 15, 16, 17, 18, 19, 20, 21, 22, 23, 24, 25, 26, 27, 28, 29, 30, 31, 32, 33, 34, 35, 36, 37, 38, 39, 40, 41, 42, 43, 44, 45, 46, 47, 48, 49, 50, 51, 52, 53, 133, 134, 135, 136, 137, 138, 139, 140, 141, 142, 143, 144, 145, 146, 147, 148, 149, 150, 151, 152, 153, 154, 155, 156, 157, 158, 159, 160, 161, 162, 163] (by decide +kernel) (by decide +kernel)) (goodIn_sub (fun _ h => List.mem_cons_of_mem _ (List.mem_append_left _ (List.mem_append_right _ h))) (by decide +kernel))
set_option maxRecDepth 20000 in
theorem gL_holds_X5_count : GoodIn wsL_holds (wsV RL 13 RX5 yX5_count wsX5_count) := goodIn_app (goodIn_of _ (by decide +kernel)) ggL_holds_X5_count
set_option maxRecDepth 20000 in
theorem ggL_holds_X5_guest : GoodIn wsL_holds wsX5_guest := goodIn_ca (goodIn_ca (goodIn_r _ [57, 20, 58, 59, 60, 5, 61, 62, 63, 64, 41, 65, 66, 44, 7, 8, 9, 10, 11, 12, 13, 14, 67, 22, 68, 69, 26, 27, 38, 39, 70, 71, 72, 73, 74, 75, 76, 77, 78, 79, 80, 81, 82, 83, 84, 85, 86, 87, 88, 89, 90, 91, 92, 133, 134, 135, 136, 137, 141, 142, 143, 144, 145, 146, 147, 148, 149, 150, 151, 152, 153, 154, 155, 156, 157, 158, 159, 160, 161, 162, 163] (by decide +kernel) (by decide +kernel)) (goodIn_sub (fun _ h => List.mem_cons_of_mem _ (List.mem_append_right _ h)) (by decide +kernel))) (goodIn_sub (fun _ h => List.mem_cons_of_mem _ (List.mem_append_left _ (List.mem_append_right _ h))) (by decide +kernel))
set_option maxRecDepth 20000 in
theorem gL_holds_X5_guest : GoodIn wsL_holds (wsV RL 19 RX5 yX5_guest wsX5_guest) := goodIn_app (goodIn_of _ (by decide +kernel)) ggL_holds_X5_guest
set_option maxRecDepth 20000 in
theorem ggL_holds_X5_law : GoodIn wsL_holds wsX5_law := goodIn_ca (goodIn_ca (goodIn_r _ [96, 20, 97, 98, 5, 99, 7, 8, 9, 100, 101, 102, 62, 63, 10, 11, 12, 13, 14, 103, 22, 104, 105, 34, 106, 107, 108, 109, 38, 39, 133, 134, 135, 136, 137, 141, 142, 143, 144, 145, 146, 147, 148, 149, 150, 151, 152] (by decide +kernel) (by decide +kernel)) (goodIn_sub (fun _ h => List.mem_cons_of_mem _ (List.mem_append_right _ h)) (by decide +kernel))) (goodIn_sub (fun _ h => List.mem_cons_of_mem _ (List.mem_append_left _ (List.mem_append_right _ h))) (by decide +kernel))
set_option maxRecDepth 20000 in
theorem gL_holds_X5_law : GoodIn wsL_holds (wsV RL 76 RX5 yX5_law wsX5_law) := goodIn_app (goodIn_of _ (by decide +kernel)) ggL_holds_X5_law
set_option maxRecDepth 20000 in
theorem ggL_holds_X5_line : GoodIn wsL_holds wsX5_line := goodIn_ca (goodIn_r _ [113, 20, 97, 98, 5, 99, 7, 8, 9, 100, 101, 102, 62, 63, 37, 38, 39, 133, 134, 135, 136, 137, 141, 142, 143, 144, 145, 146, 147, 148, 149, 150, 151, 152, 162, 163] (by decide +kernel) (by decide +kernel)) (goodIn_sub (fun _ h => List.mem_cons_of_mem _ (List.mem_append_right _ h)) (by decide +kernel))
set_option maxRecDepth 20000 in
theorem gL_holds_X5_line : GoodIn wsL_holds (wsV RL 67 RX5 yX5_line wsX5_line) := goodIn_app (goodIn_of _ (by decide +kernel)) ggL_holds_X5_line
set_option maxRecDepth 20000 in
theorem ggL_holds_X5_noLoan : GoodIn wsL_holds wsX5_noLoan := goodIn_ca (goodIn_r _ [117, 20, 58, 59, 60, 5, 61, 62, 63, 64, 41, 65, 66, 44, 118, 119, 120, 73, 79, 70, 71, 72, 74, 38, 39, 49, 50, 51, 52, 53, 133, 134, 135, 136, 137, 141, 142, 143, 144, 145, 146, 147, 148, 149, 150, 151, 152, 153, 154, 155, 156, 157, 158, 159, 160, 161] (by decide +kernel) (by decide +kernel)) (goodIn_sub (fun _ h => List.mem_cons_of_mem _ (List.mem_append_right _ h)) (by decide +kernel))
set_option maxRecDepth 20000 in
theorem gL_holds_X5_noLoan : GoodIn wsL_holds (wsV RL 38 RX5 yX5_noLoan wsX5_noLoan) := goodIn_app (goodIn_of _ (by decide +kernel)) ggL_holds_X5_noLoan
set_option maxRecDepth 20000 in
theorem ggL_holds_X5_decentShare : GoodIn wsL_holds wsX5_decentShare := goodIn_r _ [124, 20, 125, 22, 126, 127, 26, 25, 128, 129, 130, 131, 75, 41, 76, 77, 78, 79, 70, 71, 72, 73, 74, 38, 5, 39, 132, 103, 104, 105, 34, 106, 107, 108, 109, 133, 134, 135, 136, 137, 141, 142, 143, 144, 145, 146, 147, 148, 149, 150, 151, 152, 153, 154, 155, 156, 157, 158, 159, 160, 161] (by decide +kernel) (by decide +kernel)
set_option maxRecDepth 20000 in
theorem gL_holds_X5_decentShare : GoodIn wsL_holds (wsV RL 79 RX5 yX5_decentShare wsX5_decentShare) := goodIn_app (goodIn_of _ (by decide +kernel)) ggL_holds_X5_decentShare
theorem dL_holds_0 : decode cL_holds 0 = .ok (.aload_n 0, 1) := by decide +kernel
theorem dL_holds_1 : decode cL_holds 1 = .ok (.iconst 1, 1) := by decide +kernel
theorem dL_holds_2 : decode cL_holds 2 = .ok (.invokevirtual 13, 3) := by decide +kernel
theorem dL_holds_5 : decode cL_holds 5 = .ok (.istore_n 1, 1) := by decide +kernel
theorem dL_holds_6 : decode cL_holds 6 = .ok (.bipush 6, 2) := by decide +kernel
theorem dL_holds_8 : decode cL_holds 8 = .ok (.newarray .int, 2) := by decide +kernel
theorem dL_holds_10 : decode cL_holds 10 = .ok (.astore_n 2, 1) := by decide +kernel
theorem dL_holds_11 : decode cL_holds 11 = .ok (.iconst 0, 1) := by decide +kernel
theorem dL_holds_12 : decode cL_holds 12 = .ok (.istore_n 3, 1) := by decide +kernel
theorem dL_holds_13 : decode cL_holds 13 = .ok (.iconst 0, 1) := by decide +kernel
theorem dL_holds_14 : decode cL_holds 14 = .ok (.istore 4, 2) := by decide +kernel
theorem dL_holds_16 : decode cL_holds 16 = .ok (.iconst 0, 1) := by decide +kernel
theorem dL_holds_17 : decode cL_holds 17 = .ok (.istore 5, 2) := by decide +kernel
theorem dL_holds_19 : decode cL_holds 19 = .ok (.iload_n 1, 1) := by decide +kernel
theorem dL_holds_20 : decode cL_holds 20 = .ok (.bipush 10, 2) := by decide +kernel
theorem dL_holds_22 : decode cL_holds 22 = .ok (.if_icmp .gt 64, 3) := by decide +kernel
theorem dL_holds_25 : decode cL_holds 25 = .ok (.aload_n 0, 1) := by decide +kernel
theorem dL_holds_26 : decode cL_holds 26 = .ok (.bipush 7, 2) := by decide +kernel
theorem dL_holds_28 : decode cL_holds 28 = .ok (.invokevirtual 13, 3) := by decide +kernel
theorem dL_holds_31 : decode cL_holds 31 = .ok (.aload_n 0, 1) := by decide +kernel
theorem dL_holds_32 : decode cL_holds 32 = .ok (.iconst 4, 1) := by decide +kernel
theorem dL_holds_33 : decode cL_holds 33 = .ok (.invokevirtual 13, 3) := by decide +kernel
theorem dL_holds_36 : decode cL_holds 36 = .ok (.aload_n 0, 1) := by decide +kernel
theorem dL_holds_37 : decode cL_holds 37 = .ok (.iconst 5, 1) := by decide +kernel
theorem dL_holds_38 : decode cL_holds 38 = .ok (.invokevirtual 13, 3) := by decide +kernel
theorem dL_holds_41 : decode cL_holds 41 = .ok (.iadd, 1) := by decide +kernel
theorem dL_holds_42 : decode cL_holds 42 = .ok (.if_icmp .ne 44, 3) := by decide +kernel
theorem dL_holds_45 : decode cL_holds 45 = .ok (.aload_n 0, 1) := by decide +kernel
theorem dL_holds_46 : decode cL_holds 46 = .ok (.bipush 10, 2) := by decide +kernel
theorem dL_holds_48 : decode cL_holds 48 = .ok (.invokevirtual 13, 3) := by decide +kernel
theorem dL_holds_51 : decode cL_holds 51 = .ok (.aload_n 0, 1) := by decide +kernel
theorem dL_holds_52 : decode cL_holds 52 = .ok (.bipush 8, 2) := by decide +kernel
theorem dL_holds_54 : decode cL_holds 54 = .ok (.invokevirtual 13, 3) := by decide +kernel
theorem dL_holds_57 : decode cL_holds 57 = .ok (.aload_n 0, 1) := by decide +kernel
theorem dL_holds_58 : decode cL_holds 58 = .ok (.bipush 9, 2) := by decide +kernel
theorem dL_holds_60 : decode cL_holds 60 = .ok (.invokevirtual 13, 3) := by decide +kernel
theorem dL_holds_63 : decode cL_holds 63 = .ok (.iadd, 1) := by decide +kernel
theorem dL_holds_64 : decode cL_holds 64 = .ok (.if_icmp .ne 22, 3) := by decide +kernel
theorem dL_holds_67 : decode cL_holds 67 = .ok (.aload_n 0, 1) := by decide +kernel
theorem dL_holds_68 : decode cL_holds 68 = .ok (.bipush 9, 2) := by decide +kernel
theorem dL_holds_70 : decode cL_holds 70 = .ok (.invokevirtual 13, 3) := by decide +kernel
theorem dL_holds_73 : decode cL_holds 73 = .ok (.aload_n 0, 1) := by decide +kernel
theorem dL_holds_74 : decode cL_holds 74 = .ok (.bipush 12, 2) := by decide +kernel
theorem dL_holds_76 : decode cL_holds 76 = .ok (.invokevirtual 13, 3) := by decide +kernel
theorem dL_holds_79 : decode cL_holds 79 = .ok (.if_icmp .ne 7, 3) := by decide +kernel
theorem dL_holds_82 : decode cL_holds 82 = .ok (.iconst 1, 1) := by decide +kernel
theorem dL_holds_83 : decode cL_holds 83 = .ok (.goto 4, 3) := by decide +kernel
theorem dL_holds_86 : decode cL_holds 86 = .ok (.iconst 0, 1) := by decide +kernel
theorem dL_holds_87 : decode cL_holds 87 = .ok (.istore 6, 2) := by decide +kernel
theorem dL_holds_89 : decode cL_holds 89 = .ok (.iconst 0, 1) := by decide +kernel
theorem dL_holds_90 : decode cL_holds 90 = .ok (.istore 7, 2) := by decide +kernel
theorem dL_holds_92 : decode cL_holds 92 = .ok (.iload 7, 2) := by decide +kernel
theorem dL_holds_94 : decode cL_holds 94 = .ok (.iload_n 1, 1) := by decide +kernel
theorem dL_holds_95 : decode cL_holds 95 = .ok (.if_icmp .ge 405, 3) := by decide +kernel
theorem dL_holds_98 : decode cL_holds 98 = .ok (.aload_n 0, 1) := by decide +kernel
theorem dL_holds_99 : decode cL_holds 99 = .ok (.iload 7, 2) := by decide +kernel
theorem dL_holds_101 : decode cL_holds 101 = .ok (.iconst 4, 1) := by decide +kernel
theorem dL_holds_102 : decode cL_holds 102 = .ok (.invokevirtual 19, 3) := by decide +kernel
theorem dL_holds_105 : decode cL_holds 105 = .ok (.istore 8, 2) := by decide +kernel
theorem dL_holds_107 : decode cL_holds 107 = .ok (.aload_n 0, 1) := by decide +kernel
theorem dL_holds_108 : decode cL_holds 108 = .ok (.iload 7, 2) := by decide +kernel
theorem dL_holds_110 : decode cL_holds 110 = .ok (.bipush 10, 2) := by decide +kernel
theorem dL_holds_112 : decode cL_holds 112 = .ok (.invokevirtual 19, 3) := by decide +kernel
theorem dL_holds_115 : decode cL_holds 115 = .ok (.istore 9, 2) := by decide +kernel
theorem dL_holds_117 : decode cL_holds 117 = .ok (.aload_n 0, 1) := by decide +kernel
theorem dL_holds_118 : decode cL_holds 118 = .ok (.iload 7, 2) := by decide +kernel
theorem dL_holds_120 : decode cL_holds 120 = .ok (.bipush 8, 2) := by decide +kernel
theorem dL_holds_122 : decode cL_holds 122 = .ok (.invokevirtual 19, 3) := by decide +kernel
theorem dL_holds_125 : decode cL_holds 125 = .ok (.istore 10, 2) := by decide +kernel
theorem dL_holds_127 : decode cL_holds 127 = .ok (.aload_n 2, 1) := by decide +kernel
theorem dL_holds_128 : decode cL_holds 128 = .ok (.iconst 0, 1) := by decide +kernel
theorem dL_holds_129 : decode cL_holds 129 = .ok (.dup2, 1) := by decide +kernel
theorem dL_holds_130 : decode cL_holds 130 = .ok (.iaload, 1) := by decide +kernel
theorem dL_holds_131 : decode cL_holds 131 = .ok (.aload_n 0, 1) := by decide +kernel
theorem dL_holds_132 : decode cL_holds 132 = .ok (.iload 7, 2) := by decide +kernel
theorem dL_holds_134 : decode cL_holds 134 = .ok (.iconst 1, 1) := by decide +kernel
theorem dL_holds_135 : decode cL_holds 135 = .ok (.invokevirtual 19, 3) := by decide +kernel
theorem dL_holds_138 : decode cL_holds 138 = .ok (.iadd, 1) := by decide +kernel
theorem dL_holds_139 : decode cL_holds 139 = .ok (.iastore, 1) := by decide +kernel
theorem dL_holds_140 : decode cL_holds 140 = .ok (.aload_n 2, 1) := by decide +kernel
theorem dL_holds_141 : decode cL_holds 141 = .ok (.iconst 1, 1) := by decide +kernel
theorem dL_holds_142 : decode cL_holds 142 = .ok (.dup2, 1) := by decide +kernel
theorem dL_holds_143 : decode cL_holds 143 = .ok (.iaload, 1) := by decide +kernel
theorem dL_holds_144 : decode cL_holds 144 = .ok (.aload_n 0, 1) := by decide +kernel
theorem dL_holds_145 : decode cL_holds 145 = .ok (.iload 7, 2) := by decide +kernel
theorem dL_holds_147 : decode cL_holds 147 = .ok (.iconst 2, 1) := by decide +kernel
theorem dL_holds_148 : decode cL_holds 148 = .ok (.invokevirtual 19, 3) := by decide +kernel
theorem dL_holds_151 : decode cL_holds 151 = .ok (.iadd, 1) := by decide +kernel
theorem dL_holds_152 : decode cL_holds 152 = .ok (.iastore, 1) := by decide +kernel
theorem dL_holds_153 : decode cL_holds 153 = .ok (.aload_n 2, 1) := by decide +kernel
theorem dL_holds_154 : decode cL_holds 154 = .ok (.iconst 2, 1) := by decide +kernel
theorem dL_holds_155 : decode cL_holds 155 = .ok (.dup2, 1) := by decide +kernel
theorem dL_holds_156 : decode cL_holds 156 = .ok (.iaload, 1) := by decide +kernel
theorem dL_holds_157 : decode cL_holds 157 = .ok (.aload_n 0, 1) := by decide +kernel
theorem dL_holds_158 : decode cL_holds 158 = .ok (.iload 7, 2) := by decide +kernel
theorem dL_holds_160 : decode cL_holds 160 = .ok (.iconst 3, 1) := by decide +kernel
theorem dL_holds_161 : decode cL_holds 161 = .ok (.invokevirtual 19, 3) := by decide +kernel
theorem dL_holds_164 : decode cL_holds 164 = .ok (.iadd, 1) := by decide +kernel
theorem dL_holds_165 : decode cL_holds 165 = .ok (.iastore, 1) := by decide +kernel
theorem dL_holds_166 : decode cL_holds 166 = .ok (.aload_n 2, 1) := by decide +kernel
theorem dL_holds_167 : decode cL_holds 167 = .ok (.iconst 3, 1) := by decide +kernel
theorem dL_holds_168 : decode cL_holds 168 = .ok (.dup2, 1) := by decide +kernel
theorem dL_holds_169 : decode cL_holds 169 = .ok (.iaload, 1) := by decide +kernel
theorem dL_holds_170 : decode cL_holds 170 = .ok (.aload_n 0, 1) := by decide +kernel
theorem dL_holds_171 : decode cL_holds 171 = .ok (.iload 7, 2) := by decide +kernel
theorem dL_holds_173 : decode cL_holds 173 = .ok (.bipush 6, 2) := by decide +kernel
theorem dL_holds_175 : decode cL_holds 175 = .ok (.invokevirtual 19, 3) := by decide +kernel
theorem dL_holds_178 : decode cL_holds 178 = .ok (.ifCond .le 7, 3) := by decide +kernel
theorem dL_holds_181 : decode cL_holds 181 = .ok (.iconst 1, 1) := by decide +kernel
theorem dL_holds_182 : decode cL_holds 182 = .ok (.goto 4, 3) := by decide +kernel
theorem dL_holds_185 : decode cL_holds 185 = .ok (.iconst 0, 1) := by decide +kernel
theorem dL_holds_186 : decode cL_holds 186 = .ok (.iadd, 1) := by decide +kernel
theorem dL_holds_187 : decode cL_holds 187 = .ok (.iastore, 1) := by decide +kernel
theorem dL_holds_188 : decode cL_holds 188 = .ok (.aload_n 2, 1) := by decide +kernel
theorem dL_holds_189 : decode cL_holds 189 = .ok (.iconst 4, 1) := by decide +kernel
theorem dL_holds_190 : decode cL_holds 190 = .ok (.dup2, 1) := by decide +kernel
theorem dL_holds_191 : decode cL_holds 191 = .ok (.iaload, 1) := by decide +kernel
theorem dL_holds_192 : decode cL_holds 192 = .ok (.aload_n 0, 1) := by decide +kernel
theorem dL_holds_193 : decode cL_holds 193 = .ok (.iload 7, 2) := by decide +kernel
theorem dL_holds_195 : decode cL_holds 195 = .ok (.bipush 7, 2) := by decide +kernel
theorem dL_holds_197 : decode cL_holds 197 = .ok (.invokevirtual 19, 3) := by decide +kernel
theorem dL_holds_200 : decode cL_holds 200 = .ok (.iadd, 1) := by decide +kernel
theorem dL_holds_201 : decode cL_holds 201 = .ok (.iastore, 1) := by decide +kernel
theorem dL_holds_202 : decode cL_holds 202 = .ok (.iload_n 3, 1) := by decide +kernel
theorem dL_holds_203 : decode cL_holds 203 = .ok (.aload_n 0, 1) := by decide +kernel
theorem dL_holds_204 : decode cL_holds 204 = .ok (.iload 7, 2) := by decide +kernel
theorem dL_holds_206 : decode cL_holds 206 = .ok (.bipush 7, 2) := by decide +kernel
theorem dL_holds_208 : decode cL_holds 208 = .ok (.invokevirtual 19, 3) := by decide +kernel
theorem dL_holds_211 : decode cL_holds 211 = .ok (.iload 7, 2) := by decide +kernel
theorem dL_holds_213 : decode cL_holds 213 = .ok (.ishl, 1) := by decide +kernel
theorem dL_holds_214 : decode cL_holds 214 = .ok (.ior, 1) := by decide +kernel
theorem dL_holds_215 : decode cL_holds 215 = .ok (.istore_n 3, 1) := by decide +kernel
theorem dL_holds_216 : decode cL_holds 216 = .ok (.iload 4, 2) := by decide +kernel
theorem dL_holds_218 : decode cL_holds 218 = .ok (.iload 10, 2) := by decide +kernel
theorem dL_holds_220 : decode cL_holds 220 = .ok (.ifCond .ge 7, 3) := by decide +kernel
theorem dL_holds_223 : decode cL_holds 223 = .ok (.iconst 0, 1) := by decide +kernel
theorem dL_holds_224 : decode cL_holds 224 = .ok (.goto 4, 3) := by decide +kernel
theorem dL_holds_227 : decode cL_holds 227 = .ok (.iconst 1, 1) := by decide +kernel
theorem dL_holds_228 : decode cL_holds 228 = .ok (.iadd, 1) := by decide +kernel
theorem dL_holds_229 : decode cL_holds 229 = .ok (.istore 4, 2) := by decide +kernel
theorem dL_holds_231 : decode cL_holds 231 = .ok (.iload 5, 2) := by decide +kernel
theorem dL_holds_233 : decode cL_holds 233 = .ok (.aload_n 0, 1) := by decide +kernel
theorem dL_holds_234 : decode cL_holds 234 = .ok (.iload 7, 2) := by decide +kernel
theorem dL_holds_236 : decode cL_holds 236 = .ok (.iconst 5, 1) := by decide +kernel
theorem dL_holds_237 : decode cL_holds 237 = .ok (.invokevirtual 19, 3) := by decide +kernel
theorem dL_holds_240 : decode cL_holds 240 = .ok (.aload_n 0, 1) := by decide +kernel
theorem dL_holds_241 : decode cL_holds 241 = .ok (.iconst 0, 1) := by decide +kernel
theorem dL_holds_242 : decode cL_holds 242 = .ok (.aload_n 0, 1) := by decide +kernel
theorem dL_holds_243 : decode cL_holds 243 = .ok (.iload 7, 2) := by decide +kernel
theorem dL_holds_245 : decode cL_holds 245 = .ok (.iconst 0, 1) := by decide +kernel
theorem dL_holds_246 : decode cL_holds 246 = .ok (.invokevirtual 19, 3) := by decide +kernel
theorem dL_holds_249 : decode cL_holds 249 = .ok (.aload_n 0, 1) := by decide +kernel
theorem dL_holds_250 : decode cL_holds 250 = .ok (.iconst 0, 1) := by decide +kernel
theorem dL_holds_251 : decode cL_holds 251 = .ok (.invokevirtual 13, 3) := by decide +kernel
theorem dL_holds_254 : decode cL_holds 254 = .ok (.invokevirtual 76, 3) := by decide +kernel
theorem dL_holds_257 : decode cL_holds 257 = .ok (.if_icmp .gt 7, 3) := by decide +kernel
theorem dL_holds_260 : decode cL_holds 260 = .ok (.iconst 1, 1) := by decide +kernel
theorem dL_holds_261 : decode cL_holds 261 = .ok (.goto 4, 3) := by decide +kernel
theorem dL_holds_264 : decode cL_holds 264 = .ok (.iconst 0, 1) := by decide +kernel
theorem dL_holds_265 : decode cL_holds 265 = .ok (.iadd, 1) := by decide +kernel
theorem dL_holds_266 : decode cL_holds 266 = .ok (.istore 5, 2) := by decide +kernel
theorem dL_holds_268 : decode cL_holds 268 = .ok (.iload 6, 2) := by decide +kernel
theorem dL_holds_270 : decode cL_holds 270 = .ok (.ifCond .eq 154, 3) := by decide +kernel
theorem dL_holds_273 : decode cL_holds 273 = .ok (.aload_n 0, 1) := by decide +kernel
theorem dL_holds_274 : decode cL_holds 274 = .ok (.iload 7, 2) := by decide +kernel
theorem dL_holds_276 : decode cL_holds 276 = .ok (.iconst 5, 1) := by decide +kernel
theorem dL_holds_277 : decode cL_holds 277 = .ok (.invokevirtual 19, 3) := by decide +kernel
theorem dL_holds_280 : decode cL_holds 280 = .ok (.iload 8, 2) := by decide +kernel
theorem dL_holds_282 : decode cL_holds 282 = .ok (.ifCond .ge 7, 3) := by decide +kernel
theorem dL_holds_285 : decode cL_holds 285 = .ok (.iconst 0, 1) := by decide +kernel
theorem dL_holds_286 : decode cL_holds 286 = .ok (.goto 10, 3) := by decide +kernel
theorem dL_holds_289 : decode cL_holds 289 = .ok (.aload_n 0, 1) := by decide +kernel
theorem dL_holds_290 : decode cL_holds 290 = .ok (.iload 8, 2) := by decide +kernel
theorem dL_holds_292 : decode cL_holds 292 = .ok (.iconst 3, 1) := by decide +kernel
theorem dL_holds_293 : decode cL_holds 293 = .ok (.invokevirtual 19, 3) := by decide +kernel
theorem dL_holds_296 : decode cL_holds 296 = .ok (.if_icmp .ne 128, 3) := by decide +kernel
theorem dL_holds_299 : decode cL_holds 299 = .ok (.iload 8, 2) := by decide +kernel
theorem dL_holds_301 : decode cL_holds 301 = .ok (.ifCond .lt 23, 3) := by decide +kernel
theorem dL_holds_304 : decode cL_holds 304 = .ok (.iload 8, 2) := by decide +kernel
theorem dL_holds_306 : decode cL_holds 306 = .ok (.iload 7, 2) := by decide +kernel
theorem dL_holds_308 : decode cL_holds 308 = .ok (.if_icmp .eq 16, 3) := by decide +kernel
theorem dL_holds_311 : decode cL_holds 311 = .ok (.aload_n 0, 1) := by decide +kernel
theorem dL_holds_312 : decode cL_holds 312 = .ok (.iload 8, 2) := by decide +kernel
theorem dL_holds_314 : decode cL_holds 314 = .ok (.bipush 10, 2) := by decide +kernel
theorem dL_holds_316 : decode cL_holds 316 = .ok (.invokevirtual 19, 3) := by decide +kernel
theorem dL_holds_319 : decode cL_holds 319 = .ok (.iload 7, 2) := by decide +kernel
theorem dL_holds_321 : decode cL_holds 321 = .ok (.if_icmp .ne 103, 3) := by decide +kernel
theorem dL_holds_324 : decode cL_holds 324 = .ok (.iload 9, 2) := by decide +kernel
theorem dL_holds_326 : decode cL_holds 326 = .ok (.ifCond .lt 22, 3) := by decide +kernel
theorem dL_holds_329 : decode cL_holds 329 = .ok (.iload 9, 2) := by decide +kernel
theorem dL_holds_331 : decode cL_holds 331 = .ok (.iload 7, 2) := by decide +kernel
theorem dL_holds_333 : decode cL_holds 333 = .ok (.if_icmp .eq 91, 3) := by decide +kernel
theorem dL_holds_336 : decode cL_holds 336 = .ok (.aload_n 0, 1) := by decide +kernel
theorem dL_holds_337 : decode cL_holds 337 = .ok (.iload 9, 2) := by decide +kernel
theorem dL_holds_339 : decode cL_holds 339 = .ok (.iconst 4, 1) := by decide +kernel
theorem dL_holds_340 : decode cL_holds 340 = .ok (.invokevirtual 19, 3) := by decide +kernel
theorem dL_holds_343 : decode cL_holds 343 = .ok (.iload 7, 2) := by decide +kernel
theorem dL_holds_345 : decode cL_holds 345 = .ok (.if_icmp .ne 79, 3) := by decide +kernel
theorem dL_holds_348 : decode cL_holds 348 = .ok (.iload 8, 2) := by decide +kernel
theorem dL_holds_350 : decode cL_holds 350 = .ok (.ifCond .ge 8, 3) := by decide +kernel
theorem dL_holds_353 : decode cL_holds 353 = .ok (.iload 9, 2) := by decide +kernel
theorem dL_holds_355 : decode cL_holds 355 = .ok (.ifCond .lt 69, 3) := by decide +kernel
theorem dL_holds_358 : decode cL_holds 358 = .ok (.iload 10, 2) := by decide +kernel
theorem dL_holds_360 : decode cL_holds 360 = .ok (.ifCond .ge 7, 3) := by decide +kernel
theorem dL_holds_363 : decode cL_holds 363 = .ok (.iconst 1, 1) := by decide +kernel
theorem dL_holds_364 : decode cL_holds 364 = .ok (.goto 4, 3) := by decide +kernel
theorem dL_holds_367 : decode cL_holds 367 = .ok (.iconst 0, 1) := by decide +kernel
theorem dL_holds_368 : decode cL_holds 368 = .ok (.aload_n 0, 1) := by decide +kernel
theorem dL_holds_369 : decode cL_holds 369 = .ok (.iload 7, 2) := by decide +kernel
theorem dL_holds_371 : decode cL_holds 371 = .ok (.bipush 9, 2) := by decide +kernel
theorem dL_holds_373 : decode cL_holds 373 = .ok (.invokevirtual 19, 3) := by decide +kernel
theorem dL_holds_376 : decode cL_holds 376 = .ok (.ifCond .ge 7, 3) := by decide +kernel
theorem dL_holds_379 : decode cL_holds 379 = .ok (.iconst 1, 1) := by decide +kernel
theorem dL_holds_380 : decode cL_holds 380 = .ok (.goto 4, 3) := by decide +kernel
theorem dL_holds_383 : decode cL_holds 383 = .ok (.iconst 0, 1) := by decide +kernel
theorem dL_holds_384 : decode cL_holds 384 = .ok (.if_icmp .ne 40, 3) := by decide +kernel
theorem dL_holds_387 : decode cL_holds 387 = .ok (.iload 10, 2) := by decide +kernel
theorem dL_holds_389 : decode cL_holds 389 = .ok (.ifCond .lt 31, 3) := by decide +kernel
theorem dL_holds_392 : decode cL_holds 392 = .ok (.aload_n 0, 1) := by decide +kernel
theorem dL_holds_393 : decode cL_holds 393 = .ok (.iload 7, 2) := by decide +kernel
theorem dL_holds_395 : decode cL_holds 395 = .ok (.bipush 7, 2) := by decide +kernel
theorem dL_holds_397 : decode cL_holds 397 = .ok (.invokevirtual 19, 3) := by decide +kernel
theorem dL_holds_400 : decode cL_holds 400 = .ok (.ifCond .ne 24, 3) := by decide +kernel
theorem dL_holds_403 : decode cL_holds 403 = .ok (.aload_n 0, 1) := by decide +kernel
theorem dL_holds_404 : decode cL_holds 404 = .ok (.iload 7, 2) := by decide +kernel
theorem dL_holds_406 : decode cL_holds 406 = .ok (.bipush 9, 2) := by decide +kernel
theorem dL_holds_408 : decode cL_holds 408 = .ok (.invokevirtual 19, 3) := by decide +kernel
theorem dL_holds_411 : decode cL_holds 411 = .ok (.aload_n 0, 1) := by decide +kernel
theorem dL_holds_412 : decode cL_holds 412 = .ok (.iload 10, 2) := by decide +kernel
theorem dL_holds_414 : decode cL_holds 414 = .ok (.invokevirtual 67, 3) := by decide +kernel
theorem dL_holds_417 : decode cL_holds 417 = .ok (.if_icmp .ge 7, 3) := by decide +kernel
theorem dL_holds_420 : decode cL_holds 420 = .ok (.iconst 1, 1) := by decide +kernel
theorem dL_holds_421 : decode cL_holds 421 = .ok (.goto 4, 3) := by decide +kernel
theorem dL_holds_424 : decode cL_holds 424 = .ok (.iconst 0, 1) := by decide +kernel
theorem dL_holds_425 : decode cL_holds 425 = .ok (.istore 6, 2) := by decide +kernel
theorem dL_holds_427 : decode cL_holds 427 = .ok (.iload 6, 2) := by decide +kernel
theorem dL_holds_429 : decode cL_holds 429 = .ok (.ifCond .eq 62, 3) := by decide +kernel
theorem dL_holds_432 : decode cL_holds 432 = .ok (.aload_n 0, 1) := by decide +kernel
theorem dL_holds_433 : decode cL_holds 433 = .ok (.iload 7, 2) := by decide +kernel
theorem dL_holds_435 : decode cL_holds 435 = .ok (.iconst 1, 1) := by decide +kernel
theorem dL_holds_436 : decode cL_holds 436 = .ok (.invokevirtual 19, 3) := by decide +kernel
theorem dL_holds_439 : decode cL_holds 439 = .ok (.ifCond .lt 52, 3) := by decide +kernel
theorem dL_holds_442 : decode cL_holds 442 = .ok (.aload_n 0, 1) := by decide +kernel
theorem dL_holds_443 : decode cL_holds 443 = .ok (.iload 7, 2) := by decide +kernel
theorem dL_holds_445 : decode cL_holds 445 = .ok (.iconst 1, 1) := by decide +kernel
theorem dL_holds_446 : decode cL_holds 446 = .ok (.invokevirtual 19, 3) := by decide +kernel
theorem dL_holds_449 : decode cL_holds 449 = .ok (.sipush 999, 3) := by decide +kernel
theorem dL_holds_452 : decode cL_holds 452 = .ok (.if_icmp .gt 39, 3) := by decide +kernel
theorem dL_holds_455 : decode cL_holds 455 = .ok (.aload_n 0, 1) := by decide +kernel
theorem dL_holds_456 : decode cL_holds 456 = .ok (.iload 7, 2) := by decide +kernel
theorem dL_holds_458 : decode cL_holds 458 = .ok (.iconst 2, 1) := by decide +kernel
theorem dL_holds_459 : decode cL_holds 459 = .ok (.invokevirtual 19, 3) := by decide +kernel
theorem dL_holds_462 : decode cL_holds 462 = .ok (.ifCond .lt 29, 3) := by decide +kernel
theorem dL_holds_465 : decode cL_holds 465 = .ok (.aload_n 0, 1) := by decide +kernel
theorem dL_holds_466 : decode cL_holds 466 = .ok (.iload 7, 2) := by decide +kernel
theorem dL_holds_468 : decode cL_holds 468 = .ok (.iconst 3, 1) := by decide +kernel
theorem dL_holds_469 : decode cL_holds 469 = .ok (.invokevirtual 19, 3) := by decide +kernel
theorem dL_holds_472 : decode cL_holds 472 = .ok (.ifCond .lt 19, 3) := by decide +kernel
theorem dL_holds_475 : decode cL_holds 475 = .ok (.aload_n 0, 1) := by decide +kernel
theorem dL_holds_476 : decode cL_holds 476 = .ok (.iload 7, 2) := by decide +kernel
theorem dL_holds_478 : decode cL_holds 478 = .ok (.iload 7, 2) := by decide +kernel
theorem dL_holds_480 : decode cL_holds 480 = .ok (.invokevirtual 38, 3) := by decide +kernel
theorem dL_holds_483 : decode cL_holds 483 = .ok (.iconst 1, 1) := by decide +kernel
theorem dL_holds_484 : decode cL_holds 484 = .ok (.if_icmp .ne 7, 3) := by decide +kernel
theorem dL_holds_487 : decode cL_holds 487 = .ok (.iconst 1, 1) := by decide +kernel
theorem dL_holds_488 : decode cL_holds 488 = .ok (.goto 4, 3) := by decide +kernel
theorem dL_holds_491 : decode cL_holds 491 = .ok (.iconst 0, 1) := by decide +kernel
theorem dL_holds_492 : decode cL_holds 492 = .ok (.istore 6, 2) := by decide +kernel
theorem dL_holds_494 : decode cL_holds 494 = .ok (.iinc 7 1, 3) := by decide +kernel
theorem dL_holds_497 : decode cL_holds 497 = .ok (.goto (-405), 3) := by decide +kernel
theorem dL_holds_500 : decode cL_holds 500 = .ok (.iconst 0, 1) := by decide +kernel
theorem dL_holds_501 : decode cL_holds 501 = .ok (.istore 7, 2) := by decide +kernel
theorem dL_holds_503 : decode cL_holds 503 = .ok (.iload 7, 2) := by decide +kernel
theorem dL_holds_505 : decode cL_holds 505 = .ok (.iconst 3, 1) := by decide +kernel
theorem dL_holds_506 : decode cL_holds 506 = .ok (.if_icmp .ge 20, 3) := by decide +kernel
theorem dL_holds_509 : decode cL_holds 509 = .ok (.iload 4, 2) := by decide +kernel
theorem dL_holds_511 : decode cL_holds 511 = .ok (.aload_n 0, 1) := by decide +kernel
theorem dL_holds_512 : decode cL_holds 512 = .ok (.iload 7, 2) := by decide +kernel
theorem dL_holds_514 : decode cL_holds 514 = .ok (.invokevirtual 67, 3) := by decide +kernel
theorem dL_holds_517 : decode cL_holds 517 = .ok (.isub, 1) := by decide +kernel
theorem dL_holds_518 : decode cL_holds 518 = .ok (.istore 4, 2) := by decide +kernel
theorem dL_holds_520 : decode cL_holds 520 = .ok (.iinc 7 1, 3) := by decide +kernel
theorem dL_holds_523 : decode cL_holds 523 = .ok (.goto (-20), 3) := by decide +kernel
theorem dL_holds_526 : decode cL_holds 526 = .ok (.iconst 0, 1) := by decide +kernel
theorem dL_holds_527 : decode cL_holds 527 = .ok (.istore 7, 2) := by decide +kernel
theorem dL_holds_529 : decode cL_holds 529 = .ok (.iload 7, 2) := by decide +kernel
theorem dL_holds_531 : decode cL_holds 531 = .ok (.iconst 5, 1) := by decide +kernel
theorem dL_holds_532 : decode cL_holds 532 = .ok (.if_icmp .ge 93, 3) := by decide +kernel
theorem dL_holds_535 : decode cL_holds 535 = .ok (.aload_n 0, 1) := by decide +kernel
theorem dL_holds_536 : decode cL_holds 536 = .ok (.iconst 0, 1) := by decide +kernel
theorem dL_holds_537 : decode cL_holds 537 = .ok (.invokevirtual 13, 3) := by decide +kernel
theorem dL_holds_540 : decode cL_holds 540 = .ok (.istore 8, 2) := by decide +kernel
theorem dL_holds_542 : decode cL_holds 542 = .ok (.iload 6, 2) := by decide +kernel
theorem dL_holds_544 : decode cL_holds 544 = .ok (.ifCond .eq 72, 3) := by decide +kernel
theorem dL_holds_547 : decode cL_holds 547 = .ok (.aload_n 0, 1) := by decide +kernel
theorem dL_holds_548 : decode cL_holds 548 = .ok (.iconst 1, 1) := by decide +kernel
theorem dL_holds_549 : decode cL_holds 549 = .ok (.iload 7, 2) := by decide +kernel
theorem dL_holds_551 : decode cL_holds 551 = .ok (.iload 8, 2) := by decide +kernel
theorem dL_holds_553 : decode cL_holds 553 = .ok (.invokevirtual 76, 3) := by decide +kernel
theorem dL_holds_556 : decode cL_holds 556 = .ok (.aload_n 0, 1) := by decide +kernel
theorem dL_holds_557 : decode cL_holds 557 = .ok (.iconst 0, 1) := by decide +kernel
theorem dL_holds_558 : decode cL_holds 558 = .ok (.iload 7, 2) := by decide +kernel
theorem dL_holds_560 : decode cL_holds 560 = .ok (.iload 8, 2) := by decide +kernel
theorem dL_holds_562 : decode cL_holds 562 = .ok (.invokevirtual 76, 3) := by decide +kernel
theorem dL_holds_565 : decode cL_holds 565 = .ok (.if_icmp .gt 51, 3) := by decide +kernel
theorem dL_holds_568 : decode cL_holds 568 = .ok (.aload_n 0, 1) := by decide +kernel
theorem dL_holds_569 : decode cL_holds 569 = .ok (.iconst 2, 1) := by decide +kernel
theorem dL_holds_570 : decode cL_holds 570 = .ok (.iload 7, 2) := by decide +kernel
theorem dL_holds_572 : decode cL_holds 572 = .ok (.iload 8, 2) := by decide +kernel
theorem dL_holds_574 : decode cL_holds 574 = .ok (.invokevirtual 76, 3) := by decide +kernel
theorem dL_holds_577 : decode cL_holds 577 = .ok (.aload_n 0, 1) := by decide +kernel
theorem dL_holds_578 : decode cL_holds 578 = .ok (.iconst 0, 1) := by decide +kernel
theorem dL_holds_579 : decode cL_holds 579 = .ok (.iload 7, 2) := by decide +kernel
theorem dL_holds_581 : decode cL_holds 581 = .ok (.iload 8, 2) := by decide +kernel
theorem dL_holds_583 : decode cL_holds 583 = .ok (.invokevirtual 76, 3) := by decide +kernel
theorem dL_holds_586 : decode cL_holds 586 = .ok (.if_icmp .lt 30, 3) := by decide +kernel
theorem dL_holds_589 : decode cL_holds 589 = .ok (.aload_n 0, 1) := by decide +kernel
theorem dL_holds_590 : decode cL_holds 590 = .ok (.iconst 2, 1) := by decide +kernel
theorem dL_holds_591 : decode cL_holds 591 = .ok (.iload 7, 2) := by decide +kernel
theorem dL_holds_593 : decode cL_holds 593 = .ok (.iload 8, 2) := by decide +kernel
theorem dL_holds_595 : decode cL_holds 595 = .ok (.invokevirtual 76, 3) := by decide +kernel
theorem dL_holds_598 : decode cL_holds 598 = .ok (.aload_n 0, 1) := by decide +kernel
theorem dL_holds_599 : decode cL_holds 599 = .ok (.iconst 2, 1) := by decide +kernel
theorem dL_holds_600 : decode cL_holds 600 = .ok (.iload 7, 2) := by decide +kernel
theorem dL_holds_602 : decode cL_holds 602 = .ok (.iload 8, 2) := by decide +kernel
theorem dL_holds_604 : decode cL_holds 604 = .ok (.iconst 3, 1) := by decide +kernel
theorem dL_holds_605 : decode cL_holds 605 = .ok (.iadd, 1) := by decide +kernel
theorem dL_holds_606 : decode cL_holds 606 = .ok (.invokevirtual 76, 3) := by decide +kernel
theorem dL_holds_609 : decode cL_holds 609 = .ok (.if_icmp .ne 7, 3) := by decide +kernel
theorem dL_holds_612 : decode cL_holds 612 = .ok (.iconst 1, 1) := by decide +kernel
theorem dL_holds_613 : decode cL_holds 613 = .ok (.goto 4, 3) := by decide +kernel
theorem dL_holds_616 : decode cL_holds 616 = .ok (.iconst 0, 1) := by decide +kernel
theorem dL_holds_617 : decode cL_holds 617 = .ok (.istore 6, 2) := by decide +kernel
theorem dL_holds_619 : decode cL_holds 619 = .ok (.iinc 7 1, 3) := by decide +kernel
theorem dL_holds_622 : decode cL_holds 622 = .ok (.goto (-93), 3) := by decide +kernel
theorem dL_holds_625 : decode cL_holds 625 = .ok (.iload 6, 2) := by decide +kernel
theorem dL_holds_627 : decode cL_holds 627 = .ok (.ifCond .eq 102, 3) := by decide +kernel
theorem dL_holds_630 : decode cL_holds 630 = .ok (.iload 4, 2) := by decide +kernel
theorem dL_holds_632 : decode cL_holds 632 = .ok (.ifCond .ne 97, 3) := by decide +kernel
theorem dL_holds_635 : decode cL_holds 635 = .ok (.iload_n 3, 1) := by decide +kernel
theorem dL_holds_636 : decode cL_holds 636 = .ok (.aload_n 0, 1) := by decide +kernel
theorem dL_holds_637 : decode cL_holds 637 = .ok (.bipush 14, 2) := by decide +kernel
theorem dL_holds_639 : decode cL_holds 639 = .ok (.invokevirtual 13, 3) := by decide +kernel
theorem dL_holds_642 : decode cL_holds 642 = .ok (.if_icmp .ne 87, 3) := by decide +kernel
theorem dL_holds_645 : decode cL_holds 645 = .ok (.aload_n 2, 1) := by decide +kernel
theorem dL_holds_646 : decode cL_holds 646 = .ok (.iconst 0, 1) := by decide +kernel
theorem dL_holds_647 : decode cL_holds 647 = .ok (.iaload, 1) := by decide +kernel
theorem dL_holds_648 : decode cL_holds 648 = .ok (.aload_n 0, 1) := by decide +kernel
theorem dL_holds_649 : decode cL_holds 649 = .ok (.iconst 4, 1) := by decide +kernel
theorem dL_holds_650 : decode cL_holds 650 = .ok (.invokevirtual 13, 3) := by decide +kernel
theorem dL_holds_653 : decode cL_holds 653 = .ok (.if_icmp .ne 76, 3) := by decide +kernel
theorem dL_holds_656 : decode cL_holds 656 = .ok (.aload_n 2, 1) := by decide +kernel
theorem dL_holds_657 : decode cL_holds 657 = .ok (.iconst 1, 1) := by decide +kernel
theorem dL_holds_658 : decode cL_holds 658 = .ok (.iaload, 1) := by decide +kernel
theorem dL_holds_659 : decode cL_holds 659 = .ok (.aload_n 0, 1) := by decide +kernel
theorem dL_holds_660 : decode cL_holds 660 = .ok (.bipush 6, 2) := by decide +kernel
theorem dL_holds_662 : decode cL_holds 662 = .ok (.invokevirtual 13, 3) := by decide +kernel
theorem dL_holds_665 : decode cL_holds 665 = .ok (.if_icmp .ne 64, 3) := by decide +kernel
theorem dL_holds_668 : decode cL_holds 668 = .ok (.aload_n 2, 1) := by decide +kernel
theorem dL_holds_669 : decode cL_holds 669 = .ok (.iconst 2, 1) := by decide +kernel
theorem dL_holds_670 : decode cL_holds 670 = .ok (.iaload, 1) := by decide +kernel
theorem dL_holds_671 : decode cL_holds 671 = .ok (.aload_n 0, 1) := by decide +kernel
theorem dL_holds_672 : decode cL_holds 672 = .ok (.bipush 8, 2) := by decide +kernel
theorem dL_holds_674 : decode cL_holds 674 = .ok (.invokevirtual 13, 3) := by decide +kernel
theorem dL_holds_677 : decode cL_holds 677 = .ok (.if_icmp .ne 52, 3) := by decide +kernel
theorem dL_holds_680 : decode cL_holds 680 = .ok (.aload_n 2, 1) := by decide +kernel
theorem dL_holds_681 : decode cL_holds 681 = .ok (.iconst 3, 1) := by decide +kernel
theorem dL_holds_682 : decode cL_holds 682 = .ok (.iaload, 1) := by decide +kernel
theorem dL_holds_683 : decode cL_holds 683 = .ok (.aload_n 0, 1) := by decide +kernel
theorem dL_holds_684 : decode cL_holds 684 = .ok (.bipush 13, 2) := by decide +kernel
theorem dL_holds_686 : decode cL_holds 686 = .ok (.invokevirtual 13, 3) := by decide +kernel
theorem dL_holds_689 : decode cL_holds 689 = .ok (.if_icmp .ne 40, 3) := by decide +kernel
theorem dL_holds_692 : decode cL_holds 692 = .ok (.aload_n 2, 1) := by decide +kernel
theorem dL_holds_693 : decode cL_holds 693 = .ok (.iconst 4, 1) := by decide +kernel
theorem dL_holds_694 : decode cL_holds 694 = .ok (.iaload, 1) := by decide +kernel
theorem dL_holds_695 : decode cL_holds 695 = .ok (.aload_n 0, 1) := by decide +kernel
theorem dL_holds_696 : decode cL_holds 696 = .ok (.iconst 2, 1) := by decide +kernel
theorem dL_holds_697 : decode cL_holds 697 = .ok (.invokevirtual 13, 3) := by decide +kernel
theorem dL_holds_700 : decode cL_holds 700 = .ok (.if_icmp .ne 29, 3) := by decide +kernel
theorem dL_holds_703 : decode cL_holds 703 = .ok (.aload_n 0, 1) := by decide +kernel
theorem dL_holds_704 : decode cL_holds 704 = .ok (.invokevirtual 79, 3) := by decide +kernel
theorem dL_holds_707 : decode cL_holds 707 = .ok (.iload_n 1, 1) := by decide +kernel
theorem dL_holds_708 : decode cL_holds 708 = .ok (.ifCond .ne 7, 3) := by decide +kernel
theorem dL_holds_711 : decode cL_holds 711 = .ok (.dconst 1, 1) := by decide +kernel
theorem dL_holds_712 : decode cL_holds 712 = .ok (.goto 9, 3) := by decide +kernel
theorem dL_holds_715 : decode cL_holds 715 = .ok (.iload 5, 2) := by decide +kernel
theorem dL_holds_717 : decode cL_holds 717 = .ok (.i2d, 1) := by decide +kernel
theorem dL_holds_718 : decode cL_holds 718 = .ok (.iload_n 1, 1) := by decide +kernel
theorem dL_holds_719 : decode cL_holds 719 = .ok (.i2d, 1) := by decide +kernel
theorem dL_holds_720 : decode cL_holds 720 = .ok (.ddiv, 1) := by decide +kernel
theorem dL_holds_721 : decode cL_holds 721 = .ok (.dcmp .l, 1) := by decide +kernel
theorem dL_holds_722 : decode cL_holds 722 = .ok (.ifCond .ne 7, 3) := by decide +kernel
theorem dL_holds_725 : decode cL_holds 725 = .ok (.iconst 1, 1) := by decide +kernel
theorem dL_holds_726 : decode cL_holds 726 = .ok (.goto 4, 3) := by decide +kernel
theorem dL_holds_729 : decode cL_holds 729 = .ok (.iconst 0, 1) := by decide +kernel
theorem dL_holds_730 : decode cL_holds 730 = .ok (.ireturn, 1) := by decide +kernel
set_option maxRecDepth 20000 in
theorem ggL_isAhead_L_looks : GoodIn wsL_isAhead wsL_looks := goodIn_ca (goodIn_ca (goodIn_r _ [4, 5, 6, 7, 8, 9, 10, 11, 12, 13, 14, 15, 16, 17, 18, 19, 20, 21, 22, 23, 24, 25, 26, 27, 28, 29, 30, 31, 32, 33, 34, 35, 36, 37, 38, 39, 40, 41, 42, 43, 44, 45, 46, 47, 48, 49, 50, 51, 52, 53, 54, 55, 56, 57, 58, 59, 60, 61, 62, 63, 64, 65, 66, 67, 68, 69, 70, 71, 72, 73, 74, 75, 76, 77, 78, 79, 80, 81, 82, 83, 84, 85, 86, 87, 88, 89, 90, 91, 92, 93, 94, 95, 96, 97, 252, 253, 254, 255, 256, 257, 258, 259, 260, 261, 262, 263, 264, 265, 266, 267, 268, 269, 270, 271, 272, 273, 274, 275, 276, 277, 278, 279, 280, 281, 282] (by decide +kernel) (by decide +kernel)) (goodIn_sub (fun _ h => List.mem_cons_of_mem _ (List.mem_append_left _ (List.mem_append_left _ (List.mem_append_right _ h)))) (by decide +kernel))) (goodIn_sub (fun _ h => List.mem_cons_of_mem _ (List.mem_append_left _ (List.mem_append_right _ h))) (by decide +kernel))
set_option maxRecDepth 20000 in
theorem gL_isAhead_L_looks : GoodIn wsL_isAhead (va_wsS RL 83 yL_looks wsL_looks) := goodIn_app (goodIn_of _ (by decide +kernel)) ggL_isAhead_L_looks
set_option maxRecDepth 20000 in
theorem ggL_isAhead_X5_bestGate : GoodIn wsL_isAhead wsX5_bestGate := goodIn_ca (goodIn_r _ [101, 25, 63, 64, 65, 10, 66, 67, 68, 69, 46, 70, 71, 49, 102, 27, 103, 104, 32, 105, 106, 107, 108, 31, 30, 109, 110, 111, 112, 113, 114, 115, 116, 75, 76, 77, 78, 79, 43, 44, 80, 81, 82, 83, 84, 117, 118, 119, 120, 39, 252, 253, 254, 255, 256, 260, 261, 262, 263, 264, 265, 266, 267, 268, 269, 270, 271, 272, 273, 274, 275, 276, 277, 278, 279, 280, 281, 282] (by decide +kernel) (by decide +kernel)) (goodIn_sub (fun _ h => List.mem_cons_of_mem _ (List.mem_append_left _ (List.mem_append_right _ h))) (by decide +kernel))
set_option maxRecDepth 20000 in
theorem gL_isAhead_X5_bestGate : GoodIn wsL_isAhead (wsV RL 87 RX5 yX5_bestGate wsX5_bestGate) := goodIn_app (goodIn_of _ (by decide +kernel)) ggL_isAhead_X5_bestGate
set_option maxRecDepth 20000 in
theorem ggL_isAhead_X5_ifOpened : GoodIn wsL_isAhead wsX5_ifOpened := goodIn_ca (goodIn_ca (goodIn_r _ [124, 25, 63, 64, 65, 10, 66, 67, 68, 69, 46, 70, 71, 49, 125, 126, 127, 12, 13, 14, 128, 129, 130, 15, 16, 17, 18, 19, 131, 27, 132, 133, 39, 31, 105, 106, 107, 108, 30, 109, 110, 111, 112, 113, 114, 115, 116, 75, 76, 77, 78, 79, 43, 44, 80, 81, 82, 83, 84, 117, 118, 119, 120, 134, 135, 136, 137, 138, 139, 140, 141, 142, 143, 144, 145, 146, 147, 148, 252, 253, 254, 255, 256, 260, 261, 262, 263, 264, 265, 266, 267, 268, 269, 270, 271, 272, 273, 274, 275, 276, 277, 278, 279, 280] (by decide +kernel) (by decide +kernel)) (goodIn_sub (fun _ h => List.mem_cons_of_mem _ (List.mem_append_left _ (List.mem_append_right _ h))) (by decide +kernel))) (goodIn_sub (fun _ h => List.mem_cons_of_mem _ (List.mem_append_left _ (List.mem_append_left _ (List.mem_append_right _ h)))) (by decide +kernel))
set_option maxRecDepth 20000 in
theorem gL_isAhead_X5_ifOpened : GoodIn wsL_isAhead (wsV RL 90 RX5 yX5_ifOpened wsX5_ifOpened) := goodIn_app (goodIn_of _ (by decide +kernel)) ggL_isAhead_X5_ifOpened
set_option maxRecDepth 20000 in
theorem ggL_isAhead_X5_freeIn : GoodIn wsL_isAhead wsX5_freeIn := goodIn_ca (goodIn_r _ [152, 25, 63, 64, 65, 10, 66, 67, 68, 69, 46, 70, 71, 49, 125, 126, 127, 12, 13, 14, 128, 129, 130, 153, 27, 154, 155, 30, 156, 157, 158, 159, 31, 80, 81, 82, 83, 84, 75, 76, 77, 78, 79, 43, 44, 117, 118, 119, 120, 39, 109, 110, 111, 112, 252, 253, 254, 255, 256, 260, 261, 262, 263, 264, 265, 266, 267, 268, 269, 270, 271, 272, 273, 274, 275, 276, 277, 278, 279, 280] (by decide +kernel) (by decide +kernel)) (goodIn_sub (fun _ h => List.mem_cons_of_mem _ (List.mem_append_left _ (List.mem_append_right _ h))) (by decide +kernel))
set_option maxRecDepth 20000 in
theorem gL_isAhead_X5_freeIn : GoodIn wsL_isAhead (wsV RL 93 RX5 yX5_freeIn wsX5_freeIn) := goodIn_app (goodIn_of _ (by decide +kernel)) ggL_isAhead_X5_freeIn
set_option maxRecDepth 20000 in
theorem ggL_isAhead_X5_guest : GoodIn wsL_isAhead wsX5_guest := goodIn_ca (goodIn_ca (goodIn_r _ [62, 25, 63, 64, 65, 10, 66, 67, 68, 69, 46, 70, 71, 49, 12, 13, 14, 15, 16, 17, 18, 19, 72, 27, 73, 74, 31, 32, 43, 44, 75, 76, 77, 78, 79, 80, 81, 82, 83, 84, 85, 86, 87, 88, 89, 90, 91, 92, 93, 94, 95, 96, 97, 252, 253, 254, 255, 256, 260, 261, 262, 263, 264, 265, 266, 267, 268, 269, 270, 271, 272, 273, 274, 275, 276, 277, 278, 279, 280, 281, 282] (by decide +kernel) (by decide +kernel)) (goodIn_sub (fun _ h => List.mem_cons_of_mem _ (List.mem_append_left _ (List.mem_append_right _ h))) (by decide +kernel))) (goodIn_sub (fun _ h => List.mem_cons_of_mem _ (List.mem_append_left _ (List.mem_append_left _ (List.mem_append_right _ h)))) (by decide +kernel))
set_option maxRecDepth 20000 in
theorem gL_isAhead_X5_guest : GoodIn wsL_isAhead (wsV RL 19 RX5 yX5_guest wsX5_guest) := goodIn_app (goodIn_of _ (by decide +kernel)) ggL_isAhead_X5_guest
set_option maxRecDepth 20000 in
theorem ggL_isAhead_X5_count : GoodIn wsL_isAhead wsX5_count := goodIn_ca (goodIn_r _ [11, 12, 13, 10, 14, 15, 16, 17, 18, 19, 20, 21, 22, 23, 24, 25, 26, 27, 28, 29, 30, 31, 32, 33, 34, 35, 36, 37, 38, 39, 40, 41, 42, 43, 44, 45, 46, 47, 48, 49, 50, 51, 52, 53, 54, 55, 56, 57, 58, 252, 253, 254, 255, 256, 257, 258, 259, 260, 261, 262, 263, 264, 265, 266, 267, 268, 269, 270, 271, 272, 273, 274, 275, 276, 277, 278, 279, 280, 281, 282] (by decide +kernel) (by decide +kernel)) (goodIn_sub (fun _ h => List.mem_cons_of_mem _ (List.mem_append_left _ (List.mem_append_left _ (List.mem_append_right _ h)))) (by decide +kernel))
set_option maxRecDepth 20000 in
theorem gL_isAhead_X5_count : GoodIn wsL_isAhead (wsV RL 13 RX5 yX5_count wsX5_count) := goodIn_app (goodIn_of _ (by decide +kernel)) ggL_isAhead_X5_count
set_option maxRecDepth 20000 in
theorem ggL_isAhead_X5_law : GoodIn wsL_isAhead wsX5_law := goodIn_ca (goodIn_ca (goodIn_r _ [163, 25, 125, 126, 10, 127, 12, 13, 14, 128, 129, 130, 67, 68, 15, 16, 17, 18, 19, 118, 27, 119, 120, 39, 109, 110, 111, 112, 43, 44, 252, 253, 254, 255, 256, 260, 261, 262, 263, 264, 265, 266, 267, 268, 269, 270, 271] (by decide +kernel) (by decide +kernel)) (goodIn_sub (fun _ h => List.mem_cons_of_mem _ (List.mem_append_left _ (List.mem_append_right _ h))) (by decide +kernel))) (goodIn_sub (fun _ h => List.mem_cons_of_mem _ (List.mem_append_left _ (List.mem_append_left _ (List.mem_append_right _ h)))) (by decide +kernel))
set_option maxRecDepth 20000 in
theorem gL_isAhead_X5_law : GoodIn wsL_isAhead (wsV RL 76 RX5 yX5_law wsX5_law) := goodIn_app (goodIn_of _ (by decide +kernel)) ggL_isAhead_X5_law
set_option maxRecDepth 20000 in
theorem ggL_isAhead_X5_open : GoodIn wsL_isAhead wsX5_open := goodIn_ca (goodIn_ca (goodIn_r _ [167, 25, 24, 125, 126, 10, 127, 12, 13, 14, 128, 129, 130, 67, 68, 42, 43, 44, 168, 169, 170, 171, 172, 173, 174, 175, 176, 177, 178, 179, 180, 181, 182, 183, 184, 27, 185, 186, 31, 32, 39, 30, 33, 35, 34, 36, 37, 38, 187, 188, 189, 46, 190, 191, 192, 193, 194, 83, 78, 79, 50, 58, 49, 195, 196, 197, 143, 111, 144, 198, 199, 200, 201, 202, 86, 203, 204, 94, 93, 205, 206, 207, 208, 209, 210, 211, 212, 213, 214, 215, 216, 69, 70, 71, 105, 106, 107, 108, 109, 110, 112, 113, 114, 115, 116, 75, 76, 77, 80, 81, 82, 84, 117, 118, 119, 120, 134, 135, 136, 137, 145, 146, 147, 148, 142, 138, 139, 140, 141, 217, 218, 219, 220, 221, 222, 223, 252, 253, 254, 255, 256, 260, 261, 262, 263, 264, 265, 266, 267, 268, 269, 270, 271, 281, 282, 257, 258, 259, 272, 273, 274, 275, 276, 277, 278, 279, 280] (by decide +kernel) (by decide +kernel)) (goodIn_sub (fun _ h => List.mem_cons_of_mem _ (List.mem_append_left _ (List.mem_append_right _ h))) (by decide +kernel))) (goodIn_sub (fun _ h => List.mem_cons_of_mem _ (List.mem_append_right _ h)) (by decide +kernel))
set_option maxRecDepth 20000 in
theorem gL_isAhead_X5_open : GoodIn wsL_isAhead (wsV RL 70 RX5 yX5_open wsX5_open) := goodIn_app (goodIn_of _ (by decide +kernel)) ggL_isAhead_X5_open
set_option maxRecDepth 20000 in
theorem ggL_isAhead_X5_undo : GoodIn wsL_isAhead wsX5_undo := goodIn_ca (goodIn_r _ [227, 24, 25, 168, 169, 10, 170, 171, 172, 228, 174, 229, 230, 177, 179, 180, 181, 182, 178, 183, 184, 27, 185, 186, 31, 32, 39, 30, 33, 35, 34, 36, 37, 38, 187, 188, 189, 46, 190, 191, 192, 193, 194, 83, 78, 79, 50, 58, 49, 195, 196, 197, 143, 111, 144, 198, 199, 200, 201, 202, 86, 203, 204, 94, 93, 252, 253, 254, 255, 256, 257, 258, 259, 260, 261, 262, 263, 264, 265, 266, 267, 268, 269, 270, 271, 272, 273, 274, 275, 276, 277, 278, 279, 280, 281, 282] (by decide +kernel) (by decide +kernel)) (goodIn_sub (fun _ h => List.mem_cons_of_mem _ (List.mem_append_right _ h)) (by decide +kernel))
set_option maxRecDepth 20000 in
theorem gL_isAhead_X5_undo : GoodIn wsL_isAhead (wsV RL 96 RX5 yX5_undo wsX5_undo) := goodIn_app (goodIn_of _ (by decide +kernel)) ggL_isAhead_X5_undo
set_option maxRecDepth 20000 in
theorem ggL_isAhead_X5_night : GoodIn wsL_isAhead wsX5_night := goodIn_r _ [234, 24, 25, 173, 174, 175, 176, 177, 178, 179, 180, 181, 182, 183, 184, 27, 185, 186, 31, 32, 39, 30, 33, 35, 34, 36, 37, 38, 187, 188, 189, 46, 190, 191, 192, 193, 194, 83, 78, 79, 50, 58, 49, 195, 10, 196, 197, 143, 111, 144, 198, 199, 200, 201, 202, 86, 203, 204, 94, 93, 235, 236, 237, 40, 41, 42, 43, 44, 238, 239, 240, 241, 110, 112, 215, 216, 242, 243, 244, 252, 253, 254, 255, 256, 257, 258, 259, 260, 261, 262, 263, 264, 265, 266, 267, 268, 269, 270, 271, 272, 273, 274, 275, 276, 277, 278, 279, 280, 281, 282] (by decide +kernel) (by decide +kernel)
set_option maxRecDepth 20000 in
theorem gL_isAhead_X5_night : GoodIn wsL_isAhead (wsV RL 57 RX5 yX5_night wsX5_night) := goodIn_app (goodIn_of _ (by decide +kernel)) ggL_isAhead_X5_night
set_option maxRecDepth 20000 in
theorem ggL_isAhead_X5_pay : GoodIn wsL_isAhead wsX5_pay := goodIn_ca (goodIn_r _ [248, 24, 25, 63, 64, 65, 10, 66, 67, 68, 69, 46, 70, 71, 49, 173, 174, 175, 176, 177, 178, 179, 180, 181, 182, 183, 184, 27, 185, 186, 31, 32, 39, 30, 33, 35, 34, 36, 37, 38, 187, 188, 189, 190, 191, 192, 193, 194, 83, 78, 79, 50, 58, 195, 196, 197, 143, 111, 144, 198, 199, 200, 201, 202, 86, 203, 204, 94, 93, 249, 250, 251, 142, 43, 44, 217, 218, 219, 215, 216, 42, 252, 253, 254, 255, 256, 260, 261, 262, 263, 264, 265, 266, 267, 268, 269, 270, 271, 272, 273, 274, 275, 276, 277, 278, 279, 280, 257, 258, 259, 281, 282] (by decide +kernel) (by decide +kernel)) (goodIn_sub (fun _ h => List.mem_cons_of_mem _ (List.mem_append_left _ (List.mem_append_right _ h))) (by decide +kernel))
set_option maxRecDepth 20000 in
theorem gL_isAhead_X5_pay : GoodIn wsL_isAhead (wsV RL 44 RX5 yX5_pay wsX5_pay) := goodIn_app (goodIn_of _ (by decide +kernel)) ggL_isAhead_X5_pay
theorem dL_isAhead_0 : decode cL_isAhead 0 = .ok (.aload_n 0, 1) := by decide +kernel
theorem dL_isAhead_1 : decode cL_isAhead 1 = .ok (.invokestatic 83, 3) := by decide +kernel
theorem dL_isAhead_4 : decode cL_isAhead 4 = .ok (.lstore_n 3, 1) := by decide +kernel
theorem dL_isAhead_5 : decode cL_isAhead 5 = .ok (.aload_n 0, 1) := by decide +kernel
theorem dL_isAhead_6 : decode cL_isAhead 6 = .ok (.iload_n 1, 1) := by decide +kernel
theorem dL_isAhead_7 : decode cL_isAhead 7 = .ok (.aload_n 0, 1) := by decide +kernel
theorem dL_isAhead_8 : decode cL_isAhead 8 = .ok (.iload_n 1, 1) := by decide +kernel
theorem dL_isAhead_9 : decode cL_isAhead 9 = .ok (.invokevirtual 87, 3) := by decide +kernel
theorem dL_isAhead_12 : decode cL_isAhead 12 = .ok (.iconst 0, 1) := by decide +kernel
theorem dL_isAhead_13 : decode cL_isAhead 13 = .ok (.invokevirtual 90, 3) := by decide +kernel
theorem dL_isAhead_16 : decode cL_isAhead 16 = .ok (.istore 5, 2) := by decide +kernel
theorem dL_isAhead_18 : decode cL_isAhead 18 = .ok (.aload_n 0, 1) := by decide +kernel
theorem dL_isAhead_19 : decode cL_isAhead 19 = .ok (.iload_n 1, 1) := by decide +kernel
theorem dL_isAhead_20 : decode cL_isAhead 20 = .ok (.iload_n 2, 1) := by decide +kernel
theorem dL_isAhead_21 : decode cL_isAhead 21 = .ok (.invokevirtual 93, 3) := by decide +kernel
theorem dL_isAhead_24 : decode cL_isAhead 24 = .ok (.istore 6, 2) := by decide +kernel
theorem dL_isAhead_26 : decode cL_isAhead 26 = .ok (.aload_n 0, 1) := by decide +kernel
theorem dL_isAhead_27 : decode cL_isAhead 27 = .ok (.iload_n 2, 1) := by decide +kernel
theorem dL_isAhead_28 : decode cL_isAhead 28 = .ok (.aload_n 0, 1) := by decide +kernel
theorem dL_isAhead_29 : decode cL_isAhead 29 = .ok (.iload_n 1, 1) := by decide +kernel
theorem dL_isAhead_30 : decode cL_isAhead 30 = .ok (.iconst 0, 1) := by decide +kernel
theorem dL_isAhead_31 : decode cL_isAhead 31 = .ok (.invokevirtual 19, 3) := by decide +kernel
theorem dL_isAhead_34 : decode cL_isAhead 34 = .ok (.aload_n 0, 1) := by decide +kernel
theorem dL_isAhead_35 : decode cL_isAhead 35 = .ok (.iconst 0, 1) := by decide +kernel
theorem dL_isAhead_36 : decode cL_isAhead 36 = .ok (.invokevirtual 13, 3) := by decide +kernel
theorem dL_isAhead_39 : decode cL_isAhead 39 = .ok (.invokevirtual 76, 3) := by decide +kernel
theorem dL_isAhead_42 : decode cL_isAhead 42 = .ok (.istore 7, 2) := by decide +kernel
theorem dL_isAhead_44 : decode cL_isAhead 44 = .ok (.iload 6, 2) := by decide +kernel
theorem dL_isAhead_46 : decode cL_isAhead 46 = .ok (.ifCond .ne 7, 3) := by decide +kernel
theorem dL_isAhead_49 : decode cL_isAhead 49 = .ok (.iconst 1, 1) := by decide +kernel
theorem dL_isAhead_50 : decode cL_isAhead 50 = .ok (.goto 4, 3) := by decide +kernel
theorem dL_isAhead_53 : decode cL_isAhead 53 = .ok (.iconst 0, 1) := by decide +kernel
theorem dL_isAhead_54 : decode cL_isAhead 54 = .ok (.aload_n 0, 1) := by decide +kernel
theorem dL_isAhead_55 : decode cL_isAhead 55 = .ok (.iload_n 1, 1) := by decide +kernel
theorem dL_isAhead_56 : decode cL_isAhead 56 = .ok (.iconst 5, 1) := by decide +kernel
theorem dL_isAhead_57 : decode cL_isAhead 57 = .ok (.invokevirtual 19, 3) := by decide +kernel
theorem dL_isAhead_60 : decode cL_isAhead 60 = .ok (.iload 7, 2) := by decide +kernel
theorem dL_isAhead_62 : decode cL_isAhead 62 = .ok (.if_icmp .gt 7, 3) := by decide +kernel
theorem dL_isAhead_65 : decode cL_isAhead 65 = .ok (.iconst 1, 1) := by decide +kernel
theorem dL_isAhead_66 : decode cL_isAhead 66 = .ok (.goto 4, 3) := by decide +kernel
theorem dL_isAhead_69 : decode cL_isAhead 69 = .ok (.iconst 0, 1) := by decide +kernel
theorem dL_isAhead_70 : decode cL_isAhead 70 = .ok (.if_icmp .ne 26, 3) := by decide +kernel
theorem dL_isAhead_73 : decode cL_isAhead 73 = .ok (.aload_n 0, 1) := by decide +kernel
theorem dL_isAhead_74 : decode cL_isAhead 74 = .ok (.iload_n 1, 1) := by decide +kernel
theorem dL_isAhead_75 : decode cL_isAhead 75 = .ok (.iconst 0, 1) := by decide +kernel
theorem dL_isAhead_76 : decode cL_isAhead 76 = .ok (.invokevirtual 93, 3) := by decide +kernel
theorem dL_isAhead_79 : decode cL_isAhead 79 = .ok (.ifCond .eq 13, 3) := by decide +kernel
theorem dL_isAhead_82 : decode cL_isAhead 82 = .ok (.aload_n 0, 1) := by decide +kernel
theorem dL_isAhead_83 : decode cL_isAhead 83 = .ok (.iload_n 1, 1) := by decide +kernel
theorem dL_isAhead_84 : decode cL_isAhead 84 = .ok (.iconst 0, 1) := by decide +kernel
theorem dL_isAhead_85 : decode cL_isAhead 85 = .ok (.invokevirtual 93, 3) := by decide +kernel
theorem dL_isAhead_88 : decode cL_isAhead 88 = .ok (.iconst (-1), 1) := by decide +kernel
theorem dL_isAhead_89 : decode cL_isAhead 89 = .ok (.if_icmp .ne 7, 3) := by decide +kernel
theorem dL_isAhead_92 : decode cL_isAhead 92 = .ok (.iconst 1, 1) := by decide +kernel
theorem dL_isAhead_93 : decode cL_isAhead 93 = .ok (.goto 4, 3) := by decide +kernel
theorem dL_isAhead_96 : decode cL_isAhead 96 = .ok (.iconst 0, 1) := by decide +kernel
theorem dL_isAhead_97 : decode cL_isAhead 97 = .ok (.istore 8, 2) := by decide +kernel
theorem dL_isAhead_99 : decode cL_isAhead 99 = .ok (.iconst 0, 1) := by decide +kernel
theorem dL_isAhead_100 : decode cL_isAhead 100 = .ok (.istore 9, 2) := by decide +kernel
theorem dL_isAhead_102 : decode cL_isAhead 102 = .ok (.iload 9, 2) := by decide +kernel
theorem dL_isAhead_104 : decode cL_isAhead 104 = .ok (.iconst 3, 1) := by decide +kernel
theorem dL_isAhead_105 : decode cL_isAhead 105 = .ok (.if_icmp .ge 97, 3) := by decide +kernel
theorem dL_isAhead_108 : decode cL_isAhead 108 = .ok (.aload_n 0, 1) := by decide +kernel
theorem dL_isAhead_109 : decode cL_isAhead 109 = .ok (.iload_n 1, 1) := by decide +kernel
theorem dL_isAhead_110 : decode cL_isAhead 110 = .ok (.iload 9, 2) := by decide +kernel
theorem dL_isAhead_112 : decode cL_isAhead 112 = .ok (.iconst 0, 1) := by decide +kernel
theorem dL_isAhead_113 : decode cL_isAhead 113 = .ok (.invokevirtual 90, 3) := by decide +kernel
theorem dL_isAhead_116 : decode cL_isAhead 116 = .ok (.istore 10, 2) := by decide +kernel
theorem dL_isAhead_118 : decode cL_isAhead 118 = .ok (.iload 8, 2) := by decide +kernel
theorem dL_isAhead_120 : decode cL_isAhead 120 = .ok (.ifCond .eq 73, 3) := by decide +kernel
theorem dL_isAhead_123 : decode cL_isAhead 123 = .ok (.iload 5, 2) := by decide +kernel
theorem dL_isAhead_125 : decode cL_isAhead 125 = .ok (.iload 10, 2) := by decide +kernel
theorem dL_isAhead_127 : decode cL_isAhead 127 = .ok (.if_icmp .gt 66, 3) := by decide +kernel
theorem dL_isAhead_130 : decode cL_isAhead 130 = .ok (.iload 10, 2) := by decide +kernel
theorem dL_isAhead_132 : decode cL_isAhead 132 = .ok (.ifCond .lt 61, 3) := by decide +kernel
theorem dL_isAhead_135 : decode cL_isAhead 135 = .ok (.aload_n 0, 1) := by decide +kernel
theorem dL_isAhead_136 : decode cL_isAhead 136 = .ok (.iload_n 1, 1) := by decide +kernel
theorem dL_isAhead_137 : decode cL_isAhead 137 = .ok (.iload 9, 2) := by decide +kernel
theorem dL_isAhead_139 : decode cL_isAhead 139 = .ok (.iconst 1, 1) := by decide +kernel
theorem dL_isAhead_140 : decode cL_isAhead 140 = .ok (.invokevirtual 90, 3) := by decide +kernel
theorem dL_isAhead_143 : decode cL_isAhead 143 = .ok (.aload_n 0, 1) := by decide +kernel
theorem dL_isAhead_144 : decode cL_isAhead 144 = .ok (.bipush 18, 2) := by decide +kernel
theorem dL_isAhead_146 : decode cL_isAhead 146 = .ok (.invokevirtual 13, 3) := by decide +kernel
theorem dL_isAhead_149 : decode cL_isAhead 149 = .ok (.iload 10, 2) := by decide +kernel
theorem dL_isAhead_151 : decode cL_isAhead 151 = .ok (.imul, 1) := by decide +kernel
theorem dL_isAhead_152 : decode cL_isAhead 152 = .ok (.if_icmp .ne 41, 3) := by decide +kernel
theorem dL_isAhead_155 : decode cL_isAhead 155 = .ok (.aload_n 0, 1) := by decide +kernel
theorem dL_isAhead_156 : decode cL_isAhead 156 = .ok (.iload_n 1, 1) := by decide +kernel
theorem dL_isAhead_157 : decode cL_isAhead 157 = .ok (.iload 9, 2) := by decide +kernel
theorem dL_isAhead_159 : decode cL_isAhead 159 = .ok (.iconst 2, 1) := by decide +kernel
theorem dL_isAhead_160 : decode cL_isAhead 160 = .ok (.invokevirtual 90, 3) := by decide +kernel
theorem dL_isAhead_163 : decode cL_isAhead 163 = .ok (.aload_n 0, 1) := by decide +kernel
theorem dL_isAhead_164 : decode cL_isAhead 164 = .ok (.iload_n 1, 1) := by decide +kernel
theorem dL_isAhead_165 : decode cL_isAhead 165 = .ok (.iconst 1, 1) := by decide +kernel
theorem dL_isAhead_166 : decode cL_isAhead 166 = .ok (.invokevirtual 19, 3) := by decide +kernel
theorem dL_isAhead_169 : decode cL_isAhead 169 = .ok (.if_icmp .gt 24, 3) := by decide +kernel
theorem dL_isAhead_172 : decode cL_isAhead 172 = .ok (.aload_n 0, 1) := by decide +kernel
theorem dL_isAhead_173 : decode cL_isAhead 173 = .ok (.iload_n 1, 1) := by decide +kernel
theorem dL_isAhead_174 : decode cL_isAhead 174 = .ok (.iload 9, 2) := by decide +kernel
theorem dL_isAhead_176 : decode cL_isAhead 176 = .ok (.iconst 3, 1) := by decide +kernel
theorem dL_isAhead_177 : decode cL_isAhead 177 = .ok (.invokevirtual 90, 3) := by decide +kernel
theorem dL_isAhead_180 : decode cL_isAhead 180 = .ok (.aload_n 0, 1) := by decide +kernel
theorem dL_isAhead_181 : decode cL_isAhead 181 = .ok (.iload_n 1, 1) := by decide +kernel
theorem dL_isAhead_182 : decode cL_isAhead 182 = .ok (.iconst 2, 1) := by decide +kernel
theorem dL_isAhead_183 : decode cL_isAhead 183 = .ok (.invokevirtual 19, 3) := by decide +kernel
theorem dL_isAhead_186 : decode cL_isAhead 186 = .ok (.if_icmp .lt 7, 3) := by decide +kernel
theorem dL_isAhead_189 : decode cL_isAhead 189 = .ok (.iconst 1, 1) := by decide +kernel
theorem dL_isAhead_190 : decode cL_isAhead 190 = .ok (.goto 4, 3) := by decide +kernel
theorem dL_isAhead_193 : decode cL_isAhead 193 = .ok (.iconst 0, 1) := by decide +kernel
theorem dL_isAhead_194 : decode cL_isAhead 194 = .ok (.istore 8, 2) := by decide +kernel
theorem dL_isAhead_196 : decode cL_isAhead 196 = .ok (.iinc 9 1, 3) := by decide +kernel
theorem dL_isAhead_199 : decode cL_isAhead 199 = .ok (.goto (-97), 3) := by decide +kernel
theorem dL_isAhead_202 : decode cL_isAhead 202 = .ok (.iconst (-1), 1) := by decide +kernel
theorem dL_isAhead_203 : decode cL_isAhead 203 = .ok (.istore 9, 2) := by decide +kernel
theorem dL_isAhead_205 : decode cL_isAhead 205 = .ok (.iconst 0, 1) := by decide +kernel
theorem dL_isAhead_206 : decode cL_isAhead 206 = .ok (.istore 10, 2) := by decide +kernel
theorem dL_isAhead_208 : decode cL_isAhead 208 = .ok (.iload 10, 2) := by decide +kernel
theorem dL_isAhead_210 : decode cL_isAhead 210 = .ok (.aload_n 0, 1) := by decide +kernel
theorem dL_isAhead_211 : decode cL_isAhead 211 = .ok (.iconst 1, 1) := by decide +kernel
theorem dL_isAhead_212 : decode cL_isAhead 212 = .ok (.invokevirtual 13, 3) := by decide +kernel
theorem dL_isAhead_215 : decode cL_isAhead 215 = .ok (.if_icmp .ge 41, 3) := by decide +kernel
theorem dL_isAhead_218 : decode cL_isAhead 218 = .ok (.aload_n 0, 1) := by decide +kernel
theorem dL_isAhead_219 : decode cL_isAhead 219 = .ok (.iload 10, 2) := by decide +kernel
theorem dL_isAhead_221 : decode cL_isAhead 221 = .ok (.bipush 8, 2) := by decide +kernel
theorem dL_isAhead_223 : decode cL_isAhead 223 = .ok (.invokevirtual 19, 3) := by decide +kernel
theorem dL_isAhead_226 : decode cL_isAhead 226 = .ok (.iload_n 2, 1) := by decide +kernel
theorem dL_isAhead_227 : decode cL_isAhead 227 = .ok (.if_icmp .ne 19, 3) := by decide +kernel
theorem dL_isAhead_230 : decode cL_isAhead 230 = .ok (.aload_n 0, 1) := by decide +kernel
theorem dL_isAhead_231 : decode cL_isAhead 231 = .ok (.iload 10, 2) := by decide +kernel
theorem dL_isAhead_233 : decode cL_isAhead 233 = .ok (.bipush 9, 2) := by decide +kernel
theorem dL_isAhead_235 : decode cL_isAhead 235 = .ok (.invokevirtual 19, 3) := by decide +kernel
theorem dL_isAhead_238 : decode cL_isAhead 238 = .ok (.ifCond .ne 8, 3) := by decide +kernel
theorem dL_isAhead_241 : decode cL_isAhead 241 = .ok (.iload 10, 2) := by decide +kernel
theorem dL_isAhead_243 : decode cL_isAhead 243 = .ok (.goto 5, 3) := by decide +kernel
theorem dL_isAhead_246 : decode cL_isAhead 246 = .ok (.iload 9, 2) := by decide +kernel
theorem dL_isAhead_248 : decode cL_isAhead 248 = .ok (.istore 9, 2) := by decide +kernel
theorem dL_isAhead_250 : decode cL_isAhead 250 = .ok (.iinc 10 1, 3) := by decide +kernel
theorem dL_isAhead_253 : decode cL_isAhead 253 = .ok (.goto (-45), 3) := by decide +kernel
theorem dL_isAhead_256 : decode cL_isAhead 256 = .ok (.iload 8, 2) := by decide +kernel
theorem dL_isAhead_258 : decode cL_isAhead 258 = .ok (.ifCond .eq 158, 3) := by decide +kernel
theorem dL_isAhead_261 : decode cL_isAhead 261 = .ok (.iload 9, 2) := by decide +kernel
theorem dL_isAhead_263 : decode cL_isAhead 263 = .ok (.ifCond .lt 153, 3) := by decide +kernel
theorem dL_isAhead_266 : decode cL_isAhead 266 = .ok (.aload_n 0, 1) := by decide +kernel
theorem dL_isAhead_267 : decode cL_isAhead 267 = .ok (.iload 9, 2) := by decide +kernel
theorem dL_isAhead_269 : decode cL_isAhead 269 = .ok (.iload_n 2, 1) := by decide +kernel
theorem dL_isAhead_270 : decode cL_isAhead 270 = .ok (.iconst 0, 1) := by decide +kernel
theorem dL_isAhead_271 : decode cL_isAhead 271 = .ok (.invokevirtual 90, 3) := by decide +kernel
theorem dL_isAhead_274 : decode cL_isAhead 274 = .ok (.istore 10, 2) := by decide +kernel
theorem dL_isAhead_276 : decode cL_isAhead 276 = .ok (.aload_n 0, 1) := by decide +kernel
theorem dL_isAhead_277 : decode cL_isAhead 277 = .ok (.iload 9, 2) := by decide +kernel
theorem dL_isAhead_279 : decode cL_isAhead 279 = .ok (.iload_n 2, 1) := by decide +kernel
theorem dL_isAhead_280 : decode cL_isAhead 280 = .ok (.iconst 3, 1) := by decide +kernel
theorem dL_isAhead_281 : decode cL_isAhead 281 = .ok (.invokevirtual 90, 3) := by decide +kernel
theorem dL_isAhead_284 : decode cL_isAhead 284 = .ok (.istore 11, 2) := by decide +kernel
theorem dL_isAhead_286 : decode cL_isAhead 286 = .ok (.aload_n 0, 1) := by decide +kernel
theorem dL_isAhead_287 : decode cL_isAhead 287 = .ok (.bipush 12, 2) := by decide +kernel
theorem dL_isAhead_289 : decode cL_isAhead 289 = .ok (.invokevirtual 13, 3) := by decide +kernel
theorem dL_isAhead_292 : decode cL_isAhead 292 = .ok (.istore 12, 2) := by decide +kernel
theorem dL_isAhead_294 : decode cL_isAhead 294 = .ok (.aload_n 0, 1) := by decide +kernel
theorem dL_isAhead_295 : decode cL_isAhead 295 = .ok (.bipush 8, 2) := by decide +kernel
theorem dL_isAhead_297 : decode cL_isAhead 297 = .ok (.invokevirtual 13, 3) := by decide +kernel
theorem dL_isAhead_300 : decode cL_isAhead 300 = .ok (.istore 13, 2) := by decide +kernel
theorem dL_isAhead_302 : decode cL_isAhead 302 = .ok (.aload_n 0, 1) := by decide +kernel
theorem dL_isAhead_303 : decode cL_isAhead 303 = .ok (.iload_n 2, 1) := by decide +kernel
theorem dL_isAhead_304 : decode cL_isAhead 304 = .ok (.invokevirtual 70, 3) := by decide +kernel
theorem dL_isAhead_307 : decode cL_isAhead 307 = .ok (.iload 10, 2) := by decide +kernel
theorem dL_isAhead_309 : decode cL_isAhead 309 = .ok (.if_icmp .ne 104, 3) := by decide +kernel
theorem dL_isAhead_312 : decode cL_isAhead 312 = .ok (.aload_n 0, 1) := by decide +kernel
theorem dL_isAhead_313 : decode cL_isAhead 313 = .ok (.iload 9, 2) := by decide +kernel
theorem dL_isAhead_315 : decode cL_isAhead 315 = .ok (.bipush 7, 2) := by decide +kernel
theorem dL_isAhead_317 : decode cL_isAhead 317 = .ok (.invokevirtual 19, 3) := by decide +kernel
theorem dL_isAhead_320 : decode cL_isAhead 320 = .ok (.iconst 1, 1) := by decide +kernel
theorem dL_isAhead_321 : decode cL_isAhead 321 = .ok (.if_icmp .ne 92, 3) := by decide +kernel
theorem dL_isAhead_324 : decode cL_isAhead 324 = .ok (.aload_n 0, 1) := by decide +kernel
theorem dL_isAhead_325 : decode cL_isAhead 325 = .ok (.iload 9, 2) := by decide +kernel
theorem dL_isAhead_327 : decode cL_isAhead 327 = .ok (.iconst 2, 1) := by decide +kernel
theorem dL_isAhead_328 : decode cL_isAhead 328 = .ok (.invokevirtual 19, 3) := by decide +kernel
theorem dL_isAhead_331 : decode cL_isAhead 331 = .ok (.iload 11, 2) := by decide +kernel
theorem dL_isAhead_333 : decode cL_isAhead 333 = .ok (.if_icmp .ne 80, 3) := by decide +kernel
theorem dL_isAhead_336 : decode cL_isAhead 336 = .ok (.aload_n 0, 1) := by decide +kernel
theorem dL_isAhead_337 : decode cL_isAhead 337 = .ok (.bipush 12, 2) := by decide +kernel
theorem dL_isAhead_339 : decode cL_isAhead 339 = .ok (.invokevirtual 13, 3) := by decide +kernel
theorem dL_isAhead_342 : decode cL_isAhead 342 = .ok (.iload 12, 2) := by decide +kernel
theorem dL_isAhead_344 : decode cL_isAhead 344 = .ok (.iload 10, 2) := by decide +kernel
theorem dL_isAhead_346 : decode cL_isAhead 346 = .ok (.iadd, 1) := by decide +kernel
theorem dL_isAhead_347 : decode cL_isAhead 347 = .ok (.if_icmp .ne 66, 3) := by decide +kernel
theorem dL_isAhead_350 : decode cL_isAhead 350 = .ok (.aload_n 0, 1) := by decide +kernel
theorem dL_isAhead_351 : decode cL_isAhead 351 = .ok (.bipush 8, 2) := by decide +kernel
theorem dL_isAhead_353 : decode cL_isAhead 353 = .ok (.invokevirtual 13, 3) := by decide +kernel
theorem dL_isAhead_356 : decode cL_isAhead 356 = .ok (.iload 13, 2) := by decide +kernel
theorem dL_isAhead_358 : decode cL_isAhead 358 = .ok (.iload 10, 2) := by decide +kernel
theorem dL_isAhead_360 : decode cL_isAhead 360 = .ok (.isub, 1) := by decide +kernel
theorem dL_isAhead_361 : decode cL_isAhead 361 = .ok (.if_icmp .ne 52, 3) := by decide +kernel
theorem dL_isAhead_364 : decode cL_isAhead 364 = .ok (.aload_n 0, 1) := by decide +kernel
theorem dL_isAhead_365 : decode cL_isAhead 365 = .ok (.iload 9, 2) := by decide +kernel
theorem dL_isAhead_367 : decode cL_isAhead 367 = .ok (.bipush 6, 2) := by decide +kernel
theorem dL_isAhead_369 : decode cL_isAhead 369 = .ok (.invokevirtual 19, 3) := by decide +kernel
theorem dL_isAhead_372 : decode cL_isAhead 372 = .ok (.ifCond .gt 30, 3) := by decide +kernel
theorem dL_isAhead_375 : decode cL_isAhead 375 = .ok (.aload_n 0, 1) := by decide +kernel
theorem dL_isAhead_376 : decode cL_isAhead 376 = .ok (.iload 9, 2) := by decide +kernel
theorem dL_isAhead_378 : decode cL_isAhead 378 = .ok (.iconst 5, 1) := by decide +kernel
theorem dL_isAhead_379 : decode cL_isAhead 379 = .ok (.invokevirtual 19, 3) := by decide +kernel
theorem dL_isAhead_382 : decode cL_isAhead 382 = .ok (.aload_n 0, 1) := by decide +kernel
theorem dL_isAhead_383 : decode cL_isAhead 383 = .ok (.iload_n 2, 1) := by decide +kernel
theorem dL_isAhead_384 : decode cL_isAhead 384 = .ok (.aload_n 0, 1) := by decide +kernel
theorem dL_isAhead_385 : decode cL_isAhead 385 = .ok (.iload 9, 2) := by decide +kernel
theorem dL_isAhead_387 : decode cL_isAhead 387 = .ok (.iconst 0, 1) := by decide +kernel
theorem dL_isAhead_388 : decode cL_isAhead 388 = .ok (.invokevirtual 19, 3) := by decide +kernel
theorem dL_isAhead_391 : decode cL_isAhead 391 = .ok (.aload_n 0, 1) := by decide +kernel
theorem dL_isAhead_392 : decode cL_isAhead 392 = .ok (.iconst 0, 1) := by decide +kernel
theorem dL_isAhead_393 : decode cL_isAhead 393 = .ok (.invokevirtual 13, 3) := by decide +kernel
theorem dL_isAhead_396 : decode cL_isAhead 396 = .ok (.invokevirtual 76, 3) := by decide +kernel
theorem dL_isAhead_399 : decode cL_isAhead 399 = .ok (.if_icmp .gt 14, 3) := by decide +kernel
theorem dL_isAhead_402 : decode cL_isAhead 402 = .ok (.aload_n 0, 1) := by decide +kernel
theorem dL_isAhead_403 : decode cL_isAhead 403 = .ok (.invokevirtual 96, 3) := by decide +kernel
theorem dL_isAhead_406 : decode cL_isAhead 406 = .ok (.ifCond .lt 7, 3) := by decide +kernel
theorem dL_isAhead_409 : decode cL_isAhead 409 = .ok (.iconst 1, 1) := by decide +kernel
theorem dL_isAhead_410 : decode cL_isAhead 410 = .ok (.goto 4, 3) := by decide +kernel
theorem dL_isAhead_413 : decode cL_isAhead 413 = .ok (.iconst 0, 1) := by decide +kernel
theorem dL_isAhead_414 : decode cL_isAhead 414 = .ok (.istore 8, 2) := by decide +kernel
theorem dL_isAhead_416 : decode cL_isAhead 416 = .ok (.aload_n 0, 1) := by decide +kernel
theorem dL_isAhead_417 : decode cL_isAhead 417 = .ok (.iconst 2, 1) := by decide +kernel
theorem dL_isAhead_418 : decode cL_isAhead 418 = .ok (.invokevirtual 13, 3) := by decide +kernel
theorem dL_isAhead_421 : decode cL_isAhead 421 = .ok (.istore 10, 2) := by decide +kernel
theorem dL_isAhead_423 : decode cL_isAhead 423 = .ok (.aload_n 0, 1) := by decide +kernel
theorem dL_isAhead_424 : decode cL_isAhead 424 = .ok (.iconst 0, 1) := by decide +kernel
theorem dL_isAhead_425 : decode cL_isAhead 425 = .ok (.invokevirtual 13, 3) := by decide +kernel
theorem dL_isAhead_428 : decode cL_isAhead 428 = .ok (.istore 11, 2) := by decide +kernel
theorem dL_isAhead_430 : decode cL_isAhead 430 = .ok (.iload 8, 2) := by decide +kernel
theorem dL_isAhead_432 : decode cL_isAhead 432 = .ok (.ifCond .eq 60, 3) := by decide +kernel
theorem dL_isAhead_435 : decode cL_isAhead 435 = .ok (.aload_n 0, 1) := by decide +kernel
theorem dL_isAhead_436 : decode cL_isAhead 436 = .ok (.invokevirtual 57, 3) := by decide +kernel
theorem dL_isAhead_439 : decode cL_isAhead 439 = .ok (.iload 10, 2) := by decide +kernel
theorem dL_isAhead_441 : decode cL_isAhead 441 = .ok (.if_icmp .ne 51, 3) := by decide +kernel
theorem dL_isAhead_444 : decode cL_isAhead 444 = .ok (.aload_n 0, 1) := by decide +kernel
theorem dL_isAhead_445 : decode cL_isAhead 445 = .ok (.iconst 2, 1) := by decide +kernel
theorem dL_isAhead_446 : decode cL_isAhead 446 = .ok (.invokevirtual 13, 3) := by decide +kernel
theorem dL_isAhead_449 : decode cL_isAhead 449 = .ok (.ifCond .ne 43, 3) := by decide +kernel
theorem dL_isAhead_452 : decode cL_isAhead 452 = .ok (.aload_n 0, 1) := by decide +kernel
theorem dL_isAhead_453 : decode cL_isAhead 453 = .ok (.iconst 3, 1) := by decide +kernel
theorem dL_isAhead_454 : decode cL_isAhead 454 = .ok (.invokevirtual 13, 3) := by decide +kernel
theorem dL_isAhead_457 : decode cL_isAhead 457 = .ok (.ifCond .ne 35, 3) := by decide +kernel
theorem dL_isAhead_460 : decode cL_isAhead 460 = .ok (.aload_n 0, 1) := by decide +kernel
theorem dL_isAhead_461 : decode cL_isAhead 461 = .ok (.bipush 14, 2) := by decide +kernel
theorem dL_isAhead_463 : decode cL_isAhead 463 = .ok (.invokevirtual 13, 3) := by decide +kernel
theorem dL_isAhead_466 : decode cL_isAhead 466 = .ok (.ifCond .ne 26, 3) := by decide +kernel
theorem dL_isAhead_469 : decode cL_isAhead 469 = .ok (.aload_n 0, 1) := by decide +kernel
theorem dL_isAhead_470 : decode cL_isAhead 470 = .ok (.iconst 0, 1) := by decide +kernel
theorem dL_isAhead_471 : decode cL_isAhead 471 = .ok (.invokevirtual 13, 3) := by decide +kernel
theorem dL_isAhead_474 : decode cL_isAhead 474 = .ok (.iload 11, 2) := by decide +kernel
theorem dL_isAhead_476 : decode cL_isAhead 476 = .ok (.iconst 1, 1) := by decide +kernel
theorem dL_isAhead_477 : decode cL_isAhead 477 = .ok (.iadd, 1) := by decide +kernel
theorem dL_isAhead_478 : decode cL_isAhead 478 = .ok (.if_icmp .ne 14, 3) := by decide +kernel
theorem dL_isAhead_481 : decode cL_isAhead 481 = .ok (.aload_n 0, 1) := by decide +kernel
theorem dL_isAhead_482 : decode cL_isAhead 482 = .ok (.invokevirtual 96, 3) := by decide +kernel
theorem dL_isAhead_485 : decode cL_isAhead 485 = .ok (.ifCond .lt 7, 3) := by decide +kernel
theorem dL_isAhead_488 : decode cL_isAhead 488 = .ok (.iconst 1, 1) := by decide +kernel
theorem dL_isAhead_489 : decode cL_isAhead 489 = .ok (.goto 4, 3) := by decide +kernel
theorem dL_isAhead_492 : decode cL_isAhead 492 = .ok (.iconst 0, 1) := by decide +kernel
theorem dL_isAhead_493 : decode cL_isAhead 493 = .ok (.istore 8, 2) := by decide +kernel
theorem dL_isAhead_495 : decode cL_isAhead 495 = .ok (.aload_n 0, 1) := by decide +kernel
theorem dL_isAhead_496 : decode cL_isAhead 496 = .ok (.iload_n 1, 1) := by decide +kernel
theorem dL_isAhead_497 : decode cL_isAhead 497 = .ok (.iconst 2, 1) := by decide +kernel
theorem dL_isAhead_498 : decode cL_isAhead 498 = .ok (.invokevirtual 19, 3) := by decide +kernel
theorem dL_isAhead_501 : decode cL_isAhead 501 = .ok (.istore 12, 2) := by decide +kernel
theorem dL_isAhead_503 : decode cL_isAhead 503 = .ok (.iload 8, 2) := by decide +kernel
theorem dL_isAhead_505 : decode cL_isAhead 505 = .ok (.ifCond .eq 57, 3) := by decide +kernel
theorem dL_isAhead_508 : decode cL_isAhead 508 = .ok (.aload_n 0, 1) := by decide +kernel
theorem dL_isAhead_509 : decode cL_isAhead 509 = .ok (.iload_n 1, 1) := by decide +kernel
theorem dL_isAhead_510 : decode cL_isAhead 510 = .ok (.invokevirtual 44, 3) := by decide +kernel
theorem dL_isAhead_513 : decode cL_isAhead 513 = .ok (.aload_n 0, 1) := by decide +kernel
theorem dL_isAhead_514 : decode cL_isAhead 514 = .ok (.iload_n 1, 1) := by decide +kernel
theorem dL_isAhead_515 : decode cL_isAhead 515 = .ok (.iconst 2, 1) := by decide +kernel
theorem dL_isAhead_516 : decode cL_isAhead 516 = .ok (.invokevirtual 19, 3) := by decide +kernel
theorem dL_isAhead_519 : decode cL_isAhead 519 = .ok (.if_icmp .ne 43, 3) := by decide +kernel
theorem dL_isAhead_522 : decode cL_isAhead 522 = .ok (.aload_n 0, 1) := by decide +kernel
theorem dL_isAhead_523 : decode cL_isAhead 523 = .ok (.iload_n 1, 1) := by decide +kernel
theorem dL_isAhead_524 : decode cL_isAhead 524 = .ok (.iconst 2, 1) := by decide +kernel
theorem dL_isAhead_525 : decode cL_isAhead 525 = .ok (.invokevirtual 19, 3) := by decide +kernel
theorem dL_isAhead_528 : decode cL_isAhead 528 = .ok (.iload 12, 2) := by decide +kernel
theorem dL_isAhead_530 : decode cL_isAhead 530 = .ok (.if_icmp .gt 32, 3) := by decide +kernel
theorem dL_isAhead_533 : decode cL_isAhead 533 = .ok (.aload_n 0, 1) := by decide +kernel
theorem dL_isAhead_534 : decode cL_isAhead 534 = .ok (.iload_n 1, 1) := by decide +kernel
theorem dL_isAhead_535 : decode cL_isAhead 535 = .ok (.iconst 1, 1) := by decide +kernel
theorem dL_isAhead_536 : decode cL_isAhead 536 = .ok (.invokevirtual 19, 3) := by decide +kernel
theorem dL_isAhead_539 : decode cL_isAhead 539 = .ok (.ifCond .eq 12, 3) := by decide +kernel
theorem dL_isAhead_542 : decode cL_isAhead 542 = .ok (.aload_n 0, 1) := by decide +kernel
theorem dL_isAhead_543 : decode cL_isAhead 543 = .ok (.iload_n 1, 1) := by decide +kernel
theorem dL_isAhead_544 : decode cL_isAhead 544 = .ok (.iconst 2, 1) := by decide +kernel
theorem dL_isAhead_545 : decode cL_isAhead 545 = .ok (.invokevirtual 19, 3) := by decide +kernel
theorem dL_isAhead_548 : decode cL_isAhead 548 = .ok (.ifCond .ne 14, 3) := by decide +kernel
theorem dL_isAhead_551 : decode cL_isAhead 551 = .ok (.aload_n 0, 1) := by decide +kernel
theorem dL_isAhead_552 : decode cL_isAhead 552 = .ok (.invokevirtual 96, 3) := by decide +kernel
theorem dL_isAhead_555 : decode cL_isAhead 555 = .ok (.ifCond .lt 7, 3) := by decide +kernel
theorem dL_isAhead_558 : decode cL_isAhead 558 = .ok (.iconst 1, 1) := by decide +kernel
theorem dL_isAhead_559 : decode cL_isAhead 559 = .ok (.goto 4, 3) := by decide +kernel
theorem dL_isAhead_562 : decode cL_isAhead 562 = .ok (.iconst 0, 1) := by decide +kernel
theorem dL_isAhead_563 : decode cL_isAhead 563 = .ok (.istore 8, 2) := by decide +kernel
theorem dL_isAhead_565 : decode cL_isAhead 565 = .ok (.iload 8, 2) := by decide +kernel
theorem dL_isAhead_567 : decode cL_isAhead 567 = .ok (.ifCond .eq 16, 3) := by decide +kernel
theorem dL_isAhead_570 : decode cL_isAhead 570 = .ok (.aload_n 0, 1) := by decide +kernel
theorem dL_isAhead_571 : decode cL_isAhead 571 = .ok (.invokestatic 83, 3) := by decide +kernel
theorem dL_isAhead_574 : decode cL_isAhead 574 = .ok (.lload_n 3, 1) := by decide +kernel
theorem dL_isAhead_575 : decode cL_isAhead 575 = .ok (.lcmp, 1) := by decide +kernel
theorem dL_isAhead_576 : decode cL_isAhead 576 = .ok (.ifCond .ne 7, 3) := by decide +kernel
theorem dL_isAhead_579 : decode cL_isAhead 579 = .ok (.iconst 1, 1) := by decide +kernel
theorem dL_isAhead_580 : decode cL_isAhead 580 = .ok (.goto 4, 3) := by decide +kernel
theorem dL_isAhead_583 : decode cL_isAhead 583 = .ok (.iconst 0, 1) := by decide +kernel
theorem dL_isAhead_584 : decode cL_isAhead 584 = .ok (.ireturn, 1) := by decide +kernel
set_option maxRecDepth 20000 in
theorem ggL_law_X5_init : GoodIn wsL_law wsX5_init := goodIn_r _ [5, 6, 7, 8, 9, 10, 11, 12, 13, 14, 15, 16, 17, 18, 19, 20, 21, 22, 23, 24, 25, 26, 27, 28, 29, 30, 31, 32, 33, 34, 35, 36, 37, 38, 39, 40, 41, 42, 43, 44, 45, 46, 47, 48, 49, 50, 51, 52, 53, 54, 2, 55, 56, 57, 58, 59, 60, 61, 62, 63, 64, 65, 66, 67, 68, 69, 70, 71, 72, 427, 428, 429, 430, 431, 432, 433, 434, 435, 436, 437, 438, 422, 423, 424, 425, 426, 439, 440, 441, 442, 443, 444, 445, 446, 447, 448, 449, 450, 451, 452, 453, 454] (by decide +kernel) (by decide +kernel)
set_option maxRecDepth 20000 in
theorem gL_law_X5_init : GoodIn wsL_law (wsX5_init) := ggL_law_X5_init
set_option maxRecDepth 20000 in
theorem ggL_law_X5_keep : GoodIn wsL_law wsX5_keep := goodIn_r _ [76, 13, 12, 22, 77, 11, 78, 79, 29, 33, 35, 80, 81, 82, 83, 84, 85, 86, 36, 37, 87, 28, 88, 89, 41, 42, 43, 44, 45, 46, 47, 48, 90, 54, 2, 55, 56, 57, 58, 59, 60, 61, 62, 63, 91, 32, 92, 93, 52, 53, 422, 423, 424, 425, 426, 427, 428, 429, 430, 431, 432, 433, 434, 435, 436, 437, 438, 444, 445, 446, 447, 448, 449, 450, 451, 452, 453, 454] (by decide +kernel) (by decide +kernel)
set_option maxRecDepth 20000 in
theorem gL_law_X5_keep : GoodIn wsL_law (wsV RL 100 RX5 yX5_keep wsX5_keep) := goodIn_app (goodIn_of _ (by decide +kernel)) ggL_law_X5_keep
theorem goodIn_hd {big a : List Cond} {c : Cond} (h : c ∈ big) (g : goodWord c = true) (ha : GoodIn big a) : GoodIn big (c :: a) := fun w hw => (List.mem_cons.mp hw).elim (fun e => by subst e; exact ⟨h, good_of_word g⟩) (ha w)
set_option maxRecDepth 20000 in
theorem ggL_law_L_holds : GoodIn wsL_law wsL_holds := goodIn_ca (goodIn_ca (goodIn_hd (List.mem_of_getElem? (l := wsL_law) (i := 97) rfl) (by decide +kernel) (goodIn_r _ [34, 98, 99, 100, 2, 101, 102, 103, 104, 105, 106, 107, 108, 109, 110, 111, 112, 113, 17, 12, 114, 11, 115, 116, 80, 29, 33, 81, 83, 82, 84, 85, 86, 35, 117, 118, 119, 120, 121, 122, 28, 123, 124, 90, 47, 125, 126, 127, 128, 129, 130, 131, 48, 132, 133, 134, 135, 136, 137, 138, 139, 140, 141, 142, 143, 144, 145, 146, 147, 148, 149, 150, 45, 46, 151, 152, 153, 44, 154, 155, 32, 156, 157, 158, 159, 160, 161, 53, 52, 162, 163, 164, 165, 166, 167, 168, 169, 170, 171, 172, 173, 174, 175, 176, 177, 178, 179, 58, 180, 181, 182, 183, 184, 185, 186, 187, 188, 189, 190, 191, 192, 193, 194, 195, 196, 197, 198, 199, 200, 201, 202, 203, 422, 423, 424, 425, 426, 439, 440, 441, 427, 428, 429, 430, 431, 432, 433, 434, 435, 436, 437, 438, 444, 445, 446, 447, 448, 449, 450, 451, 452, 453, 454] (by decide +kernel) (by decide +kernel))) (goodIn_sub (fun _ h => List.mem_append_left _ (List.mem_append_left _ (List.mem_append_right _ h))) (by decide +kernel))) (goodIn_sub (fun _ h => List.mem_append_left _ (List.mem_append_right _ h)) (by decide +kernel))
set_option maxRecDepth 20000 in
theorem gL_law_L_holds : GoodIn wsL_law (va_wsS RL 103 yL_holds wsL_holds) := goodIn_app (goodIn_of _ (by decide +kernel)) ggL_law_L_holds
set_option maxRecDepth 20000 in
theorem ggL_law_L_cell : GoodIn wsL_law wsL_cell := goodIn_r _ [206, 207] (by decide +kernel) (by decide +kernel)
set_option maxRecDepth 20000 in
theorem gL_law_L_cell : GoodIn wsL_law (va_wsS RL 107 yL_cell wsL_cell) := goodIn_app (goodIn_of _ (by decide +kernel)) ggL_law_L_cell
set_option maxRecDepth 20000 in
theorem ggL_law_L_looks : GoodIn wsL_law wsL_looks := goodIn_ca (goodIn_ca (goodIn_r _ [210, 211, 212, 98, 99, 100, 2, 101, 102, 103, 104, 105, 106, 107, 108, 109, 110, 111, 112, 113, 17, 12, 114, 11, 115, 116, 80, 29, 33, 81, 83, 82, 84, 85, 86, 35, 117, 118, 119, 120, 121, 122, 28, 123, 124, 90, 47, 125, 126, 127, 128, 129, 130, 131, 48, 132, 133, 134, 135, 136, 137, 138, 139, 140, 141, 142, 143, 144, 145, 146, 147, 148, 149, 150, 45, 46, 151, 152, 153, 44, 154, 155, 32, 156, 157, 158, 159, 160, 161, 53, 52, 162, 163, 164, 422, 423, 424, 425, 426, 439, 440, 441, 427, 428, 429, 430, 431, 432, 433, 434, 435, 436, 437, 438, 444, 445, 446, 447, 448, 449, 450, 451, 452, 453, 454] (by decide +kernel) (by decide +kernel)) (goodIn_sub (fun _ h => List.mem_append_left _ (List.mem_append_left _ (List.mem_append_right _ h))) (by decide +kernel))) (goodIn_sub (fun _ h => List.mem_append_left _ (List.mem_append_right _ h)) (by decide +kernel))
set_option maxRecDepth 20000 in
theorem gL_law_L_looks : GoodIn wsL_law (va_wsS RL 83 yL_looks wsL_looks) := goodIn_app (goodIn_of _ (by decide +kernel)) ggL_law_L_looks
set_option maxRecDepth 20000 in
theorem ggL_law_X5_count : GoodIn wsL_law wsX5_count := goodIn_ca (goodIn_r _ [101, 102, 103, 2, 104, 105, 106, 107, 108, 109, 110, 111, 112, 113, 17, 12, 114, 11, 115, 116, 80, 29, 33, 81, 83, 82, 84, 85, 86, 35, 117, 118, 119, 120, 121, 122, 28, 123, 124, 90, 47, 125, 126, 127, 128, 129, 130, 131, 48, 422, 423, 424, 425, 426, 439, 440, 441, 427, 428, 429, 430, 431, 432, 433, 434, 435, 436, 437, 438, 444, 445, 446, 447, 448, 449, 450, 451, 452, 453, 454] (by decide +kernel) (by decide +kernel)) (goodIn_sub (fun _ h => List.mem_append_left _ (List.mem_append_left _ (List.mem_append_right _ h))) (by decide +kernel))
set_option maxRecDepth 20000 in
theorem gL_law_X5_count : GoodIn wsL_law (wsV RL 13 RX5 yX5_count wsX5_count) := goodIn_app (goodIn_of _ (by decide +kernel)) ggL_law_X5_count
set_option maxRecDepth 20000 in
theorem ggL_law_L_act : GoodIn wsL_law wsL_act := goodIn_ca (goodIn_ca (goodIn_ca (goodIn_hd (List.mem_of_getElem? (l := wsL_law) (i := 215) rfl) (by decide +kernel) (goodIn_r _ [98, 99, 100, 2, 101, 102, 103, 104, 105, 106, 107, 108, 109, 110, 111, 112, 113, 17, 12, 114, 11, 115, 116, 80, 29, 33, 81, 83, 82, 84, 85, 86, 35, 117, 118, 119, 120, 121, 122, 28, 123, 124, 90, 47, 125, 126, 127, 128, 129, 130, 131, 48, 216, 217, 96, 218, 219, 220, 221, 222, 223, 224, 225, 226, 227, 228, 229, 16, 230, 231, 232, 233, 234, 235, 236, 237, 68, 77, 78, 79, 36, 37, 87, 88, 89, 41, 42, 43, 44, 45, 46, 54, 55, 56, 57, 58, 59, 60, 61, 62, 63, 91, 32, 92, 93, 52, 53, 238, 239, 240, 241, 242, 243, 244, 245, 132, 133, 134, 135, 136, 137, 138, 139, 140, 141, 142, 143, 144, 145, 146, 147, 148, 149, 150, 151, 152, 153, 154, 155, 156, 157, 158, 159, 160, 161, 162, 163, 164, 246, 247, 248, 249, 250, 251, 252, 253, 254, 255, 256, 257, 258, 259, 260, 261, 262, 263, 264, 265, 266, 267, 268, 269, 270, 271, 272, 273, 274, 275, 276, 185, 186, 187, 188, 189, 190, 191, 277, 278, 279, 280, 281, 282, 283, 284, 285, 286, 287, 288, 289, 290, 291, 292, 293, 294, 295, 296, 297, 298, 299, 300, 301, 302, 303, 304, 305, 306, 307, 308, 309, 310, 311, 312, 313, 314, 315, 316, 317, 318, 319, 320, 321, 322, 323, 324, 325, 326, 327, 328, 329, 330, 331, 179, 180, 332, 333, 334, 335, 336, 337, 338, 339, 340, 172, 173, 174, 341, 342, 343, 344, 345, 22, 13, 181, 182, 183, 184, 169, 170, 171, 346, 347, 348, 349, 350, 351, 352, 353, 354, 355, 356, 357, 358, 359, 360, 361, 362, 363, 178, 364, 365, 366, 367, 203, 175, 176, 177, 368, 369, 370, 371, 372, 373, 374, 375, 376, 377, 378, 379, 380, 381, 382, 383, 384, 385, 386, 387, 388, 389, 390, 422, 423, 424, 425, 426, 439, 440, 441, 427, 428, 429, 430, 431, 432, 433, 434, 435, 436, 437, 438, 444, 445, 446, 447, 448, 449, 450, 451, 452, 453, 454] (by decide +kernel) (by decide +kernel))) (goodIn_sub (fun _ h => List.mem_append_left _ (List.mem_append_left _ (List.mem_append_right _ h))) (by decide +kernel))) (goodIn_sub (fun _ h => List.mem_append_right _ h) (by decide +kernel))) (goodIn_sub (fun _ h => List.mem_append_left _ (List.mem_append_right _ h)) (by decide +kernel))
set_option maxRecDepth 20000 in
theorem gL_law_L_act : GoodIn wsL_law (va_wsS RL 111 yL_act wsL_act) := goodIn_app (goodIn_of _ (by decide +kernel)) ggL_law_L_act
set_option maxRecDepth 20000 in
theorem ggL_law_X5_undo : GoodIn wsL_law wsX5_undo := goodIn_ca (goodIn_r _ [394, 17, 12, 224, 225, 2, 226, 227, 228, 395, 16, 396, 397, 232, 234, 235, 236, 237, 233, 68, 77, 11, 78, 79, 29, 33, 35, 80, 81, 82, 83, 84, 85, 86, 36, 37, 87, 28, 88, 89, 41, 42, 43, 44, 45, 46, 47, 48, 90, 54, 55, 56, 57, 58, 59, 60, 61, 62, 63, 91, 32, 92, 93, 52, 53, 422, 423, 424, 425, 426, 439, 440, 441, 427, 428, 429, 430, 431, 432, 433, 434, 435, 436, 437, 438, 444, 445, 446, 447, 448, 449, 450, 451, 452, 453, 454] (by decide +kernel) (by decide +kernel)) (goodIn_sub (fun _ h => List.mem_append_right _ h) (by decide +kernel))
set_option maxRecDepth 20000 in
theorem gL_law_X5_undo : GoodIn wsL_law (wsV RL 96 RX5 yX5_undo wsX5_undo) := goodIn_app (goodIn_of _ (by decide +kernel)) ggL_law_X5_undo
set_option maxRecDepth 20000 in
theorem ggL_law_L_up : GoodIn wsL_law wsL_up := goodIn_r _ [218, 219] (by decide +kernel) (by decide +kernel)
set_option maxRecDepth 20000 in
theorem gL_law_L_up : GoodIn wsL_law (va_wsS RL 23 yL_up wsL_up) := goodIn_app (goodIn_of _ (by decide +kernel)) ggL_law_L_up
set_option maxRecDepth 20000 in
theorem ggL_law_L_isAhead : GoodIn wsL_law wsL_isAhead := goodIn_ca (goodIn_ca (goodIn_ca (goodIn_hd (List.mem_of_getElem? (l := wsL_law) (i := 400) rfl) (by decide +kernel) (goodIn_r _ [208, 209, 96, 210, 211, 212, 98, 99, 100, 2, 101, 102, 103, 104, 105, 106, 107, 108, 109, 110, 111, 112, 113, 17, 12, 114, 11, 115, 116, 80, 29, 33, 81, 83, 82, 84, 85, 86, 35, 117, 118, 119, 120, 121, 122, 28, 123, 124, 90, 47, 125, 126, 127, 128, 129, 130, 131, 48, 132, 133, 134, 135, 136, 137, 138, 139, 140, 141, 142, 143, 144, 145, 146, 147, 148, 149, 150, 45, 46, 151, 152, 153, 44, 154, 155, 32, 156, 157, 158, 159, 160, 161, 53, 52, 162, 163, 164, 401, 402, 403, 404, 405, 406, 407, 360, 361, 362, 363, 178, 179, 58, 180, 364, 365, 366, 367, 203, 175, 176, 177, 408, 409, 410, 411, 169, 170, 171, 172, 173, 174, 412, 413, 414, 368, 369, 370, 371, 376, 377, 378, 379, 276, 57, 59, 372, 373, 374, 375, 415, 416, 417, 418, 419, 420, 421, 199, 200, 201, 202, 165, 166, 167, 168, 346, 347, 348, 349, 224, 225, 226, 227, 228, 229, 16, 230, 231, 232, 233, 234, 235, 236, 237, 68, 77, 78, 79, 36, 37, 87, 88, 89, 41, 42, 43, 54, 55, 56, 60, 61, 62, 63, 91, 92, 93, 350, 351, 352, 353, 354, 355, 356, 357, 358, 359, 244, 245, 291, 292, 293, 380, 381, 382, 383, 391, 392, 393, 394, 395, 396, 397, 321, 322, 323, 324, 325, 326, 327, 328, 329, 330, 331, 332, 333, 334, 284, 285, 286, 287, 288, 289, 290, 422, 423, 424, 425, 426, 439, 440, 441, 427, 428, 429, 430, 431, 432, 433, 434, 435, 436, 437, 438, 444, 445, 446, 447, 448, 449, 450, 451, 452, 453, 454] (by decide +kernel) (by decide +kernel))) (goodIn_sub (fun _ h => List.mem_append_left _ (List.mem_append_left _ (List.mem_append_right _ h))) (by decide +kernel))) (goodIn_sub (fun _ h => List.mem_append_left _ (List.mem_append_right _ h)) (by decide +kernel))) (goodIn_sub (fun _ h => List.mem_append_right _ h) (by decide +kernel))
set_option maxRecDepth 20000 in
theorem gL_law_L_isAhead : GoodIn wsL_law (va_wsS RL 115 yL_isAhead wsL_isAhead) := goodIn_app (goodIn_of _ (by decide +kernel)) ggL_law_L_isAhead
theorem dL_law_0 : decode cL_law 0 = .ok (.new 14, 3) := by decide +kernel
theorem dL_law_3 : decode cL_law 3 = .ok (.dup, 1) := by decide +kernel
theorem dL_law_4 : decode cL_law 4 = .ok (.invokespecial 99, 3) := by decide +kernel
theorem dL_law_7 : decode cL_law 7 = .ok (.astore_n 1, 1) := by decide +kernel
theorem dL_law_8 : decode cL_law 8 = .ok (.aload_n 1, 1) := by decide +kernel
theorem dL_law_9 : decode cL_law 9 = .ok (.invokevirtual 100, 3) := by decide +kernel
theorem dL_law_12 : decode cL_law 12 = .ok (.ifCond .ne 14, 3) := by decide +kernel
theorem dL_law_15 : decode cL_law 15 = .ok (.aload_n 1, 1) := by decide +kernel
theorem dL_law_16 : decode cL_law 16 = .ok (.invokestatic 103, 3) := by decide +kernel
theorem dL_law_19 : decode cL_law 19 = .ok (.ifCond .eq 7, 3) := by decide +kernel
theorem dL_law_22 : decode cL_law 22 = .ok (.iconst 1, 1) := by decide +kernel
theorem dL_law_23 : decode cL_law 23 = .ok (.goto 4, 3) := by decide +kernel
theorem dL_law_26 : decode cL_law 26 = .ok (.iconst 0, 1) := by decide +kernel
theorem dL_law_27 : decode cL_law 27 = .ok (.istore_n 2, 1) := by decide +kernel
theorem dL_law_28 : decode cL_law 28 = .ok (.iconst 0, 1) := by decide +kernel
theorem dL_law_29 : decode cL_law 29 = .ok (.istore_n 3, 1) := by decide +kernel
theorem dL_law_30 : decode cL_law 30 = .ok (.iload_n 3, 1) := by decide +kernel
theorem dL_law_31 : decode cL_law 31 = .ok (.bipush 66, 2) := by decide +kernel
theorem dL_law_33 : decode cL_law 33 = .ok (.if_icmp .ge 252, 3) := by decide +kernel
theorem dL_law_36 : decode cL_law 36 = .ok (.iload_n 2, 1) := by decide +kernel
theorem dL_law_37 : decode cL_law 37 = .ok (.ifCond .eq 248, 3) := by decide +kernel
theorem dL_law_40 : decode cL_law 40 = .ok (.aload_n 0, 1) := by decide +kernel
theorem dL_law_41 : decode cL_law 41 = .ok (.iconst 2, 1) := by decide +kernel
theorem dL_law_42 : decode cL_law 42 = .ok (.iload_n 3, 1) := by decide +kernel
theorem dL_law_43 : decode cL_law 43 = .ok (.imul, 1) := by decide +kernel
theorem dL_law_44 : decode cL_law 44 = .ok (.invokestatic 107, 3) := by decide +kernel
theorem dL_law_47 : decode cL_law 47 = .ok (.istore 4, 2) := by decide +kernel
theorem dL_law_49 : decode cL_law 49 = .ok (.aload_n 0, 1) := by decide +kernel
theorem dL_law_50 : decode cL_law 50 = .ok (.iconst 2, 1) := by decide +kernel
theorem dL_law_51 : decode cL_law 51 = .ok (.iload_n 3, 1) := by decide +kernel
theorem dL_law_52 : decode cL_law 52 = .ok (.imul, 1) := by decide +kernel
theorem dL_law_53 : decode cL_law 53 = .ok (.iconst 1, 1) := by decide +kernel
theorem dL_law_54 : decode cL_law 54 = .ok (.iadd, 1) := by decide +kernel
theorem dL_law_55 : decode cL_law 55 = .ok (.invokestatic 107, 3) := by decide +kernel
theorem dL_law_58 : decode cL_law 58 = .ok (.istore 5, 2) := by decide +kernel
theorem dL_law_60 : decode cL_law 60 = .ok (.aload_n 1, 1) := by decide +kernel
theorem dL_law_61 : decode cL_law 61 = .ok (.invokestatic 83, 3) := by decide +kernel
theorem dL_law_64 : decode cL_law 64 = .ok (.lstore 6, 2) := by decide +kernel
theorem dL_law_66 : decode cL_law 66 = .ok (.aload_n 1, 1) := by decide +kernel
theorem dL_law_67 : decode cL_law 67 = .ok (.bipush 21, 2) := by decide +kernel
theorem dL_law_69 : decode cL_law 69 = .ok (.invokevirtual 13, 3) := by decide +kernel
theorem dL_law_72 : decode cL_law 72 = .ok (.istore 8, 2) := by decide +kernel
theorem dL_law_74 : decode cL_law 74 = .ok (.aload_n 1, 1) := by decide +kernel
theorem dL_law_75 : decode cL_law 75 = .ok (.iload 4, 2) := by decide +kernel
theorem dL_law_77 : decode cL_law 77 = .ok (.iload 5, 2) := by decide +kernel
