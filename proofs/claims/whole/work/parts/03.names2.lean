theorem dX5_set_42 : decode cX5_set 42 = .ok (.getfield 10, 3) := by decide +kernel
theorem dX5_set_45 : decode cX5_set 45 = .ok (.getfield 152, 3) := by decide +kernel
theorem dX5_set_48 : decode cX5_set 48 = .ok (.iload_n 1, 1) := by decide +kernel
theorem dX5_set_49 : decode cX5_set 49 = .ok (.invokestatic 93, 3) := by decide +kernel
theorem dX5_set_52 : decode cX5_set 52 = .ok (.istore_n 3, 1) := by decide +kernel
theorem dX5_set_53 : decode cX5_set 53 = .ok (.aload_n 0, 1) := by decide +kernel
theorem dX5_set_54 : decode cX5_set 54 = .ok (.getfield 10, 3) := by decide +kernel
theorem dX5_set_57 : decode cX5_set 57 = .ok (.getfield 152, 3) := by decide +kernel
theorem dX5_set_60 : decode cX5_set 60 = .ok (.iload_n 1, 1) := by decide +kernel
theorem dX5_set_61 : decode cX5_set 61 = .ok (.iload_n 2, 1) := by decide +kernel
theorem dX5_set_62 : decode cX5_set 62 = .ok (.invokestatic 155, 3) := by decide +kernel
theorem dX5_set_65 : decode cX5_set 65 = .ok (.iload_n 3, 1) := by decide +kernel
theorem dX5_set_66 : decode cX5_set 66 = .ok (.ireturn, 1) := by decide +kernel
set_option maxRecDepth 20000 in
theorem ggX5_append_X5_isWithin : GoodIn wsX5_append wsX5_isWithin := goodIn_r _ [5] (by decide +kernel) (by decide +kernel)
set_option maxRecDepth 20000 in
theorem gX5_append_X5_isWithin : GoodIn wsX5_append (va_wsS RX5 37 yX5_isWithin wsX5_isWithin) := goodIn_app (goodIn_of _ (by decide +kernel)) ggX5_append_X5_isWithin
set_option maxRecDepth 20000 in
theorem ggX5_append_X5_needArgument : GoodIn wsX5_append wsX5_needArgument := goodIn_ca (goodIn_r _ [8, 9, 10] (by decide +kernel) (by decide +kernel)) (goodIn_sub (fun _ h => List.mem_cons_of_mem _ (List.mem_append_left _ (List.mem_append_right _ h))) (by decide +kernel))
set_option maxRecDepth 20000 in
theorem gX5_append_X5_needArgument : GoodIn wsX5_append (va_wsS RX5 41 yX5_needArgument wsX5_needArgument) := goodIn_app (goodIn_of _ (by decide +kernel)) ggX5_append_X5_needArgument
set_option maxRecDepth 20000 in
theorem ggX5_append_X5_needState : GoodIn wsX5_append wsX5_needState := goodIn_ca (goodIn_r _ [13, 14, 15] (by decide +kernel) (by decide +kernel)) (goodIn_sub (fun _ h => List.mem_cons_of_mem _ (List.mem_append_right _ h)) (by decide +kernel))
set_option maxRecDepth 20000 in
theorem gX5_append_X5_needState : GoodIn wsX5_append (va_wsS RX5 55 yX5_needState wsX5_needState) := goodIn_app (goodIn_of _ (by decide +kernel)) ggX5_append_X5_needState
set_option maxRecDepth 20000 in
theorem ggX5_append_X4_write : GoodIn wsX5_append wsX4_write := goodIn_r _ [19, 20, 21, 22, 4, 23, 29, 30] (by decide +kernel) (by decide +kernel)
set_option maxRecDepth 20000 in
theorem gX5_append_X4_write_n162 : GoodIn wsX5_append (wsX4_write) := ggX5_append_X4_write
theorem dX5_append_0 : decode cX5_append 0 = .ok (.iload_n 1, 1) := by decide +kernel
theorem dX5_append_1 : decode cX5_append 1 = .ok (.bipush 33, 2) := by decide +kernel
theorem dX5_append_3 : decode cX5_append 3 = .ok (.bipush 126, 2) := by decide +kernel
theorem dX5_append_5 : decode cX5_append 5 = .ok (.invokestatic 37, 3) := by decide +kernel
theorem dX5_append_8 : decode cX5_append 8 = .ok (.invokestatic 41, 3) := by decide +kernel
theorem dX5_append_11 : decode cX5_append 11 = .ok (.aload_n 0, 1) := by decide +kernel
theorem dX5_append_12 : decode cX5_append 12 = .ok (.getfield 29, 3) := by decide +kernel
theorem dX5_append_15 : decode cX5_append 15 = .ok (.getfield 159, 3) := by decide +kernel
theorem dX5_append_18 : decode cX5_append 18 = .ok (.bipush 60, 2) := by decide +kernel
theorem dX5_append_20 : decode cX5_append 20 = .ok (.if_icmp .ge 7, 3) := by decide +kernel
theorem dX5_append_23 : decode cX5_append 23 = .ok (.iconst 1, 1) := by decide +kernel
theorem dX5_append_24 : decode cX5_append 24 = .ok (.goto 4, 3) := by decide +kernel
theorem dX5_append_27 : decode cX5_append 27 = .ok (.iconst 0, 1) := by decide +kernel
theorem dX5_append_28 : decode cX5_append 28 = .ok (.invokestatic 55, 3) := by decide +kernel
theorem dX5_append_31 : decode cX5_append 31 = .ok (.aload_n 0, 1) := by decide +kernel
theorem dX5_append_32 : decode cX5_append 32 = .ok (.getfield 29, 3) := by decide +kernel
theorem dX5_append_35 : decode cX5_append 35 = .ok (.iload_n 1, 1) := by decide +kernel
theorem dX5_append_36 : decode cX5_append 36 = .ok (.invokevirtual 162, 3) := by decide +kernel
theorem dX5_append_39 : decode cX5_append 39 = .ok (.aload_n 0, 1) := by decide +kernel
theorem dX5_append_40 : decode cX5_append 40 = .ok (.getfield 29, 3) := by decide +kernel
theorem dX5_append_43 : decode cX5_append 43 = .ok (.getfield 159, 3) := by decide +kernel
theorem dX5_append_46 : decode cX5_append 46 = .ok (.ireturn, 1) := by decide +kernel
theorem dX5_clearBuffer_0 : decode cX5_clearBuffer 0 = .ok (.aload_n 0, 1) := by decide +kernel
theorem dX5_clearBuffer_1 : decode cX5_clearBuffer 1 = .ok (.getfield 29, 3) := by decide +kernel
theorem dX5_clearBuffer_4 : decode cX5_clearBuffer 4 = .ok (.getfield 159, 3) := by decide +kernel
theorem dX5_clearBuffer_7 : decode cX5_clearBuffer 7 = .ok (.istore_n 1, 1) := by decide +kernel
theorem dX5_clearBuffer_8 : decode cX5_clearBuffer 8 = .ok (.aload_n 0, 1) := by decide +kernel
theorem dX5_clearBuffer_9 : decode cX5_clearBuffer 9 = .ok (.getfield 29, 3) := by decide +kernel
theorem dX5_clearBuffer_12 : decode cX5_clearBuffer 12 = .ok (.iconst 0, 1) := by decide +kernel
theorem dX5_clearBuffer_13 : decode cX5_clearBuffer 13 = .ok (.putfield 159, 3) := by decide +kernel
theorem dX5_clearBuffer_16 : decode cX5_clearBuffer 16 = .ok (.iload_n 1, 1) := by decide +kernel
theorem dX5_clearBuffer_17 : decode cX5_clearBuffer 17 = .ok (.ireturn, 1) := by decide +kernel
set_option maxRecDepth 20000 in
theorem ggX5_firstError_X4_firstWrong : GoodIn wsX5_firstError wsX4_firstWrong := goodIn_r _ [5, 6, 7, 8, 9, 3, 10, 11, 12, 13, 14, 15, 16, 17, 18, 19, 20, 21, 22, 23, 24, 25, 26, 27, 28, 34, 35] (by decide +kernel) (by decide +kernel)
set_option maxRecDepth 20000 in
theorem gX5_firstError_X4_firstWrong_n165 : GoodIn wsX5_firstError (wsX4_firstWrong) := ggX5_firstError_X4_firstWrong
theorem dX5_firstError_0 : decode cX5_firstError 0 = .ok (.aload_n 0, 1) := by decide +kernel
theorem dX5_firstError_1 : decode cX5_firstError 1 = .ok (.getfield 29, 3) := by decide +kernel
theorem dX5_firstError_4 : decode cX5_firstError 4 = .ok (.invokevirtual 165, 3) := by decide +kernel
theorem dX5_firstError_7 : decode cX5_firstError 7 = .ok (.ireturn, 1) := by decide +kernel
set_option maxRecDepth 20000 in
theorem ggX5_revel_X4_isComplete : GoodIn wsX5_revel wsX4_isComplete := goodIn_r _ [7, 8, 9, 10, 11, 5, 12, 13, 14, 15, 16, 17, 18, 19, 20, 21, 22, 23, 24, 25, 26, 27, 28, 29, 30, 232, 233] (by decide +kernel) (by decide +kernel)
set_option maxRecDepth 20000 in
theorem gX5_revel_X4_isComplete_n168 : GoodIn wsX5_revel (wsX4_isComplete) := ggX5_revel_X4_isComplete
set_option maxRecDepth 20000 in
theorem ggX5_revel_X5_needArgument : GoodIn wsX5_revel wsX5_needArgument := goodIn_ca (goodIn_r _ [33, 34, 35] (by decide +kernel) (by decide +kernel)) (goodIn_sub (fun _ h => List.mem_cons_of_mem _ (List.mem_append_right _ h)) (by decide +kernel))
set_option maxRecDepth 20000 in
theorem gX5_revel_X5_needArgument : GoodIn wsX5_revel (va_wsS RX5 41 yX5_needArgument wsX5_needArgument) := goodIn_app (goodIn_of _ (by decide +kernel)) ggX5_revel_X5_needArgument
set_option maxRecDepth 20000 in
theorem ggX5_revel_X2_save : GoodIn wsX5_revel wsX2_save := goodIn_r _ [39, 40, 41, 42, 43, 44, 37, 45, 46, 47, 48, 49, 50, 51, 52, 53, 54, 55, 56, 57, 58, 59, 60, 61, 62, 63, 64, 65, 66, 67, 68, 69, 70, 71, 72, 73, 74, 75, 76, 15, 77, 78, 79, 80, 81, 82, 83, 84, 85, 86, 87, 88, 89, 90, 91, 234, 235, 236, 237, 238, 239, 240, 241, 242, 243, 244, 245, 246, 247, 248, 249, 250, 251, 252, 253, 254, 255, 256, 257, 258, 259] (by decide +kernel) (by decide +kernel)
set_option maxRecDepth 20000 in
theorem gX5_revel_X2_save_n58 : GoodIn wsX5_revel (wsX2_save) := ggX5_revel_X2_save
set_option maxRecDepth 20000 in
theorem ggX5_revel_X0_noteStop : GoodIn wsX5_revel wsX0_noteStop := goodIn_r _ [94, 61, 62, 237, 238, 239, 240, 241, 242, 243, 244, 245, 246, 247, 248] (by decide +kernel) (by decide +kernel)
set_option maxRecDepth 20000 in
theorem gX5_revel_X0_noteStop_n172 : GoodIn wsX5_revel (wsX0_noteStop) := ggX5_revel_X0_noteStop
set_option maxRecDepth 20000 in
theorem ggX5_revel_X4_isPartAt : GoodIn wsX5_revel wsX4_isPartAt := goodIn_r _ [97, 9, 10, 11, 5, 12, 8, 13, 14, 15, 16, 232, 233] (by decide +kernel) (by decide +kernel)
set_option maxRecDepth 20000 in
theorem gX5_revel_X4_isPartAt_n175 : GoodIn wsX5_revel (wsX4_isPartAt) := ggX5_revel_X4_isPartAt
set_option maxRecDepth 20000 in
theorem ggX5_revel_X5_happenPart : GoodIn wsX5_revel wsX5_happenPart := goodIn_r _ [101, 1, 3, 102, 5, 103, 104, 9, 10, 11, 12, 8, 13, 14, 15, 16, 20, 21, 105, 48, 106, 107, 51, 52, 108, 64, 109, 110, 75, 111, 112, 113, 114, 53, 115, 116, 117, 74, 118, 87, 119, 120, 121, 122, 123, 124, 91, 90, 125, 126, 127, 128, 129, 130, 131, 132, 133, 134, 135, 136, 55, 137, 138, 139, 140, 141, 142, 143, 144, 145, 146, 147, 54, 148, 149, 80, 150, 151, 152, 153, 154, 155, 156, 157, 71, 72, 158, 159, 160, 70, 161, 162, 163, 164, 165, 166, 167, 168, 169, 170, 171, 172, 173, 174, 79, 81, 175, 176, 177, 178, 179, 180, 181, 68, 182, 183, 184, 185, 56, 60, 59, 186, 187, 188, 189, 190, 191, 192, 193, 194, 195, 196, 197, 198, 199, 200, 201, 202, 203, 204, 205, 206, 207, 208, 209, 210, 211, 212, 213, 214, 215, 216, 217, 218, 219, 220, 221, 222, 73, 223, 224, 225, 226, 227, 228, 229, 230, 231, 232, 233, 237, 238, 239, 240, 241, 242, 243, 244, 245, 246, 247, 248, 249, 250, 251, 252, 253, 254, 255, 256, 257, 258, 259] (by decide +kernel) (by decide +kernel)
set_option maxRecDepth 20000 in
theorem gX5_revel_X5_happenPart : GoodIn wsX5_revel (wsV RX5 178 RX5 yX5_happenPart wsX5_happenPart) := goodIn_app (goodIn_of _ (by decide +kernel)) ggX5_revel_X5_happenPart
theorem dX5_revel_0 : decode cX5_revel 0 = .ok (.aload_n 0, 1) := by decide +kernel
theorem dX5_revel_1 : decode cX5_revel 1 = .ok (.getfield 29, 3) := by decide +kernel
theorem dX5_revel_4 : decode cX5_revel 4 = .ok (.invokevirtual 168, 3) := by decide +kernel
theorem dX5_revel_7 : decode cX5_revel 7 = .ok (.invokestatic 41, 3) := by decide +kernel
theorem dX5_revel_10 : decode cX5_revel 10 = .ok (.aload_n 0, 1) := by decide +kernel
theorem dX5_revel_11 : decode cX5_revel 11 = .ok (.getfield 22, 3) := by decide +kernel
theorem dX5_revel_14 : decode cX5_revel 14 = .ok (.aload_n 0, 1) := by decide +kernel
theorem dX5_revel_15 : decode cX5_revel 15 = .ok (.getfield 10, 3) := by decide +kernel
theorem dX5_revel_18 : decode cX5_revel 18 = .ok (.invokevirtual 58, 3) := by decide +kernel
theorem dX5_revel_21 : decode cX5_revel 21 = .ok (.aload_n 0, 1) := by decide +kernel
theorem dX5_revel_22 : decode cX5_revel 22 = .ok (.getfield 10, 3) := by decide +kernel
theorem dX5_revel_25 : decode cX5_revel 25 = .ok (.iconst (-1), 1) := by decide +kernel
theorem dX5_revel_26 : decode cX5_revel 26 = .ok (.iconst (-1), 1) := by decide +kernel
theorem dX5_revel_27 : decode cX5_revel 27 = .ok (.invokevirtual 172, 3) := by decide +kernel
theorem dX5_revel_30 : decode cX5_revel 30 = .ok (.iconst 0, 1) := by decide +kernel
theorem dX5_revel_31 : decode cX5_revel 31 = .ok (.istore_n 1, 1) := by decide +kernel
theorem dX5_revel_32 : decode cX5_revel 32 = .ok (.iconst 0, 1) := by decide +kernel
theorem dX5_revel_33 : decode cX5_revel 33 = .ok (.istore_n 2, 1) := by decide +kernel
theorem dX5_revel_34 : decode cX5_revel 34 = .ok (.iload_n 2, 1) := by decide +kernel
theorem dX5_revel_35 : decode cX5_revel 35 = .ok (.aload_n 0, 1) := by decide +kernel
theorem dX5_revel_36 : decode cX5_revel 36 = .ok (.getfield 29, 3) := by decide +kernel
theorem dX5_revel_39 : decode cX5_revel 39 = .ok (.getfield 159, 3) := by decide +kernel
theorem dX5_revel_42 : decode cX5_revel 42 = .ok (.if_icmp .ge 48, 3) := by decide +kernel
theorem dX5_revel_45 : decode cX5_revel 45 = .ok (.aload_n 0, 1) := by decide +kernel
theorem dX5_revel_46 : decode cX5_revel 46 = .ok (.getfield 29, 3) := by decide +kernel
theorem dX5_revel_49 : decode cX5_revel 49 = .ok (.iload_n 2, 1) := by decide +kernel
theorem dX5_revel_50 : decode cX5_revel 50 = .ok (.invokevirtual 175, 3) := by decide +kernel
theorem dX5_revel_53 : decode cX5_revel 53 = .ok (.ifCond .ne 6, 3) := by decide +kernel
theorem dX5_revel_56 : decode cX5_revel 56 = .ok (.goto 28, 3) := by decide +kernel
theorem dX5_revel_59 : decode cX5_revel 59 = .ok (.aload_n 0, 1) := by decide +kernel
theorem dX5_revel_60 : decode cX5_revel 60 = .ok (.iload_n 2, 1) := by decide +kernel
theorem dX5_revel_61 : decode cX5_revel 61 = .ok (.invokevirtual 178, 3) := by decide +kernel
theorem dX5_revel_64 : decode cX5_revel 64 = .ok (.istore_n 3, 1) := by decide +kernel
theorem dX5_revel_65 : decode cX5_revel 65 = .ok (.iload_n 3, 1) := by decide +kernel
theorem dX5_revel_66 : decode cX5_revel 66 = .ok (.ifCond .eq 15, 3) := by decide +kernel
theorem dX5_revel_69 : decode cX5_revel 69 = .ok (.aload_n 0, 1) := by decide +kernel
theorem dX5_revel_70 : decode cX5_revel 70 = .ok (.getfield 10, 3) := by decide +kernel
theorem dX5_revel_73 : decode cX5_revel 73 = .ok (.iload_n 1, 1) := by decide +kernel
theorem dX5_revel_74 : decode cX5_revel 74 = .ok (.iload_n 3, 1) := by decide +kernel
theorem dX5_revel_75 : decode cX5_revel 75 = .ok (.invokevirtual 172, 3) := by decide +kernel
theorem dX5_revel_78 : decode cX5_revel 78 = .ok (.goto 12, 3) := by decide +kernel
theorem dX5_revel_81 : decode cX5_revel 81 = .ok (.iinc 1 1, 3) := by decide +kernel
theorem dX5_revel_84 : decode cX5_revel 84 = .ok (.iinc 2 1, 3) := by decide +kernel
theorem dX5_revel_87 : decode cX5_revel 87 = .ok (.goto (-53), 3) := by decide +kernel
theorem dX5_revel_90 : decode cX5_revel 90 = .ok (.aload_n 0, 1) := by decide +kernel
theorem dX5_revel_91 : decode cX5_revel 91 = .ok (.getfield 29, 3) := by decide +kernel
theorem dX5_revel_94 : decode cX5_revel 94 = .ok (.iconst 0, 1) := by decide +kernel
theorem dX5_revel_95 : decode cX5_revel 95 = .ok (.putfield 159, 3) := by decide +kernel
theorem dX5_revel_98 : decode cX5_revel 98 = .ok (.iload_n 1, 1) := by decide +kernel
theorem dX5_revel_99 : decode cX5_revel 99 = .ok (.ireturn, 1) := by decide +kernel
set_option maxRecDepth 20000 in
theorem ggX5_stopped_X5_isWithin : GoodIn wsX5_stopped wsX5_isWithin := goodIn_r _ [5] (by decide +kernel) (by decide +kernel)
set_option maxRecDepth 20000 in
theorem gX5_stopped_X5_isWithin : GoodIn wsX5_stopped (va_wsS RX5 37 yX5_isWithin wsX5_isWithin) := goodIn_app (goodIn_of _ (by decide +kernel)) ggX5_stopped_X5_isWithin
set_option maxRecDepth 20000 in
theorem ggX5_stopped_X5_needArgument : GoodIn wsX5_stopped wsX5_needArgument := goodIn_ca (goodIn_r _ [8, 9, 10] (by decide +kernel) (by decide +kernel)) (goodIn_sub (fun _ h => List.mem_cons_of_mem _ (List.mem_append_right _ h)) (by decide +kernel))
set_option maxRecDepth 20000 in
theorem gX5_stopped_X5_needArgument : GoodIn wsX5_stopped (va_wsS RX5 41 yX5_needArgument wsX5_needArgument) := goodIn_app (goodIn_of _ (by decide +kernel)) ggX5_stopped_X5_needArgument
set_option maxRecDepth 20000 in
theorem ggX5_stopped_X0_stopNumber : GoodIn wsX5_stopped wsX0_stopNumber := goodIn_r _ [14, 15, 16, 22, 23, 24, 25, 26, 27, 28, 29, 30, 31, 32, 33] (by decide +kernel) (by decide +kernel)
set_option maxRecDepth 20000 in
theorem gX5_stopped_X0_stopNumber_n181 : GoodIn wsX5_stopped (wsX0_stopNumber) := ggX5_stopped_X0_stopNumber
theorem dX5_stopped_0 : decode cX5_stopped 0 = .ok (.iload_n 1, 1) := by decide +kernel
theorem dX5_stopped_1 : decode cX5_stopped 1 = .ok (.iconst 0, 1) := by decide +kernel
theorem dX5_stopped_2 : decode cX5_stopped 2 = .ok (.iconst 1, 1) := by decide +kernel
theorem dX5_stopped_3 : decode cX5_stopped 3 = .ok (.invokestatic 37, 3) := by decide +kernel
theorem dX5_stopped_6 : decode cX5_stopped 6 = .ok (.invokestatic 41, 3) := by decide +kernel
theorem dX5_stopped_9 : decode cX5_stopped 9 = .ok (.aload_n 0, 1) := by decide +kernel
theorem dX5_stopped_10 : decode cX5_stopped 10 = .ok (.getfield 10, 3) := by decide +kernel
theorem dX5_stopped_13 : decode cX5_stopped 13 = .ok (.iload_n 1, 1) := by decide +kernel
theorem dX5_stopped_14 : decode cX5_stopped 14 = .ok (.invokevirtual 181, 3) := by decide +kernel
theorem dX5_stopped_17 : decode cX5_stopped 17 = .ok (.ireturn, 1) := by decide +kernel
set_option maxRecDepth 20000 in
theorem ggX5_undo_X5_needState : GoodIn wsX5_undo wsX5_needState := goodIn_ca (goodIn_r _ [6, 7, 8] (by decide +kernel) (by decide +kernel)) (goodIn_sub (fun _ h => List.mem_cons_of_mem _ (List.mem_append_right _ h)) (by decide +kernel))
set_option maxRecDepth 20000 in
theorem gX5_undo_X5_needState : GoodIn wsX5_undo (va_wsS RX5 55 yX5_needState wsX5_needState) := goodIn_app (goodIn_of _ (by decide +kernel)) ggX5_undo_X5_needState
set_option maxRecDepth 20000 in
theorem ggX5_undo_X2_bringBack : GoodIn wsX5_undo wsX2_bringBack := goodIn_r _ [12, 13, 14, 15, 16, 10, 17, 18, 19, 20, 21, 22, 23, 24, 25, 26, 27, 28, 29, 30, 31, 32, 33, 34, 35, 36, 37, 38, 39, 40, 41, 42, 43, 44, 45, 46, 47, 48, 49, 5, 50, 51, 52, 53, 54, 55, 56, 57, 58, 59, 60, 61, 62, 63, 64, 70, 71, 72, 73, 74, 75, 76, 77, 78, 79, 80, 81, 82, 83, 84, 85, 86, 87, 88, 89, 90, 91, 92, 93, 94, 95] (by decide +kernel) (by decide +kernel)
set_option maxRecDepth 20000 in
theorem gX5_undo_X2_bringBack_n185 : GoodIn wsX5_undo (wsX2_bringBack) := ggX5_undo_X2_bringBack
theorem dX5_undo_0 : decode cX5_undo 0 = .ok (.aload_n 0, 1) := by decide +kernel
theorem dX5_undo_1 : decode cX5_undo 1 = .ok (.getfield 22, 3) := by decide +kernel
theorem dX5_undo_4 : decode cX5_undo 4 = .ok (.getfield 184, 3) := by decide +kernel
theorem dX5_undo_7 : decode cX5_undo 7 = .ok (.ifCond .le 7, 3) := by decide +kernel
theorem dX5_undo_10 : decode cX5_undo 10 = .ok (.iconst 1, 1) := by decide +kernel
theorem dX5_undo_11 : decode cX5_undo 11 = .ok (.goto 4, 3) := by decide +kernel
theorem dX5_undo_14 : decode cX5_undo 14 = .ok (.iconst 0, 1) := by decide +kernel
theorem dX5_undo_15 : decode cX5_undo 15 = .ok (.invokestatic 55, 3) := by decide +kernel
theorem dX5_undo_18 : decode cX5_undo 18 = .ok (.aload_n 0, 1) := by decide +kernel
theorem dX5_undo_19 : decode cX5_undo 19 = .ok (.getfield 22, 3) := by decide +kernel
theorem dX5_undo_22 : decode cX5_undo 22 = .ok (.aload_n 0, 1) := by decide +kernel
theorem dX5_undo_23 : decode cX5_undo 23 = .ok (.getfield 10, 3) := by decide +kernel
theorem dX5_undo_26 : decode cX5_undo 26 = .ok (.invokevirtual 185, 3) := by decide +kernel
theorem dX5_undo_29 : decode cX5_undo 29 = .ok (.aload_n 0, 1) := by decide +kernel
theorem dX5_undo_30 : decode cX5_undo 30 = .ok (.getfield 22, 3) := by decide +kernel
theorem dX5_undo_33 : decode cX5_undo 33 = .ok (.getfield 184, 3) := by decide +kernel
theorem dX5_undo_36 : decode cX5_undo 36 = .ok (.ireturn, 1) := by decide +kernel
set_option maxRecDepth 20000 in
theorem ggX5_keep_X0_copyState : GoodIn wsX5_keep wsX0_copyState := goodIn_r _ [7, 8, 9, 10, 11, 12, 13, 14, 15, 16, 17, 18, 19, 20, 21, 22, 23, 24, 25, 26, 27, 28, 29, 30, 31, 32, 33, 34, 35, 36, 37, 38, 39, 40, 41, 42, 43, 44, 45, 46, 47, 48, 49, 55, 56, 57, 58, 59, 60, 61, 62, 63, 64, 65, 66, 67, 68, 69, 70, 71, 72, 73, 74, 75, 76, 77] (by decide +kernel) (by decide +kernel)
set_option maxRecDepth 20000 in
theorem gX5_keep_X0_copyState_n188 : GoodIn wsX5_keep (wsX0_copyState) := ggX5_keep_X0_copyState
theorem dX5_keep_0 : decode cX5_keep 0 = .ok (.aload_n 0, 1) := by decide +kernel
theorem dX5_keep_1 : decode cX5_keep 1 = .ok (.getfield 16, 3) := by decide +kernel
theorem dX5_keep_4 : decode cX5_keep 4 = .ok (.aload_n 0, 1) := by decide +kernel
theorem dX5_keep_5 : decode cX5_keep 5 = .ok (.getfield 10, 3) := by decide +kernel
theorem dX5_keep_8 : decode cX5_keep 8 = .ok (.invokevirtual 188, 3) := by decide +kernel
theorem dX5_keep_11 : decode cX5_keep 11 = .ok (.aload_n 0, 1) := by decide +kernel
theorem dX5_keep_12 : decode cX5_keep 12 = .ok (.iconst 1, 1) := by decide +kernel
theorem dX5_keep_13 : decode cX5_keep 13 = .ok (.putfield 33, 3) := by decide +kernel
theorem dX5_keep_16 : decode cX5_keep 16 = .ok (.aload_n 0, 1) := by decide +kernel
theorem dX5_keep_17 : decode cX5_keep 17 = .ok (.getfield 10, 3) := by decide +kernel
theorem dX5_keep_20 : decode cX5_keep 20 = .ok (.getfield 191, 3) := by decide +kernel
theorem dX5_keep_23 : decode cX5_keep 23 = .ok (.ireturn, 1) := by decide +kernel
set_option maxRecDepth 20000 in
theorem ggX5_restore_X5_needState : GoodIn wsX5_restore wsX5_needState := goodIn_ca (goodIn_r _ [8, 9, 10] (by decide +kernel) (by decide +kernel)) (goodIn_sub (fun _ h => List.mem_cons_of_mem _ (List.mem_append_right _ h)) (by decide +kernel))
set_option maxRecDepth 20000 in
theorem gX5_restore_X5_needState : GoodIn wsX5_restore (va_wsS RX5 55 yX5_needState wsX5_needState) := goodIn_app (goodIn_of _ (by decide +kernel)) ggX5_restore_X5_needState
set_option maxRecDepth 20000 in
theorem ggX5_restore_X2_save : GoodIn wsX5_restore wsX2_save := goodIn_r _ [14, 15, 16, 17, 18, 19, 12, 20, 21, 22, 23, 24, 25, 26, 27, 28, 29, 30, 31, 32, 33, 34, 35, 36, 37, 38, 39, 40, 41, 42, 43, 44, 45, 46, 47, 48, 49, 50, 51, 7, 52, 53, 54, 55, 56, 57, 58, 59, 60, 61, 62, 63, 64, 65, 66, 84, 85, 86, 72, 73, 74, 75, 76, 77, 78, 79, 80, 81, 82, 83, 87, 88, 89, 90, 91, 92, 93, 94, 95, 96, 97] (by decide +kernel) (by decide +kernel)
set_option maxRecDepth 20000 in
theorem gX5_restore_X2_save_n58 : GoodIn wsX5_restore (wsX2_save) := ggX5_restore_X2_save
set_option maxRecDepth 20000 in
theorem ggX5_restore_X0_copyState : GoodIn wsX5_restore wsX0_copyState := goodIn_r _ [25, 26, 27, 28, 29, 30, 31, 32, 33, 34, 35, 36, 37, 38, 39, 40, 41, 42, 43, 44, 45, 46, 47, 48, 49, 50, 51, 7, 52, 53, 54, 55, 56, 57, 58, 59, 60, 61, 62, 63, 64, 65, 66, 72, 73, 74, 75, 76, 77, 78, 79, 80, 81, 82, 83, 87, 88, 89, 90, 91, 92, 93, 94, 95, 96, 97] (by decide +kernel) (by decide +kernel)
set_option maxRecDepth 20000 in
theorem gX5_restore_X0_copyState_n188 : GoodIn wsX5_restore (wsX0_copyState) := ggX5_restore_X0_copyState
theorem dX5_restore_0 : decode cX5_restore 0 = .ok (.aload_n 0, 1) := by decide +kernel
theorem dX5_restore_1 : decode cX5_restore 1 = .ok (.getfield 33, 3) := by decide +kernel
theorem dX5_restore_4 : decode cX5_restore 4 = .ok (.invokestatic 55, 3) := by decide +kernel
theorem dX5_restore_7 : decode cX5_restore 7 = .ok (.aload_n 0, 1) := by decide +kernel
theorem dX5_restore_8 : decode cX5_restore 8 = .ok (.getfield 22, 3) := by decide +kernel
theorem dX5_restore_11 : decode cX5_restore 11 = .ok (.aload_n 0, 1) := by decide +kernel
theorem dX5_restore_12 : decode cX5_restore 12 = .ok (.getfield 10, 3) := by decide +kernel
theorem dX5_restore_15 : decode cX5_restore 15 = .ok (.invokevirtual 58, 3) := by decide +kernel
theorem dX5_restore_18 : decode cX5_restore 18 = .ok (.aload_n 0, 1) := by decide +kernel
theorem dX5_restore_19 : decode cX5_restore 19 = .ok (.getfield 10, 3) := by decide +kernel
theorem dX5_restore_22 : decode cX5_restore 22 = .ok (.aload_n 0, 1) := by decide +kernel
theorem dX5_restore_23 : decode cX5_restore 23 = .ok (.getfield 16, 3) := by decide +kernel
theorem dX5_restore_26 : decode cX5_restore 26 = .ok (.invokevirtual 188, 3) := by decide +kernel
theorem dX5_restore_29 : decode cX5_restore 29 = .ok (.aload_n 0, 1) := by decide +kernel
theorem dX5_restore_30 : decode cX5_restore 30 = .ok (.getfield 10, 3) := by decide +kernel
theorem dX5_restore_33 : decode cX5_restore 33 = .ok (.getfield 191, 3) := by decide +kernel
theorem dX5_restore_36 : decode cX5_restore 36 = .ok (.ireturn, 1) := by decide +kernel
set_option maxRecDepth 20000 in
theorem ggX5_guest_X5_needGuest : GoodIn wsX5_guest wsX5_needGuest := goodIn_ca (goodIn_r _ [6, 7, 8, 1, 9, 10, 11, 12, 13, 53, 54, 55, 56, 57, 58, 59, 60, 61, 62, 63, 64, 65, 66, 67, 68, 69, 70, 71, 72, 73, 74, 75, 76, 77, 78] (by decide +kernel) (by decide +kernel)) (goodIn_sub (fun _ h => List.mem_cons_of_mem _ (List.mem_append_left _ (List.mem_append_right _ h))) (by decide +kernel))
set_option maxRecDepth 20000 in
theorem gX5_guest_X5_needGuest : GoodIn wsX5_guest (wsV RX5 66 RX5 yX5_needGuest wsX5_needGuest) := goodIn_app (goodIn_of _ (by decide +kernel)) ggX5_guest_X5_needGuest
set_option maxRecDepth 20000 in
theorem ggX5_guest_X5_isWithin : GoodIn wsX5_guest wsX5_isWithin := goodIn_r _ [16] (by decide +kernel) (by decide +kernel)
set_option maxRecDepth 20000 in
theorem gX5_guest_X5_isWithin : GoodIn wsX5_guest (va_wsS RX5 37 yX5_isWithin wsX5_isWithin) := goodIn_app (goodIn_of _ (by decide +kernel)) ggX5_guest_X5_isWithin
set_option maxRecDepth 20000 in
theorem ggX5_guest_X5_needArgument : GoodIn wsX5_guest wsX5_needArgument := goodIn_ca (goodIn_r _ [19, 20, 21] (by decide +kernel) (by decide +kernel)) (goodIn_sub (fun _ h => List.mem_cons_of_mem _ (List.mem_append_right _ h)) (by decide +kernel))
set_option maxRecDepth 20000 in
theorem gX5_guest_X5_needArgument : GoodIn wsX5_guest (va_wsS RX5 41 yX5_needArgument wsX5_needArgument) := goodIn_app (goodIn_of _ (by decide +kernel)) ggX5_guest_X5_needArgument
set_option maxRecDepth 20000 in
theorem ggX5_guest_X0_guestNumber : GoodIn wsX5_guest wsX0_guestNumber := goodIn_r _ [25, 26, 27, 28, 5, 29, 30, 10, 31, 32, 33, 34, 35, 36, 37, 38, 39, 40, 41, 42, 43, 44, 45, 46, 47, 48, 49, 50, 51, 52, 58, 59, 60, 61, 62, 63, 64, 65, 66, 67, 68, 69, 70, 71, 72, 73, 74, 75, 76, 77, 78, 79, 80] (by decide +kernel) (by decide +kernel)
set_option maxRecDepth 20000 in
theorem gX5_guest_X0_guestNumber_n194 : GoodIn wsX5_guest (wsX0_guestNumber) := ggX5_guest_X0_guestNumber
theorem dX5_guest_0 : decode cX5_guest 0 = .ok (.aload_n 0, 1) := by decide +kernel
theorem dX5_guest_1 : decode cX5_guest 1 = .ok (.iload_n 1, 1) := by decide +kernel
theorem dX5_guest_2 : decode cX5_guest 2 = .ok (.invokevirtual 66, 3) := by decide +kernel
theorem dX5_guest_5 : decode cX5_guest 5 = .ok (.iload_n 2, 1) := by decide +kernel
theorem dX5_guest_6 : decode cX5_guest 6 = .ok (.iconst 0, 1) := by decide +kernel
theorem dX5_guest_7 : decode cX5_guest 7 = .ok (.bipush 10, 2) := by decide +kernel
theorem dX5_guest_9 : decode cX5_guest 9 = .ok (.invokestatic 37, 3) := by decide +kernel
theorem dX5_guest_12 : decode cX5_guest 12 = .ok (.invokestatic 41, 3) := by decide +kernel
theorem dX5_guest_15 : decode cX5_guest 15 = .ok (.aload_n 0, 1) := by decide +kernel
theorem dX5_guest_16 : decode cX5_guest 16 = .ok (.getfield 10, 3) := by decide +kernel
theorem dX5_guest_19 : decode cX5_guest 19 = .ok (.iload_n 1, 1) := by decide +kernel
theorem dX5_guest_20 : decode cX5_guest 20 = .ok (.iload_n 2, 1) := by decide +kernel
theorem dX5_guest_21 : decode cX5_guest 21 = .ok (.invokevirtual 194, 3) := by decide +kernel
theorem dX5_guest_24 : decode cX5_guest 24 = .ok (.ireturn, 1) := by decide +kernel
set_option maxRecDepth 20000 in
theorem ggX5_law_X5_isGate : GoodIn wsX5_law wsX5_isGate := goodIn_r _ [5, 6, 7, 4, 8] (by decide +kernel) (by decide +kernel)
set_option maxRecDepth 20000 in
theorem gX5_law_X5_isGate : GoodIn wsX5_law (va_wsS RX5 118 yX5_isGate wsX5_isGate) := goodIn_app (goodIn_of _ (by decide +kernel)) ggX5_law_X5_isGate
set_option maxRecDepth 20000 in
theorem ggX5_law_X5_needIndex : GoodIn wsX5_law wsX5_needIndex := goodIn_ca (goodIn_r _ [11, 12, 13] (by decide +kernel) (by decide +kernel)) (goodIn_sub (fun _ h => List.mem_cons_of_mem _ (List.mem_append_left _ (List.mem_append_right _ h))) (by decide +kernel))
set_option maxRecDepth 20000 in
theorem gX5_law_X5_needIndex : GoodIn wsX5_law (va_wsS RX5 121 yX5_needIndex wsX5_needIndex) := goodIn_app (goodIn_of _ (by decide +kernel)) ggX5_law_X5_needIndex
set_option maxRecDepth 20000 in
theorem ggX5_law_X5_isWithin : GoodIn wsX5_law wsX5_isWithin := goodIn_r _ [8] (by decide +kernel) (by decide +kernel)
set_option maxRecDepth 20000 in
theorem gX5_law_X5_isWithin : GoodIn wsX5_law (va_wsS RX5 37 yX5_isWithin wsX5_isWithin) := goodIn_app (goodIn_of _ (by decide +kernel)) ggX5_law_X5_isWithin
set_option maxRecDepth 20000 in
theorem ggX5_law_X5_needArgument : GoodIn wsX5_law wsX5_needArgument := goodIn_ca (goodIn_r _ [16, 17, 18] (by decide +kernel) (by decide +kernel)) (goodIn_sub (fun _ h => List.mem_cons_of_mem _ (List.mem_append_right _ h)) (by decide +kernel))
set_option maxRecDepth 20000 in
theorem gX5_law_X5_needArgument : GoodIn wsX5_law (va_wsS RX5 41 yX5_needArgument wsX5_needArgument) := goodIn_app (goodIn_of _ (by decide +kernel)) ggX5_law_X5_needArgument
set_option maxRecDepth 20000 in
theorem ggX5_law_X0_allowedElls : GoodIn wsX5_law wsX0_allowedElls := goodIn_r _ [22, 23, 24, 25, 26, 27, 28, 4, 29, 35, 36, 37, 38, 39, 40, 41, 42, 43, 44, 45, 46] (by decide +kernel) (by decide +kernel)
set_option maxRecDepth 20000 in
theorem gX5_law_X0_allowedElls_n197 : GoodIn wsX5_law (wsX0_allowedElls) := ggX5_law_X0_allowedElls
theorem dX5_law_0 : decode cX5_law 0 = .ok (.iload_n 1, 1) := by decide +kernel
theorem dX5_law_1 : decode cX5_law 1 = .ok (.invokestatic 118, 3) := by decide +kernel
theorem dX5_law_4 : decode cX5_law 4 = .ok (.invokestatic 121, 3) := by decide +kernel
theorem dX5_law_7 : decode cX5_law 7 = .ok (.iload_n 2, 1) := by decide +kernel
theorem dX5_law_8 : decode cX5_law 8 = .ok (.iconst 0, 1) := by decide +kernel
theorem dX5_law_9 : decode cX5_law 9 = .ok (.iconst 4, 1) := by decide +kernel
theorem dX5_law_10 : decode cX5_law 10 = .ok (.invokestatic 37, 3) := by decide +kernel
theorem dX5_law_13 : decode cX5_law 13 = .ok (.invokestatic 41, 3) := by decide +kernel
theorem dX5_law_16 : decode cX5_law 16 = .ok (.iload_n 3, 1) := by decide +kernel
theorem dX5_law_17 : decode cX5_law 17 = .ok (.ifCond .lt 7, 3) := by decide +kernel
theorem dX5_law_20 : decode cX5_law 20 = .ok (.iconst 1, 1) := by decide +kernel
theorem dX5_law_21 : decode cX5_law 21 = .ok (.goto 4, 3) := by decide +kernel
theorem dX5_law_24 : decode cX5_law 24 = .ok (.iconst 0, 1) := by decide +kernel
theorem dX5_law_25 : decode cX5_law 25 = .ok (.invokestatic 41, 3) := by decide +kernel
theorem dX5_law_28 : decode cX5_law 28 = .ok (.aload_n 0, 1) := by decide +kernel
theorem dX5_law_29 : decode cX5_law 29 = .ok (.getfield 10, 3) := by decide +kernel
theorem dX5_law_32 : decode cX5_law 32 = .ok (.iload_n 1, 1) := by decide +kernel
theorem dX5_law_33 : decode cX5_law 33 = .ok (.iload_n 2, 1) := by decide +kernel
theorem dX5_law_34 : decode cX5_law 34 = .ok (.iload_n 3, 1) := by decide +kernel
theorem dX5_law_35 : decode cX5_law 35 = .ok (.invokevirtual 197, 3) := by decide +kernel
theorem dX5_law_38 : decode cX5_law 38 = .ok (.ireturn, 1) := by decide +kernel
set_option maxRecDepth 20000 in
theorem ggX5_count_X5_isWithin : GoodIn wsX5_count wsX5_isWithin := goodIn_r _ [4] (by decide +kernel) (by decide +kernel)
set_option maxRecDepth 20000 in
theorem gX5_count_X5_isWithin : GoodIn wsX5_count (va_wsS RX5 37 yX5_isWithin wsX5_isWithin) := goodIn_app (goodIn_of _ (by decide +kernel)) ggX5_count_X5_isWithin
set_option maxRecDepth 20000 in
theorem ggX5_count_X5_needArgument : GoodIn wsX5_count wsX5_needArgument := goodIn_ca (goodIn_r _ [7, 8, 9] (by decide +kernel) (by decide +kernel)) (goodIn_sub (fun _ h => List.mem_cons_of_mem _ (List.mem_append_right _ h)) (by decide +kernel))
set_option maxRecDepth 20000 in
theorem gX5_count_X5_needArgument : GoodIn wsX5_count (va_wsS RX5 41 yX5_needArgument wsX5_needArgument) := goodIn_app (goodIn_of _ (by decide +kernel)) ggX5_count_X5_needArgument
set_option maxRecDepth 20000 in
theorem ggX5_count_X5_numberOf : GoodIn wsX5_count wsX5_numberOf := goodIn_r _ [13, 14, 15, 16, 17, 18, 19, 20, 21, 22, 23, 24, 25, 26, 27, 28, 29, 30, 3, 31, 32, 33, 34, 35, 36, 37, 38, 39, 40, 41, 42, 43, 44, 45, 46, 47, 48, 49, 50, 51, 52, 53, 54, 55, 56, 57, 58, 59, 60, 61, 62, 63, 64, 65, 66, 67, 68, 69, 70, 71, 72, 73, 74, 75, 76, 77, 78, 79] (by decide +kernel) (by decide +kernel)
set_option maxRecDepth 20000 in
theorem gX5_count_X5_numberOf : GoodIn wsX5_count (wsV RX5 200 RX5 yX5_numberOf wsX5_numberOf) := goodIn_app (goodIn_of _ (by decide +kernel)) ggX5_count_X5_numberOf
theorem dX5_count_0 : decode cX5_count 0 = .ok (.iload_n 1, 1) := by decide +kernel
theorem dX5_count_1 : decode cX5_count 1 = .ok (.iconst 0, 1) := by decide +kernel
theorem dX5_count_2 : decode cX5_count 2 = .ok (.bipush 21, 2) := by decide +kernel
theorem dX5_count_4 : decode cX5_count 4 = .ok (.invokestatic 37, 3) := by decide +kernel
theorem dX5_count_7 : decode cX5_count 7 = .ok (.invokestatic 41, 3) := by decide +kernel
theorem dX5_count_10 : decode cX5_count 10 = .ok (.aload_n 0, 1) := by decide +kernel
theorem dX5_count_11 : decode cX5_count 11 = .ok (.iload_n 1, 1) := by decide +kernel
theorem dX5_count_12 : decode cX5_count 12 = .ok (.invokevirtual 200, 3) := by decide +kernel
theorem dX5_count_15 : decode cX5_count 15 = .ok (.ireturn, 1) := by decide +kernel
set_option maxRecDepth 20000 in
theorem ggX5_line_X5_isGate : GoodIn wsX5_line wsX5_isGate := goodIn_r _ [5, 6, 7, 4, 8] (by decide +kernel) (by decide +kernel)
set_option maxRecDepth 20000 in
theorem gX5_line_X5_isGate : GoodIn wsX5_line (va_wsS RX5 118 yX5_isGate wsX5_isGate) := goodIn_app (goodIn_of _ (by decide +kernel)) ggX5_line_X5_isGate
set_option maxRecDepth 20000 in
theorem ggX5_line_X5_needIndex : GoodIn wsX5_line wsX5_needIndex := goodIn_ca (goodIn_r _ [11, 12, 13] (by decide +kernel) (by decide +kernel)) (goodIn_sub (fun _ h => List.mem_cons_of_mem _ (List.mem_append_right _ h)) (by decide +kernel))
set_option maxRecDepth 20000 in
theorem gX5_line_X5_needIndex : GoodIn wsX5_line (va_wsS RX5 121 yX5_needIndex wsX5_needIndex) := goodIn_app (goodIn_of _ (by decide +kernel)) ggX5_line_X5_needIndex
set_option maxRecDepth 20000 in
theorem ggX5_line_X5_at : GoodIn wsX5_line wsX5_at := goodIn_r _ [16] (by decide +kernel) (by decide +kernel)
set_option maxRecDepth 20000 in
theorem gX5_line_X5_at : GoodIn wsX5_line (va_wsS RX5 93 yX5_at wsX5_at) := goodIn_app (goodIn_of _ (by decide +kernel)) ggX5_line_X5_at
theorem dX5_line_0 : decode cX5_line 0 = .ok (.iload_n 1, 1) := by decide +kernel
theorem dX5_line_1 : decode cX5_line 1 = .ok (.invokestatic 118, 3) := by decide +kernel
theorem dX5_line_4 : decode cX5_line 4 = .ok (.invokestatic 121, 3) := by decide +kernel
theorem dX5_line_7 : decode cX5_line 7 = .ok (.aload_n 0, 1) := by decide +kernel
theorem dX5_line_8 : decode cX5_line 8 = .ok (.getfield 10, 3) := by decide +kernel
theorem dX5_line_11 : decode cX5_line 11 = .ok (.getfield 127, 3) := by decide +kernel
theorem dX5_line_14 : decode cX5_line 14 = .ok (.getfield 136, 3) := by decide +kernel
theorem dX5_line_17 : decode cX5_line 17 = .ok (.iload_n 1, 1) := by decide +kernel
theorem dX5_line_18 : decode cX5_line 18 = .ok (.invokestatic 93, 3) := by decide +kernel
theorem dX5_line_21 : decode cX5_line 21 = .ok (.ireturn, 1) := by decide +kernel
set_option maxRecDepth 20000 in
theorem ggX5_noLoan_X5_needGuest : GoodIn wsX5_noLoan wsX5_needGuest := goodIn_ca (goodIn_r _ [6, 7, 8, 1, 9, 10, 11, 12, 13, 30, 31, 32, 33, 34, 35, 36, 37, 38, 39, 40, 41, 42, 43, 44, 45, 46, 47, 48, 49, 50, 51, 52, 53, 54, 55] (by decide +kernel) (by decide +kernel)) (goodIn_sub (fun _ h => List.mem_cons_of_mem _ (List.mem_append_right _ h)) (by decide +kernel))
set_option maxRecDepth 20000 in
theorem gX5_noLoan_X5_needGuest : GoodIn wsX5_noLoan (wsV RX5 66 RX5 yX5_needGuest wsX5_needGuest) := goodIn_app (goodIn_of _ (by decide +kernel)) ggX5_noLoan_X5_needGuest
set_option maxRecDepth 20000 in
theorem ggX5_noLoan_X1_reasonNoLoan : GoodIn wsX5_noLoan wsX1_reasonNoLoan := goodIn_r _ [16, 17, 18, 19, 20, 10, 21, 22, 23, 5, 24, 25, 26, 27, 28, 29, 47, 48, 49, 50, 51, 52, 53, 54, 55] (by decide +kernel) (by decide +kernel)
set_option maxRecDepth 20000 in
theorem gX5_noLoan_X1_reasonNoLoan_n82 : GoodIn wsX5_noLoan (wsX1_reasonNoLoan) := ggX5_noLoan_X1_reasonNoLoan
theorem dX5_noLoan_0 : decode cX5_noLoan 0 = .ok (.aload_n 0, 1) := by decide +kernel
theorem dX5_noLoan_1 : decode cX5_noLoan 1 = .ok (.iload_n 1, 1) := by decide +kernel
theorem dX5_noLoan_2 : decode cX5_noLoan 2 = .ok (.invokevirtual 66, 3) := by decide +kernel
theorem dX5_noLoan_5 : decode cX5_noLoan 5 = .ok (.aload_n 0, 1) := by decide +kernel
theorem dX5_noLoan_6 : decode cX5_noLoan 6 = .ok (.iload_n 2, 1) := by decide +kernel
theorem dX5_noLoan_7 : decode cX5_noLoan 7 = .ok (.invokevirtual 66, 3) := by decide +kernel
theorem dX5_noLoan_10 : decode cX5_noLoan 10 = .ok (.aload_n 0, 1) := by decide +kernel
theorem dX5_noLoan_11 : decode cX5_noLoan 11 = .ok (.getfield 10, 3) := by decide +kernel
theorem dX5_noLoan_14 : decode cX5_noLoan 14 = .ok (.getfield 45, 3) := by decide +kernel
theorem dX5_noLoan_17 : decode cX5_noLoan 17 = .ok (.iload_n 1, 1) := by decide +kernel
theorem dX5_noLoan_18 : decode cX5_noLoan 18 = .ok (.iload_n 2, 1) := by decide +kernel
theorem dX5_noLoan_19 : decode cX5_noLoan 19 = .ok (.invokevirtual 82, 3) := by decide +kernel
theorem dX5_noLoan_22 : decode cX5_noLoan 22 = .ok (.ireturn, 1) := by decide +kernel
set_option maxRecDepth 20000 in
theorem ggX5_whyNot_X5_needGuest : GoodIn wsX5_whyNot wsX5_needGuest := goodIn_ca (goodIn_r _ [6, 7, 8, 1, 9, 10, 11, 12, 13, 40, 41, 42, 43, 44, 45, 46, 47, 48, 49, 50, 51, 52, 53, 54, 55, 56, 57, 58, 59, 60, 61, 62, 63, 64, 65] (by decide +kernel) (by decide +kernel)) (goodIn_sub (fun _ h => List.mem_cons_of_mem _ (List.mem_append_right _ h)) (by decide +kernel))
set_option maxRecDepth 20000 in
theorem gX5_whyNot_X5_needGuest : GoodIn wsX5_whyNot (wsV RX5 66 RX5 yX5_needGuest wsX5_needGuest) := goodIn_app (goodIn_of _ (by decide +kernel)) ggX5_whyNot_X5_needGuest
set_option maxRecDepth 20000 in
theorem ggX5_whyNot_X0_reasonNoMask : GoodIn wsX5_whyNot wsX0_reasonNoMask := goodIn_r _ [17, 18, 19, 5, 20, 45, 46, 47, 48, 49, 50, 51, 52, 53, 54, 55, 56, 57, 58, 59, 60, 61, 62, 63, 64, 65] (by decide +kernel) (by decide +kernel)
set_option maxRecDepth 20000 in
theorem gX5_whyNot_X0_reasonNoMask_n103 : GoodIn wsX5_whyNot (wsX0_reasonNoMask) := ggX5_whyNot_X0_reasonNoMask
set_option maxRecDepth 20000 in
theorem ggX5_whyNot_X0_reasonNoLine : GoodIn wsX5_whyNot wsX0_reasonNoLine := goodIn_r _ [23, 18, 24, 25, 26, 10, 27, 28, 29, 19, 5, 20, 30, 31, 32, 33, 34, 35, 36, 37, 38, 39, 45, 46, 47, 48, 49, 50, 51, 52, 53, 54, 55, 56, 57, 58, 59, 60, 61, 62, 63, 64, 65, 66, 67] (by decide +kernel) (by decide +kernel)
set_option maxRecDepth 20000 in
theorem gX5_whyNot_X0_reasonNoLine_n124 : GoodIn wsX5_whyNot (wsX0_reasonNoLine) := ggX5_whyNot_X0_reasonNoLine
theorem dX5_whyNot_0 : decode cX5_whyNot 0 = .ok (.aload_n 0, 1) := by decide +kernel
theorem dX5_whyNot_1 : decode cX5_whyNot 1 = .ok (.iload_n 1, 1) := by decide +kernel
theorem dX5_whyNot_2 : decode cX5_whyNot 2 = .ok (.invokevirtual 66, 3) := by decide +kernel
theorem dX5_whyNot_5 : decode cX5_whyNot 5 = .ok (.iload_n 2, 1) := by decide +kernel
theorem dX5_whyNot_6 : decode cX5_whyNot 6 = .ok (.ifCond .eq 14, 3) := by decide +kernel
theorem dX5_whyNot_9 : decode cX5_whyNot 9 = .ok (.aload_n 0, 1) := by decide +kernel
theorem dX5_whyNot_10 : decode cX5_whyNot 10 = .ok (.getfield 10, 3) := by decide +kernel
theorem dX5_whyNot_13 : decode cX5_whyNot 13 = .ok (.iload_n 1, 1) := by decide +kernel
theorem dX5_whyNot_14 : decode cX5_whyNot 14 = .ok (.invokevirtual 103, 3) := by decide +kernel
theorem dX5_whyNot_17 : decode cX5_whyNot 17 = .ok (.goto 11, 3) := by decide +kernel
theorem dX5_whyNot_20 : decode cX5_whyNot 20 = .ok (.aload_n 0, 1) := by decide +kernel
theorem dX5_whyNot_21 : decode cX5_whyNot 21 = .ok (.getfield 10, 3) := by decide +kernel
theorem dX5_whyNot_24 : decode cX5_whyNot 24 = .ok (.iload_n 1, 1) := by decide +kernel
theorem dX5_whyNot_25 : decode cX5_whyNot 25 = .ok (.invokevirtual 124, 3) := by decide +kernel
theorem dX5_whyNot_28 : decode cX5_whyNot 28 = .ok (.ireturn, 1) := by decide +kernel
set_option maxRecDepth 20000 in
theorem ggX5_ifOpened_X5_needGuest : GoodIn wsX5_ifOpened wsX5_needGuest := goodIn_ca (goodIn_r _ [6, 7, 8, 1, 9, 10, 11, 12, 13, 78, 79, 80, 81, 82, 83, 84, 85, 86, 87, 88, 89, 90, 91, 92, 93, 94, 95, 96, 97, 98, 99, 100, 101, 102, 103] (by decide +kernel) (by decide +kernel)) (goodIn_sub (fun _ h => List.mem_cons_of_mem _ (List.mem_append_left _ (List.mem_append_right _ h))) (by decide +kernel))
set_option maxRecDepth 20000 in
theorem gX5_ifOpened_X5_needGuest : GoodIn wsX5_ifOpened (wsV RX5 66 RX5 yX5_needGuest wsX5_needGuest) := goodIn_app (goodIn_of _ (by decide +kernel)) ggX5_ifOpened_X5_needGuest
set_option maxRecDepth 20000 in
theorem ggX5_ifOpened_X5_isGate : GoodIn wsX5_ifOpened wsX5_isGate := goodIn_r _ [16, 17, 18, 5, 19] (by decide +kernel) (by decide +kernel)
set_option maxRecDepth 20000 in
theorem gX5_ifOpened_X5_isGate : GoodIn wsX5_ifOpened (va_wsS RX5 118 yX5_isGate wsX5_isGate) := goodIn_app (goodIn_of _ (by decide +kernel)) ggX5_ifOpened_X5_isGate
set_option maxRecDepth 20000 in
theorem ggX5_ifOpened_X5_needIndex : GoodIn wsX5_ifOpened wsX5_needIndex := goodIn_ca (goodIn_r _ [22, 7, 8] (by decide +kernel) (by decide +kernel)) (goodIn_sub (fun _ h => List.mem_cons_of_mem _ (List.mem_append_left _ (List.mem_append_right _ h))) (by decide +kernel))
set_option maxRecDepth 20000 in
theorem gX5_ifOpened_X5_needIndex : GoodIn wsX5_ifOpened (va_wsS RX5 121 yX5_needIndex wsX5_needIndex) := goodIn_app (goodIn_of _ (by decide +kernel)) ggX5_ifOpened_X5_needIndex
set_option maxRecDepth 20000 in
theorem ggX5_ifOpened_X5_isWithin : GoodIn wsX5_ifOpened wsX5_isWithin := goodIn_r _ [19] (by decide +kernel) (by decide +kernel)
set_option maxRecDepth 20000 in
theorem gX5_ifOpened_X5_isWithin : GoodIn wsX5_ifOpened (va_wsS RX5 37 yX5_isWithin wsX5_isWithin) := goodIn_app (goodIn_of _ (by decide +kernel)) ggX5_ifOpened_X5_isWithin
set_option maxRecDepth 20000 in
theorem ggX5_ifOpened_X5_needArgument : GoodIn wsX5_ifOpened wsX5_needArgument := goodIn_ca (goodIn_r _ [25, 26, 27] (by decide +kernel) (by decide +kernel)) (goodIn_sub (fun _ h => List.mem_cons_of_mem _ (List.mem_append_right _ h)) (by decide +kernel))
set_option maxRecDepth 20000 in
theorem gX5_ifOpened_X5_needArgument : GoodIn wsX5_ifOpened (va_wsS RX5 41 yX5_needArgument wsX5_needArgument) := goodIn_app (goodIn_of _ (by decide +kernel)) ggX5_ifOpened_X5_needArgument
set_option maxRecDepth 20000 in
theorem ggX5_ifOpened_X0_gateNumber : GoodIn wsX5_ifOpened wsX0_gateNumber := goodIn_r _ [31, 32, 33, 34, 35, 36, 29, 37, 38, 39, 40, 41, 42, 43, 44, 45, 46, 47, 10, 48, 49, 50, 51, 52, 5, 53, 54, 55, 56, 57, 58, 59, 60, 61, 62, 63, 64, 65, 66, 67, 68, 69, 70, 71, 72, 73, 74, 75, 76, 77, 83, 84, 85, 86, 87, 88, 89, 90, 91, 92, 93, 94, 95, 96, 97, 98, 99, 100, 101, 102, 103] (by decide +kernel) (by decide +kernel)
set_option maxRecDepth 20000 in
theorem gX5_ifOpened_X0_gateNumber_n203 : GoodIn wsX5_ifOpened (wsX0_gateNumber) := ggX5_ifOpened_X0_gateNumber
theorem dX5_ifOpened_0 : decode cX5_ifOpened 0 = .ok (.aload_n 0, 1) := by decide +kernel
theorem dX5_ifOpened_1 : decode cX5_ifOpened 1 = .ok (.iload_n 1, 1) := by decide +kernel
theorem dX5_ifOpened_2 : decode cX5_ifOpened 2 = .ok (.invokevirtual 66, 3) := by decide +kernel
theorem dX5_ifOpened_5 : decode cX5_ifOpened 5 = .ok (.iload_n 2, 1) := by decide +kernel
theorem dX5_ifOpened_6 : decode cX5_ifOpened 6 = .ok (.invokestatic 118, 3) := by decide +kernel
theorem dX5_ifOpened_9 : decode cX5_ifOpened 9 = .ok (.invokestatic 121, 3) := by decide +kernel
theorem dX5_ifOpened_12 : decode cX5_ifOpened 12 = .ok (.iload_n 3, 1) := by decide +kernel
theorem dX5_ifOpened_13 : decode cX5_ifOpened 13 = .ok (.iconst 0, 1) := by decide +kernel
theorem dX5_ifOpened_14 : decode cX5_ifOpened 14 = .ok (.iconst 3, 1) := by decide +kernel
theorem dX5_ifOpened_15 : decode cX5_ifOpened 15 = .ok (.invokestatic 37, 3) := by decide +kernel
theorem dX5_ifOpened_18 : decode cX5_ifOpened 18 = .ok (.invokestatic 41, 3) := by decide +kernel
theorem dX5_ifOpened_21 : decode cX5_ifOpened 21 = .ok (.aload_n 0, 1) := by decide +kernel
theorem dX5_ifOpened_22 : decode cX5_ifOpened 22 = .ok (.getfield 10, 3) := by decide +kernel
theorem dX5_ifOpened_25 : decode cX5_ifOpened 25 = .ok (.iload_n 1, 1) := by decide +kernel
theorem dX5_ifOpened_26 : decode cX5_ifOpened 26 = .ok (.iload_n 2, 1) := by decide +kernel
theorem dX5_ifOpened_27 : decode cX5_ifOpened 27 = .ok (.iload_n 3, 1) := by decide +kernel
theorem dX5_ifOpened_28 : decode cX5_ifOpened 28 = .ok (.invokevirtual 203, 3) := by decide +kernel
theorem dX5_ifOpened_31 : decode cX5_ifOpened 31 = .ok (.ireturn, 1) := by decide +kernel
set_option maxRecDepth 20000 in
theorem ggX5_bestGate_X5_needGuest : GoodIn wsX5_bestGate wsX5_needGuest := goodIn_ca (goodIn_r _ [6, 7, 8, 1, 9, 10, 11, 12, 13, 50, 51, 52, 53, 54, 55, 56, 57, 58, 59, 60, 61, 62, 63, 64, 65, 66, 67, 68, 69, 70, 71, 72, 73, 74, 75] (by decide +kernel) (by decide +kernel)) (goodIn_sub (fun _ h => List.mem_cons_of_mem _ (List.mem_append_right _ h)) (by decide +kernel))
set_option maxRecDepth 20000 in
theorem gX5_bestGate_X5_needGuest : GoodIn wsX5_bestGate (wsV RX5 66 RX5 yX5_needGuest wsX5_needGuest) := goodIn_app (goodIn_of _ (by decide +kernel)) ggX5_bestGate_X5_needGuest
set_option maxRecDepth 20000 in
theorem ggX5_bestGate_X0_gateOfFewestElls : GoodIn wsX5_bestGate wsX0_gateOfFewestElls := goodIn_r _ [17, 18, 19, 20, 21, 15, 22, 23, 24, 25, 26, 27, 28, 29, 30, 31, 32, 33, 10, 34, 35, 36, 37, 38, 5, 39, 40, 41, 42, 43, 44, 45, 46, 47, 48, 49, 55, 56, 57, 58, 59, 60, 61, 62, 63, 64, 65, 66, 76, 77, 67, 68, 69, 70, 71, 72, 73, 74, 75] (by decide +kernel) (by decide +kernel)
set_option maxRecDepth 20000 in
theorem gX5_bestGate_X0_gateOfFewestElls_n206 : GoodIn wsX5_bestGate (wsX0_gateOfFewestElls) := ggX5_bestGate_X0_gateOfFewestElls
theorem dX5_bestGate_0 : decode cX5_bestGate 0 = .ok (.aload_n 0, 1) := by decide +kernel
theorem dX5_bestGate_1 : decode cX5_bestGate 1 = .ok (.iload_n 1, 1) := by decide +kernel
theorem dX5_bestGate_2 : decode cX5_bestGate 2 = .ok (.invokevirtual 66, 3) := by decide +kernel
theorem dX5_bestGate_5 : decode cX5_bestGate 5 = .ok (.aload_n 0, 1) := by decide +kernel
theorem dX5_bestGate_6 : decode cX5_bestGate 6 = .ok (.getfield 10, 3) := by decide +kernel
theorem dX5_bestGate_9 : decode cX5_bestGate 9 = .ok (.iload_n 1, 1) := by decide +kernel
theorem dX5_bestGate_10 : decode cX5_bestGate 10 = .ok (.invokevirtual 206, 3) := by decide +kernel
theorem dX5_bestGate_13 : decode cX5_bestGate 13 = .ok (.ireturn, 1) := by decide +kernel
set_option maxRecDepth 20000 in
theorem ggX5_freeIn_X5_needGuest : GoodIn wsX5_freeIn wsX5_needGuest := goodIn_ca (goodIn_r _ [6, 7, 8, 1, 9, 10, 11, 12, 13, 54, 55, 56, 57, 58, 59, 60, 61, 62, 63, 64, 65, 66, 67, 68, 69, 70, 71, 72, 73, 74, 75, 76, 77, 78, 79] (by decide +kernel) (by decide +kernel)) (goodIn_sub (fun _ h => List.mem_cons_of_mem _ (List.mem_append_right _ h)) (by decide +kernel))
set_option maxRecDepth 20000 in
theorem gX5_freeIn_X5_needGuest : GoodIn wsX5_freeIn (wsV RX5 66 RX5 yX5_needGuest wsX5_needGuest) := goodIn_app (goodIn_of _ (by decide +kernel)) ggX5_freeIn_X5_needGuest
set_option maxRecDepth 20000 in
theorem ggX5_freeIn_X5_isGate : GoodIn wsX5_freeIn wsX5_isGate := goodIn_r _ [16, 17, 18, 5, 19] (by decide +kernel) (by decide +kernel)
set_option maxRecDepth 20000 in
theorem gX5_freeIn_X5_isGate : GoodIn wsX5_freeIn (va_wsS RX5 118 yX5_isGate wsX5_isGate) := goodIn_app (goodIn_of _ (by decide +kernel)) ggX5_freeIn_X5_isGate
set_option maxRecDepth 20000 in
theorem ggX5_freeIn_X5_needIndex : GoodIn wsX5_freeIn wsX5_needIndex := goodIn_ca (goodIn_r _ [22, 7, 8] (by decide +kernel) (by decide +kernel)) (goodIn_sub (fun _ h => List.mem_cons_of_mem _ (List.mem_append_right _ h)) (by decide +kernel))
set_option maxRecDepth 20000 in
theorem gX5_freeIn_X5_needIndex : GoodIn wsX5_freeIn (va_wsS RX5 121 yX5_needIndex wsX5_needIndex) := goodIn_app (goodIn_of _ (by decide +kernel)) ggX5_freeIn_X5_needIndex
set_option maxRecDepth 20000 in
theorem ggX5_freeIn_X0_nightsUntilAllowed : GoodIn wsX5_freeIn wsX0_nightsUntilAllowed := goodIn_r _ [26, 27, 28, 29, 30, 24, 31, 32, 33, 10, 34, 35, 36, 37, 38, 39, 40, 41, 42, 43, 5, 44, 45, 46, 47, 48, 49, 50, 51, 52, 53, 59, 60, 61, 62, 63, 64, 65, 66, 67, 68, 69, 70, 71, 72, 73, 74, 75, 76, 77, 78, 79] (by decide +kernel) (by decide +kernel)
set_option maxRecDepth 20000 in
theorem gX5_freeIn_X0_nightsUntilAllowed_n209 : GoodIn wsX5_freeIn (wsX0_nightsUntilAllowed) := ggX5_freeIn_X0_nightsUntilAllowed
theorem dX5_freeIn_0 : decode cX5_freeIn 0 = .ok (.aload_n 0, 1) := by decide +kernel
theorem dX5_freeIn_1 : decode cX5_freeIn 1 = .ok (.iload_n 1, 1) := by decide +kernel
theorem dX5_freeIn_2 : decode cX5_freeIn 2 = .ok (.invokevirtual 66, 3) := by decide +kernel
theorem dX5_freeIn_5 : decode cX5_freeIn 5 = .ok (.iload_n 2, 1) := by decide +kernel
theorem dX5_freeIn_6 : decode cX5_freeIn 6 = .ok (.invokestatic 118, 3) := by decide +kernel
theorem dX5_freeIn_9 : decode cX5_freeIn 9 = .ok (.invokestatic 121, 3) := by decide +kernel
theorem dX5_freeIn_12 : decode cX5_freeIn 12 = .ok (.aload_n 0, 1) := by decide +kernel
theorem dX5_freeIn_13 : decode cX5_freeIn 13 = .ok (.getfield 10, 3) := by decide +kernel
theorem dX5_freeIn_16 : decode cX5_freeIn 16 = .ok (.iload_n 1, 1) := by decide +kernel
theorem dX5_freeIn_17 : decode cX5_freeIn 17 = .ok (.iload_n 2, 1) := by decide +kernel
theorem dX5_freeIn_18 : decode cX5_freeIn 18 = .ok (.invokevirtual 209, 3) := by decide +kernel
theorem dX5_freeIn_21 : decode cX5_freeIn 21 = .ok (.ireturn, 1) := by decide +kernel
set_option maxRecDepth 20000 in
theorem ggX5_decentShare_X0_shareOfDecent : GoodIn wsX5_decentShare wsX0_shareOfDecent := goodIn_r _ [5, 6, 7, 8, 9, 10, 3, 11, 12, 13, 14, 15, 16, 17, 18, 19, 20, 21, 22, 23, 24, 25, 26, 27, 28, 29, 30, 31, 32, 33, 34, 40, 41, 42, 43, 44, 45, 46, 47, 48, 49, 50, 51, 52, 53, 54, 55, 56, 57, 58, 59, 60] (by decide +kernel) (by decide +kernel)
set_option maxRecDepth 20000 in
theorem gX5_decentShare_X0_shareOfDecent_n212 : GoodIn wsX5_decentShare (wsX0_shareOfDecent) := ggX5_decentShare_X0_shareOfDecent
theorem dX5_decentShare_0 : decode cX5_decentShare 0 = .ok (.aload_n 0, 1) := by decide +kernel
theorem dX5_decentShare_1 : decode cX5_decentShare 1 = .ok (.getfield 10, 3) := by decide +kernel
theorem dX5_decentShare_4 : decode cX5_decentShare 4 = .ok (.invokevirtual 212, 3) := by decide +kernel
theorem dX5_decentShare_7 : decode cX5_decentShare 7 = .ok (.dreturn, 1) := by decide +kernel
set_option maxRecDepth 20000 in
theorem ggX5_digest_X5_numberOf : GoodIn wsX5_digest wsX5_numberOf := goodIn_r _ [8, 9, 2, 10, 11, 12, 13, 14, 15, 16, 17, 18, 19, 20, 21, 22, 23, 24, 7, 25, 26, 27, 28, 29, 30, 31, 32, 33, 34, 35, 36, 37, 38, 39, 40, 41, 42, 154, 155, 156, 157, 158, 182, 183, 184, 159, 160, 161, 162, 163, 164, 165, 166, 167, 168, 169, 170, 171, 172, 173, 174, 175, 176, 177, 178, 179, 185, 186] (by decide +kernel) (by decide +kernel)
set_option maxRecDepth 20000 in
theorem gX5_digest_X5_numberOf : GoodIn wsX5_digest (wsV RX5 200 RX5 yX5_numberOf wsX5_numberOf) := goodIn_app (goodIn_of _ (by decide +kernel)) ggX5_digest_X5_numberOf
set_option maxRecDepth 20000 in
theorem ggX5_digest_X5_mix : GoodIn wsX5_digest wsX5_mix := goodIn_r _ [45, 46] (by decide +kernel) (by decide +kernel)
set_option maxRecDepth 20000 in
theorem gX5_digest_X5_mix : GoodIn wsX5_digest (va_wsS RX5 218 yX5_mix wsX5_mix) := goodIn_app (goodIn_of _ (by decide +kernel)) ggX5_digest_X5_mix
set_option maxRecDepth 20000 in
theorem ggX5_digest_X5_mixGuest : GoodIn wsX5_digest wsX5_mixGuest := goodIn_r _ [50, 2, 51, 11, 52, 53, 15, 16, 27, 7, 28, 54, 30, 55, 56, 57, 58, 59, 60, 61, 62, 63, 64, 65, 66, 67, 68, 69, 70, 71, 72, 73, 74, 75, 76, 43, 44, 45, 46, 77, 78, 79, 80, 81, 82, 23, 39, 40, 41, 42, 83, 84, 85, 86, 87, 88, 89, 14, 90, 91, 92, 93, 94, 95, 96, 97, 98, 99, 100, 101, 102, 103, 104, 105, 106, 107, 108, 109, 110, 111, 112, 113, 114, 115, 116, 117, 118, 119, 120, 121, 122, 123, 124, 125, 126, 154, 155, 156, 157, 158, 159, 160, 161, 162, 163, 164, 165, 166, 167, 168, 169, 170, 171, 172, 173, 174, 175, 176, 177, 178, 179, 185, 186] (by decide +kernel) (by decide +kernel)
set_option maxRecDepth 20000 in
theorem gX5_digest_X5_mixGuest : GoodIn wsX5_digest (wsV RX5 222 RX5 yX5_mixGuest wsX5_mixGuest) := goodIn_app (goodIn_of _ (by decide +kernel)) ggX5_digest_X5_mixGuest
set_option maxRecDepth 20000 in
theorem ggX5_digest_X5_mixGate : GoodIn wsX5_digest wsX5_mixGate := goodIn_r _ [130, 2, 26, 27, 7, 28, 43, 44, 45, 46, 99, 11, 100, 101, 23, 90, 91, 92, 93, 131, 65, 132, 133, 73, 154, 155, 156, 157, 158, 159, 160, 161, 162, 163, 164, 165, 166, 167, 168, 169, 170, 185, 186] (by decide +kernel) (by decide +kernel)
set_option maxRecDepth 20000 in
theorem gX5_digest_X5_mixGate : GoodIn wsX5_digest (wsV RX5 226 RX5 yX5_mixGate wsX5_mixGate) := goodIn_app (goodIn_of _ (by decide +kernel)) ggX5_digest_X5_mixGate
set_option maxRecDepth 20000 in
theorem ggX5_digest_X0_stopNumber : GoodIn wsX5_digest wsX0_stopNumber := goodIn_r _ [136, 137, 138, 159, 160, 161, 162, 163, 164, 165, 166, 167, 168, 169, 170] (by decide +kernel) (by decide +kernel)
set_option maxRecDepth 20000 in
theorem gX5_digest_X0_stopNumber_n181 : GoodIn wsX5_digest (wsX0_stopNumber) := ggX5_digest_X0_stopNumber
set_option maxRecDepth 20000 in
theorem ggX5_digest_X0_shareOfDecent : GoodIn wsX5_digest wsX0_shareOfDecent := goodIn_r _ [141, 15, 14, 123, 124, 125, 11, 126, 59, 30, 60, 61, 62, 63, 54, 55, 56, 57, 58, 27, 7, 28, 98, 99, 100, 101, 23, 90, 91, 92, 93, 159, 160, 161, 162, 163, 164, 165, 166, 167, 168, 169, 170, 171, 172, 173, 174, 175, 176, 177, 178, 179] (by decide +kernel) (by decide +kernel)
set_option maxRecDepth 20000 in
theorem gX5_digest_X0_shareOfDecent_n212 : GoodIn wsX5_digest (wsX0_shareOfDecent) := ggX5_digest_X0_shareOfDecent
set_option maxRecDepth 20000 in
theorem ggX5_digest_X5_bitsOf : GoodIn wsX5_digest wsX5_bitsOf := goodIn_r _ [144, 145, 146, 147] (by decide +kernel) (by decide +kernel)
set_option maxRecDepth 20000 in
theorem gX5_digest_X5_bitsOf : GoodIn wsX5_digest (va_wsS RX5 229 yX5_bitsOf wsX5_bitsOf) := goodIn_app (goodIn_of _ (by decide +kernel)) ggX5_digest_X5_bitsOf
set_option maxRecDepth 20000 in
theorem ggX5_digest_X4_signAt : GoodIn wsX5_digest wsX4_signAt := goodIn_r _ [151, 152, 153, 27, 7, 28, 180, 181] (by decide +kernel) (by decide +kernel)
set_option maxRecDepth 20000 in
theorem gX5_digest_X4_signAt_n233 : GoodIn wsX5_digest (wsX4_signAt) := ggX5_digest_X4_signAt
theorem dX5_digest_0 : decode cX5_digest 0 = .ok (.ldc2_w 216, 3) := by decide +kernel
theorem dX5_digest_3 : decode cX5_digest 3 = .ok (.lstore_n 1, 1) := by decide +kernel
theorem dX5_digest_4 : decode cX5_digest 4 = .ok (.iconst 0, 1) := by decide +kernel
theorem dX5_digest_5 : decode cX5_digest 5 = .ok (.istore_n 3, 1) := by decide +kernel
theorem dX5_digest_6 : decode cX5_digest 6 = .ok (.iload_n 3, 1) := by decide +kernel
theorem dX5_digest_7 : decode cX5_digest 7 = .ok (.bipush 22, 2) := by decide +kernel
theorem dX5_digest_9 : decode cX5_digest 9 = .ok (.if_icmp .ge 20, 3) := by decide +kernel
theorem dX5_digest_12 : decode cX5_digest 12 = .ok (.lload_n 1, 1) := by decide +kernel
theorem dX5_digest_13 : decode cX5_digest 13 = .ok (.aload_n 0, 1) := by decide +kernel
theorem dX5_digest_14 : decode cX5_digest 14 = .ok (.iload_n 3, 1) := by decide +kernel
theorem dX5_digest_15 : decode cX5_digest 15 = .ok (.invokevirtual 200, 3) := by decide +kernel
theorem dX5_digest_18 : decode cX5_digest 18 = .ok (.i2l, 1) := by decide +kernel
theorem dX5_digest_19 : decode cX5_digest 19 = .ok (.invokestatic 218, 3) := by decide +kernel
theorem dX5_digest_22 : decode cX5_digest 22 = .ok (.lstore_n 1, 1) := by decide +kernel
theorem dX5_digest_23 : decode cX5_digest 23 = .ok (.iinc 3 1, 3) := by decide +kernel
theorem dX5_digest_26 : decode cX5_digest 26 = .ok (.goto (-20), 3) := by decide +kernel
theorem dX5_digest_29 : decode cX5_digest 29 = .ok (.iconst 0, 1) := by decide +kernel
theorem dX5_digest_30 : decode cX5_digest 30 = .ok (.istore_n 3, 1) := by decide +kernel
theorem dX5_digest_31 : decode cX5_digest 31 = .ok (.iload_n 3, 1) := by decide +kernel
theorem dX5_digest_32 : decode cX5_digest 32 = .ok (.aload_n 0, 1) := by decide +kernel
theorem dX5_digest_33 : decode cX5_digest 33 = .ok (.getfield 10, 3) := by decide +kernel
theorem dX5_digest_36 : decode cX5_digest 36 = .ok (.getfield 45, 3) := by decide +kernel
theorem dX5_digest_39 : decode cX5_digest 39 = .ok (.getfield 49, 3) := by decide +kernel
theorem dX5_digest_42 : decode cX5_digest 42 = .ok (.if_icmp .ge 16, 3) := by decide +kernel
theorem dX5_digest_45 : decode cX5_digest 45 = .ok (.aload_n 0, 1) := by decide +kernel
theorem dX5_digest_46 : decode cX5_digest 46 = .ok (.lload_n 1, 1) := by decide +kernel
theorem dX5_digest_47 : decode cX5_digest 47 = .ok (.iload_n 3, 1) := by decide +kernel
theorem dX5_digest_48 : decode cX5_digest 48 = .ok (.invokevirtual 222, 3) := by decide +kernel
theorem dX5_digest_51 : decode cX5_digest 51 = .ok (.lstore_n 1, 1) := by decide +kernel
theorem dX5_digest_52 : decode cX5_digest 52 = .ok (.iinc 3 1, 3) := by decide +kernel
theorem dX5_digest_55 : decode cX5_digest 55 = .ok (.goto (-24), 3) := by decide +kernel
theorem dX5_digest_58 : decode cX5_digest 58 = .ok (.iconst 0, 1) := by decide +kernel
theorem dX5_digest_59 : decode cX5_digest 59 = .ok (.istore_n 3, 1) := by decide +kernel
theorem dX5_digest_60 : decode cX5_digest 60 = .ok (.iload_n 3, 1) := by decide +kernel
theorem dX5_digest_61 : decode cX5_digest 61 = .ok (.iconst 3, 1) := by decide +kernel
theorem dX5_digest_62 : decode cX5_digest 62 = .ok (.if_icmp .ge 16, 3) := by decide +kernel
theorem dX5_digest_65 : decode cX5_digest 65 = .ok (.aload_n 0, 1) := by decide +kernel
theorem dX5_digest_66 : decode cX5_digest 66 = .ok (.lload_n 1, 1) := by decide +kernel
theorem dX5_digest_67 : decode cX5_digest 67 = .ok (.iload_n 3, 1) := by decide +kernel
theorem dX5_digest_68 : decode cX5_digest 68 = .ok (.invokevirtual 226, 3) := by decide +kernel
theorem dX5_digest_71 : decode cX5_digest 71 = .ok (.lstore_n 1, 1) := by decide +kernel
theorem dX5_digest_72 : decode cX5_digest 72 = .ok (.iinc 3 1, 3) := by decide +kernel
theorem dX5_digest_75 : decode cX5_digest 75 = .ok (.goto (-15), 3) := by decide +kernel
theorem dX5_digest_78 : decode cX5_digest 78 = .ok (.lload_n 1, 1) := by decide +kernel
theorem dX5_digest_79 : decode cX5_digest 79 = .ok (.aload_n 0, 1) := by decide +kernel
theorem dX5_digest_80 : decode cX5_digest 80 = .ok (.getfield 10, 3) := by decide +kernel
theorem dX5_digest_83 : decode cX5_digest 83 = .ok (.iconst 0, 1) := by decide +kernel
theorem dX5_digest_84 : decode cX5_digest 84 = .ok (.invokevirtual 181, 3) := by decide +kernel
theorem dX5_digest_87 : decode cX5_digest 87 = .ok (.i2l, 1) := by decide +kernel
theorem dX5_digest_88 : decode cX5_digest 88 = .ok (.invokestatic 218, 3) := by decide +kernel
theorem dX5_digest_91 : decode cX5_digest 91 = .ok (.lstore_n 1, 1) := by decide +kernel
theorem dX5_digest_92 : decode cX5_digest 92 = .ok (.lload_n 1, 1) := by decide +kernel
theorem dX5_digest_93 : decode cX5_digest 93 = .ok (.aload_n 0, 1) := by decide +kernel
theorem dX5_digest_94 : decode cX5_digest 94 = .ok (.getfield 10, 3) := by decide +kernel
theorem dX5_digest_97 : decode cX5_digest 97 = .ok (.iconst 1, 1) := by decide +kernel
theorem dX5_digest_98 : decode cX5_digest 98 = .ok (.invokevirtual 181, 3) := by decide +kernel
theorem dX5_digest_101 : decode cX5_digest 101 = .ok (.i2l, 1) := by decide +kernel
theorem dX5_digest_102 : decode cX5_digest 102 = .ok (.invokestatic 218, 3) := by decide +kernel
theorem dX5_digest_105 : decode cX5_digest 105 = .ok (.lstore_n 1, 1) := by decide +kernel
theorem dX5_digest_106 : decode cX5_digest 106 = .ok (.lload_n 1, 1) := by decide +kernel
theorem dX5_digest_107 : decode cX5_digest 107 = .ok (.aload_n 0, 1) := by decide +kernel
theorem dX5_digest_108 : decode cX5_digest 108 = .ok (.getfield 10, 3) := by decide +kernel
theorem dX5_digest_111 : decode cX5_digest 111 = .ok (.invokevirtual 212, 3) := by decide +kernel
theorem dX5_digest_114 : decode cX5_digest 114 = .ok (.invokestatic 229, 3) := by decide +kernel
theorem dX5_digest_117 : decode cX5_digest 117 = .ok (.invokestatic 218, 3) := by decide +kernel
theorem dX5_digest_120 : decode cX5_digest 120 = .ok (.lstore_n 1, 1) := by decide +kernel
theorem dX5_digest_121 : decode cX5_digest 121 = .ok (.lload_n 1, 1) := by decide +kernel
theorem dX5_digest_122 : decode cX5_digest 122 = .ok (.aload_n 0, 1) := by decide +kernel
theorem dX5_digest_123 : decode cX5_digest 123 = .ok (.getfield 29, 3) := by decide +kernel
theorem dX5_digest_126 : decode cX5_digest 126 = .ok (.getfield 159, 3) := by decide +kernel
theorem dX5_digest_129 : decode cX5_digest 129 = .ok (.i2l, 1) := by decide +kernel
theorem dX5_digest_130 : decode cX5_digest 130 = .ok (.invokestatic 218, 3) := by decide +kernel
theorem dX5_digest_133 : decode cX5_digest 133 = .ok (.lstore_n 1, 1) := by decide +kernel
theorem dX5_digest_134 : decode cX5_digest 134 = .ok (.iconst 0, 1) := by decide +kernel
theorem dX5_digest_135 : decode cX5_digest 135 = .ok (.istore_n 3, 1) := by decide +kernel
theorem dX5_digest_136 : decode cX5_digest 136 = .ok (.iload_n 3, 1) := by decide +kernel
theorem dX5_digest_137 : decode cX5_digest 137 = .ok (.aload_n 0, 1) := by decide +kernel
theorem dX5_digest_138 : decode cX5_digest 138 = .ok (.getfield 29, 3) := by decide +kernel
theorem dX5_digest_141 : decode cX5_digest 141 = .ok (.getfield 159, 3) := by decide +kernel
theorem dX5_digest_144 : decode cX5_digest 144 = .ok (.if_icmp .ge 23, 3) := by decide +kernel
theorem dX5_digest_147 : decode cX5_digest 147 = .ok (.lload_n 1, 1) := by decide +kernel
theorem dX5_digest_148 : decode cX5_digest 148 = .ok (.aload_n 0, 1) := by decide +kernel
theorem dX5_digest_149 : decode cX5_digest 149 = .ok (.getfield 29, 3) := by decide +kernel
theorem dX5_digest_152 : decode cX5_digest 152 = .ok (.iload_n 3, 1) := by decide +kernel
theorem dX5_digest_153 : decode cX5_digest 153 = .ok (.invokevirtual 233, 3) := by decide +kernel
theorem dX5_digest_156 : decode cX5_digest 156 = .ok (.i2l, 1) := by decide +kernel
theorem dX5_digest_157 : decode cX5_digest 157 = .ok (.invokestatic 218, 3) := by decide +kernel
theorem dX5_digest_160 : decode cX5_digest 160 = .ok (.lstore_n 1, 1) := by decide +kernel
theorem dX5_digest_161 : decode cX5_digest 161 = .ok (.iinc 3 1, 3) := by decide +kernel
theorem dX5_digest_164 : decode cX5_digest 164 = .ok (.goto (-28), 3) := by decide +kernel
theorem dX5_digest_167 : decode cX5_digest 167 = .ok (.lload_n 1, 1) := by decide +kernel
theorem dX5_digest_168 : decode cX5_digest 168 = .ok (.lreturn, 1) := by decide +kernel
theorem dX5_isWithin_0 : decode cX5_isWithin 0 = .ok (.iload_n 0, 1) := by decide +kernel
theorem dX5_isWithin_1 : decode cX5_isWithin 1 = .ok (.iload_n 1, 1) := by decide +kernel
theorem dX5_isWithin_2 : decode cX5_isWithin 2 = .ok (.if_icmp .lt 12, 3) := by decide +kernel
theorem dX5_isWithin_5 : decode cX5_isWithin 5 = .ok (.iload_n 0, 1) := by decide +kernel
theorem dX5_isWithin_6 : decode cX5_isWithin 6 = .ok (.iload_n 2, 1) := by decide +kernel
theorem dX5_isWithin_7 : decode cX5_isWithin 7 = .ok (.if_icmp .gt 7, 3) := by decide +kernel
theorem dX5_isWithin_10 : decode cX5_isWithin 10 = .ok (.iconst 1, 1) := by decide +kernel
theorem dX5_isWithin_11 : decode cX5_isWithin 11 = .ok (.goto 4, 3) := by decide +kernel
theorem dX5_isWithin_14 : decode cX5_isWithin 14 = .ok (.iconst 0, 1) := by decide +kernel
theorem dX5_isWithin_15 : decode cX5_isWithin 15 = .ok (.ireturn, 1) := by decide +kernel
set_option maxRecDepth 20000 in
theorem ggX5_isGate_X5_isWithin : GoodIn wsX5_isGate wsX5_isWithin := goodIn_r _ [4] (by decide +kernel) (by decide +kernel)
set_option maxRecDepth 20000 in
theorem gX5_isGate_X5_isWithin : GoodIn wsX5_isGate (va_wsS RX5 37 yX5_isWithin wsX5_isWithin) := goodIn_app (goodIn_of _ (by decide +kernel)) ggX5_isGate_X5_isWithin
theorem dX5_isGate_0 : decode cX5_isGate 0 = .ok (.iload_n 0, 1) := by decide +kernel
theorem dX5_isGate_1 : decode cX5_isGate 1 = .ok (.iconst 0, 1) := by decide +kernel
theorem dX5_isGate_2 : decode cX5_isGate 2 = .ok (.iconst 2, 1) := by decide +kernel
theorem dX5_isGate_3 : decode cX5_isGate 3 = .ok (.invokestatic 37, 3) := by decide +kernel
theorem dX5_isGate_6 : decode cX5_isGate 6 = .ok (.ireturn, 1) := by decide +kernel
set_option maxRecDepth 20000 in
theorem ggX5_needGuest_X1_has : GoodIn wsX5_needGuest wsX1_has := goodIn_r _ [7, 8, 26, 27, 28, 29, 30, 31, 32, 33, 34] (by decide +kernel) (by decide +kernel)
set_option maxRecDepth 20000 in
theorem gX5_needGuest_X1_has_n236 : GoodIn wsX5_needGuest (wsX1_has) := ggX5_needGuest_X1_has
theorem dX5_needGuest_0 : decode cX5_needGuest 0 = .ok (.aload_n 0, 1) := by decide +kernel
theorem dX5_needGuest_1 : decode cX5_needGuest 1 = .ok (.getfield 10, 3) := by decide +kernel
theorem dX5_needGuest_4 : decode cX5_needGuest 4 = .ok (.getfield 45, 3) := by decide +kernel
theorem dX5_needGuest_7 : decode cX5_needGuest 7 = .ok (.iload_n 1, 1) := by decide +kernel
theorem dX5_needGuest_8 : decode cX5_needGuest 8 = .ok (.invokevirtual 236, 3) := by decide +kernel
theorem dX5_needGuest_11 : decode cX5_needGuest 11 = .ok (.ifCond .ne 13, 3) := by decide +kernel
theorem dX5_needGuest_14 : decode cX5_needGuest 14 = .ok (.new 239, 3) := by decide +kernel
theorem dX5_needGuest_17 : decode cX5_needGuest 17 = .ok (.dup, 1) := by decide +kernel
theorem dX5_needGuest_18 : decode cX5_needGuest 18 = .ok (.ldc 241, 2) := by decide +kernel
theorem dX5_needGuest_20 : decode cX5_needGuest 20 = .ok (.invokespecial 243, 3) := by decide +kernel
theorem dX5_needGuest_23 : decode cX5_needGuest 23 = .ok (.athrow, 1) := by decide +kernel
theorem dX5_needGuest_24 : decode cX5_needGuest 24 = .ok (.return_, 1) := by decide +kernel
theorem dX5_needIndex_0 : decode cX5_needIndex 0 = .ok (.iload_n 0, 1) := by decide +kernel
theorem dX5_needIndex_1 : decode cX5_needIndex 1 = .ok (.ifCond .ne 13, 3) := by decide +kernel
theorem dX5_needIndex_4 : decode cX5_needIndex 4 = .ok (.new 239, 3) := by decide +kernel
theorem dX5_needIndex_7 : decode cX5_needIndex 7 = .ok (.dup, 1) := by decide +kernel
theorem dX5_needIndex_8 : decode cX5_needIndex 8 = .ok (.ldc 246, 2) := by decide +kernel
theorem dX5_needIndex_10 : decode cX5_needIndex 10 = .ok (.invokespecial 243, 3) := by decide +kernel
theorem dX5_needIndex_13 : decode cX5_needIndex 13 = .ok (.athrow, 1) := by decide +kernel
theorem dX5_needIndex_14 : decode cX5_needIndex 14 = .ok (.return_, 1) := by decide +kernel
theorem dX5_needArgument_0 : decode cX5_needArgument 0 = .ok (.iload_n 0, 1) := by decide +kernel
theorem dX5_needArgument_1 : decode cX5_needArgument 1 = .ok (.ifCond .ne 13, 3) := by decide +kernel
theorem dX5_needArgument_4 : decode cX5_needArgument 4 = .ok (.new 248, 3) := by decide +kernel
theorem dX5_needArgument_7 : decode cX5_needArgument 7 = .ok (.dup, 1) := by decide +kernel
theorem dX5_needArgument_8 : decode cX5_needArgument 8 = .ok (.ldc 250, 2) := by decide +kernel
theorem dX5_needArgument_10 : decode cX5_needArgument 10 = .ok (.invokespecial 252, 3) := by decide +kernel
theorem dX5_needArgument_13 : decode cX5_needArgument 13 = .ok (.athrow, 1) := by decide +kernel
theorem dX5_needArgument_14 : decode cX5_needArgument 14 = .ok (.return_, 1) := by decide +kernel
theorem dX5_needState_0 : decode cX5_needState 0 = .ok (.iload_n 0, 1) := by decide +kernel
theorem dX5_needState_1 : decode cX5_needState 1 = .ok (.ifCond .ne 13, 3) := by decide +kernel
theorem dX5_needState_4 : decode cX5_needState 4 = .ok (.new 253, 3) := by decide +kernel
theorem dX5_needState_7 : decode cX5_needState 7 = .ok (.dup, 1) := by decide +kernel
theorem dX5_needState_8 : decode cX5_needState 8 = .ok (.ldc 255, 2) := by decide +kernel
theorem dX5_needState_10 : decode cX5_needState 10 = .ok (.invokespecial 257, 3) := by decide +kernel
theorem dX5_needState_13 : decode cX5_needState 13 = .ok (.athrow, 1) := by decide +kernel
theorem dX5_needState_14 : decode cX5_needState 14 = .ok (.return_, 1) := by decide +kernel
theorem dX5_at_0 : decode cX5_at 0 = .ok (.iload_n 1, 1) := by decide +kernel
theorem dX5_at_1 : decode cX5_at 1 = .ok (.ifCond .lt 15, 3) := by decide +kernel
theorem dX5_at_4 : decode cX5_at 4 = .ok (.iload_n 1, 1) := by decide +kernel
theorem dX5_at_5 : decode cX5_at 5 = .ok (.aload_n 0, 1) := by decide +kernel
theorem dX5_at_6 : decode cX5_at 6 = .ok (.arraylength, 1) := by decide +kernel
theorem dX5_at_7 : decode cX5_at 7 = .ok (.if_icmp .ge 9, 3) := by decide +kernel
theorem dX5_at_10 : decode cX5_at 10 = .ok (.aload_n 0, 1) := by decide +kernel
theorem dX5_at_11 : decode cX5_at 11 = .ok (.iload_n 1, 1) := by decide +kernel
theorem dX5_at_12 : decode cX5_at 12 = .ok (.iaload, 1) := by decide +kernel
theorem dX5_at_13 : decode cX5_at 13 = .ok (.goto 4, 3) := by decide +kernel
theorem dX5_at_16 : decode cX5_at 16 = .ok (.iconst 0, 1) := by decide +kernel
theorem dX5_at_17 : decode cX5_at 17 = .ok (.ireturn, 1) := by decide +kernel
theorem dX5_put_0 : decode cX5_put 0 = .ok (.iload_n 1, 1) := by decide +kernel
theorem dX5_put_1 : decode cX5_put 1 = .ok (.ifCond .lt 13, 3) := by decide +kernel
theorem dX5_put_4 : decode cX5_put 4 = .ok (.iload_n 1, 1) := by decide +kernel
theorem dX5_put_5 : decode cX5_put 5 = .ok (.aload_n 0, 1) := by decide +kernel
theorem dX5_put_6 : decode cX5_put 6 = .ok (.arraylength, 1) := by decide +kernel
theorem dX5_put_7 : decode cX5_put 7 = .ok (.if_icmp .ge 7, 3) := by decide +kernel
theorem dX5_put_10 : decode cX5_put 10 = .ok (.aload_n 0, 1) := by decide +kernel
theorem dX5_put_11 : decode cX5_put 11 = .ok (.iload_n 1, 1) := by decide +kernel
theorem dX5_put_12 : decode cX5_put 12 = .ok (.iload_n 2, 1) := by decide +kernel
theorem dX5_put_13 : decode cX5_put 13 = .ok (.iastore, 1) := by decide +kernel
theorem dX5_put_14 : decode cX5_put 14 = .ok (.return_, 1) := by decide +kernel
theorem dX5_copyRow_0 : decode cX5_copyRow 0 = .ok (.aload_n 0, 1) := by decide +kernel
theorem dX5_copyRow_1 : decode cX5_copyRow 1 = .ok (.iconst 0, 1) := by decide +kernel
theorem dX5_copyRow_2 : decode cX5_copyRow 2 = .ok (.aload_n 1, 1) := by decide +kernel
theorem dX5_copyRow_3 : decode cX5_copyRow 3 = .ok (.iconst 0, 1) := by decide +kernel
theorem dX5_copyRow_4 : decode cX5_copyRow 4 = .ok (.aload_n 0, 1) := by decide +kernel
theorem dX5_copyRow_5 : decode cX5_copyRow 5 = .ok (.arraylength, 1) := by decide +kernel
theorem dX5_copyRow_6 : decode cX5_copyRow 6 = .ok (.aload_n 1, 1) := by decide +kernel
theorem dX5_copyRow_7 : decode cX5_copyRow 7 = .ok (.arraylength, 1) := by decide +kernel
theorem dX5_copyRow_8 : decode cX5_copyRow 8 = .ok (.invokestatic 258, 3) := by decide +kernel
theorem dX5_copyRow_11 : decode cX5_copyRow 11 = .ok (.invokestatic 263, 3) := by decide +kernel
theorem dX5_copyRow_14 : decode cX5_copyRow 14 = .ok (.return_, 1) := by decide +kernel
set_option maxRecDepth 20000 in
theorem ggX5_sumOf_X5_at : GoodIn wsX5_sumOf wsX5_at := goodIn_r _ [4] (by decide +kernel) (by decide +kernel)
set_option maxRecDepth 20000 in
theorem gX5_sumOf_X5_at : GoodIn wsX5_sumOf (va_wsS RX5 93 yX5_at wsX5_at) := goodIn_app (goodIn_of _ (by decide +kernel)) ggX5_sumOf_X5_at
theorem dX5_sumOf_0 : decode cX5_sumOf 0 = .ok (.iconst 0, 1) := by decide +kernel
theorem dX5_sumOf_1 : decode cX5_sumOf 1 = .ok (.istore_n 2, 1) := by decide +kernel
theorem dX5_sumOf_2 : decode cX5_sumOf 2 = .ok (.iconst 0, 1) := by decide +kernel
theorem dX5_sumOf_3 : decode cX5_sumOf 3 = .ok (.istore_n 3, 1) := by decide +kernel
theorem dX5_sumOf_4 : decode cX5_sumOf 4 = .ok (.iload_n 3, 1) := by decide +kernel
theorem dX5_sumOf_5 : decode cX5_sumOf 5 = .ok (.iload_n 1, 1) := by decide +kernel
theorem dX5_sumOf_6 : decode cX5_sumOf 6 = .ok (.if_icmp .ge 17, 3) := by decide +kernel
theorem dX5_sumOf_9 : decode cX5_sumOf 9 = .ok (.iload_n 2, 1) := by decide +kernel
theorem dX5_sumOf_10 : decode cX5_sumOf 10 = .ok (.aload_n 0, 1) := by decide +kernel
theorem dX5_sumOf_11 : decode cX5_sumOf 11 = .ok (.iload_n 3, 1) := by decide +kernel
theorem dX5_sumOf_12 : decode cX5_sumOf 12 = .ok (.invokestatic 93, 3) := by decide +kernel
theorem dX5_sumOf_15 : decode cX5_sumOf 15 = .ok (.iadd, 1) := by decide +kernel
theorem dX5_sumOf_16 : decode cX5_sumOf 16 = .ok (.istore_n 2, 1) := by decide +kernel
theorem dX5_sumOf_17 : decode cX5_sumOf 17 = .ok (.iinc 3 1, 3) := by decide +kernel
theorem dX5_sumOf_20 : decode cX5_sumOf 20 = .ok (.goto (-16), 3) := by decide +kernel
theorem dX5_sumOf_23 : decode cX5_sumOf 23 = .ok (.iload_n 2, 1) := by decide +kernel
theorem dX5_sumOf_24 : decode cX5_sumOf 24 = .ok (.ireturn, 1) := by decide +kernel
set_option maxRecDepth 20000 in
theorem ggX5_numberOf_X0_countNumber : GoodIn wsX5_numberOf wsX0_countNumber := goodIn_r _ [6, 7, 8, 9, 10, 11, 12, 13, 14, 15, 16, 17, 18, 19, 20, 21, 22, 23, 24, 25, 26, 27, 28, 29, 30, 31, 32, 33, 34, 35, 36, 45, 46, 47, 48, 49, 50, 51, 52, 53, 54, 55, 56, 57, 58, 59, 60, 61, 62, 63, 64, 65, 66, 67] (by decide +kernel) (by decide +kernel)
set_option maxRecDepth 20000 in
theorem gX5_numberOf_X0_countNumber_n269 : GoodIn wsX5_numberOf (wsX0_countNumber) := ggX5_numberOf_X0_countNumber
theorem dX5_numberOf_0 : decode cX5_numberOf 0 = .ok (.iload_n 1, 1) := by decide +kernel
theorem dX5_numberOf_1 : decode cX5_numberOf 1 = .ok (.bipush 21, 2) := by decide +kernel
theorem dX5_numberOf_3 : decode cX5_numberOf 3 = .ok (.if_icmp .ne 13, 3) := by decide +kernel
theorem dX5_numberOf_6 : decode cX5_numberOf 6 = .ok (.aload_n 0, 1) := by decide +kernel
theorem dX5_numberOf_7 : decode cX5_numberOf 7 = .ok (.getfield 22, 3) := by decide +kernel
theorem dX5_numberOf_10 : decode cX5_numberOf 10 = .ok (.getfield 184, 3) := by decide +kernel
theorem dX5_numberOf_13 : decode cX5_numberOf 13 = .ok (.goto 11, 3) := by decide +kernel
theorem dX5_numberOf_16 : decode cX5_numberOf 16 = .ok (.aload_n 0, 1) := by decide +kernel
theorem dX5_numberOf_17 : decode cX5_numberOf 17 = .ok (.getfield 10, 3) := by decide +kernel
theorem dX5_numberOf_20 : decode cX5_numberOf 20 = .ok (.iload_n 1, 1) := by decide +kernel
theorem dX5_numberOf_21 : decode cX5_numberOf 21 = .ok (.invokevirtual 269, 3) := by decide +kernel
theorem dX5_numberOf_24 : decode cX5_numberOf 24 = .ok (.ireturn, 1) := by decide +kernel
set_option maxRecDepth 20000 in
theorem ggX5_happenPart_X4_digitAt : GoodIn wsX5_happenPart wsX4_digitAt := goodIn_r _ [6, 7, 8, 9, 4, 10, 11, 12, 13, 14, 15, 16, 17, 168, 169] (by decide +kernel) (by decide +kernel)
set_option maxRecDepth 20000 in
theorem gX5_happenPart_X4_digitAt_n272 : GoodIn wsX5_happenPart (wsX4_digitAt) := ggX5_happenPart_X4_digitAt
set_option maxRecDepth 20000 in
theorem ggX5_happenPart_X4_signAt : GoodIn wsX5_happenPart wsX4_signAt := goodIn_r _ [10, 11, 12, 13, 14, 15, 168, 169] (by decide +kernel) (by decide +kernel)
set_option maxRecDepth 20000 in
theorem gX5_happenPart_X4_signAt_n233 : GoodIn wsX5_happenPart (wsX4_signAt) := ggX5_happenPart_X4_signAt
set_option maxRecDepth 20000 in
theorem ggX5_happenPart_X0_tryLine : GoodIn wsX5_happenPart wsX0_tryLine := goodIn_r _ [21, 22, 23, 24, 25, 26, 27, 28, 29, 30, 31, 19, 32, 33, 34, 35, 36, 37, 13, 14, 15, 38, 39, 40, 41, 42, 43, 44, 45, 46, 47, 48, 49, 50, 51, 52, 170, 171, 172, 173, 174, 175, 176, 177, 178, 179, 180, 181, 182, 183, 184, 185, 186, 187, 188, 189, 190, 191, 192] (by decide +kernel) (by decide +kernel)
set_option maxRecDepth 20000 in
theorem gX5_happenPart_X0_tryLine_n275 : GoodIn wsX5_happenPart (wsX0_tryLine) := ggX5_happenPart_X0_tryLine
set_option maxRecDepth 20000 in
theorem ggX5_happenPart_X4_timesAt : GoodIn wsX5_happenPart wsX4_timesAt := goodIn_r _ [55, 7, 8, 9, 4, 10, 11, 12, 13, 14, 15, 56, 3, 5, 6, 16, 17, 168, 169] (by decide +kernel) (by decide +kernel)
set_option maxRecDepth 20000 in
theorem gX5_happenPart_X4_timesAt_n278 : GoodIn wsX5_happenPart (wsX4_timesAt) := ggX5_happenPart_X4_timesAt
set_option maxRecDepth 20000 in
theorem ggX5_happenPart_X0_openOnce : GoodIn wsX5_happenPart wsX0_openOnce := goodIn_r _ [59, 23, 22, 33, 60, 61, 39, 62, 63, 46, 47, 13, 14, 15, 64, 65, 66, 67, 51, 52, 24, 25, 26, 27, 28, 68, 69, 70, 19, 71, 72, 73, 74, 75, 76, 77, 78, 79, 80, 81, 82, 83, 84, 85, 86, 87, 88, 89, 90, 91, 92, 93, 94, 95, 96, 97, 98, 99, 100, 101, 102, 103, 104, 105, 106, 107, 108, 109, 110, 111, 112, 113, 114, 115, 116, 117, 118, 119, 120, 170, 171, 172, 173, 174, 175, 176, 177, 178, 179, 180, 181, 182, 183, 184, 185, 186, 187, 188, 189, 190, 191, 192] (by decide +kernel) (by decide +kernel)
set_option maxRecDepth 20000 in
theorem gX5_happenPart_X0_openOnce_n139 : GoodIn wsX5_happenPart (wsX0_openOnce) := ggX5_happenPart_X0_openOnce
set_option maxRecDepth 20000 in
theorem ggX5_happenPart_X0_tryMask : GoodIn wsX5_happenPart wsX0_tryMask := goodIn_r _ [123, 22, 24, 25, 26, 27, 28, 124, 125, 126, 19, 127, 13, 14, 15, 128, 129, 130, 131, 60, 33, 110, 111, 112, 113, 51, 52, 170, 171, 172, 173, 174, 175, 176, 177, 178, 179, 180, 181, 182, 183, 184, 185, 186, 187, 188, 189, 190] (by decide +kernel) (by decide +kernel)
set_option maxRecDepth 20000 in
theorem gX5_happenPart_X0_tryMask_n281 : GoodIn wsX5_happenPart (wsX0_tryMask) := ggX5_happenPart_X0_tryMask
set_option maxRecDepth 20000 in
theorem ggX5_happenPart_X0_tryLoan : GoodIn wsX5_happenPart wsX0_tryLoan := goodIn_r _ [134, 22, 24, 25, 26, 27, 28, 135, 136, 137, 84, 90, 81, 82, 83, 85, 13, 14, 15, 138, 34, 35, 36, 37, 139, 140, 141, 51, 52, 170, 171, 172, 173, 174, 175, 176, 177, 178, 179, 180, 181, 182, 183, 184, 185, 186, 187, 188, 189, 190] (by decide +kernel) (by decide +kernel)
set_option maxRecDepth 20000 in
theorem gX5_happenPart_X0_tryLoan_n284 : GoodIn wsX5_happenPart (wsX0_tryLoan) := ggX5_happenPart_X0_tryLoan
set_option maxRecDepth 20000 in
theorem ggX5_happenPart_X0_tryPaying : GoodIn wsX5_happenPart wsX0_tryPaying := goodIn_r _ [144, 22, 24, 25, 26, 27, 28, 145, 146, 147, 19, 148, 103, 104, 75, 105, 60, 13, 14, 15, 110, 111, 112, 113, 51, 52, 170, 171, 172, 173, 174, 175, 176, 177, 178, 179, 180, 181, 182, 183, 184, 185, 186, 187, 188, 189, 190] (by decide +kernel) (by decide +kernel)
set_option maxRecDepth 20000 in
theorem gX5_happenPart_X0_tryPaying_n287 : GoodIn wsX5_happenPart (wsX0_tryPaying) := ggX5_happenPart_X0_tryPaying
set_option maxRecDepth 20000 in
theorem ggX5_happenPart_X0_endNight : GoodIn wsX5_happenPart wsX0_endNight := goodIn_r _ [151, 22, 23, 72, 152, 14, 153, 154, 13, 15, 155, 25, 156, 157, 28, 37, 158, 159, 74, 75, 76, 51, 52, 160, 39, 161, 162, 46, 170, 171, 172, 173, 174, 175, 176, 177, 178, 179, 180, 181, 182, 183, 184, 185, 186, 187, 188, 189, 190, 191, 192] (by decide +kernel) (by decide +kernel)
set_option maxRecDepth 20000 in
theorem gX5_happenPart_X0_endNight_n142 : GoodIn wsX5_happenPart (wsX0_endNight) := ggX5_happenPart_X0_endNight
theorem dX5_happenPart_0 : decode cX5_happenPart 0 = .ok (.aload_n 0, 1) := by decide +kernel
theorem dX5_happenPart_1 : decode cX5_happenPart 1 = .ok (.getfield 29, 3) := by decide +kernel
theorem dX5_happenPart_4 : decode cX5_happenPart 4 = .ok (.iload_n 1, 1) := by decide +kernel
theorem dX5_happenPart_5 : decode cX5_happenPart 5 = .ok (.iconst 1, 1) := by decide +kernel
theorem dX5_happenPart_6 : decode cX5_happenPart 6 = .ok (.iadd, 1) := by decide +kernel
theorem dX5_happenPart_7 : decode cX5_happenPart 7 = .ok (.invokevirtual 272, 3) := by decide +kernel
theorem dX5_happenPart_10 : decode cX5_happenPart 10 = .ok (.istore_n 2, 1) := by decide +kernel
theorem dX5_happenPart_11 : decode cX5_happenPart 11 = .ok (.aload_n 0, 1) := by decide +kernel
theorem dX5_happenPart_12 : decode cX5_happenPart 12 = .ok (.getfield 29, 3) := by decide +kernel
theorem dX5_happenPart_15 : decode cX5_happenPart 15 = .ok (.iload_n 1, 1) := by decide +kernel
theorem dX5_happenPart_16 : decode cX5_happenPart 16 = .ok (.iconst 3, 1) := by decide +kernel
theorem dX5_happenPart_17 : decode cX5_happenPart 17 = .ok (.iadd, 1) := by decide +kernel
theorem dX5_happenPart_18 : decode cX5_happenPart 18 = .ok (.invokevirtual 272, 3) := by decide +kernel
theorem dX5_happenPart_21 : decode cX5_happenPart 21 = .ok (.istore_n 3, 1) := by decide +kernel
theorem dX5_happenPart_22 : decode cX5_happenPart 22 = .ok (.aload_n 0, 1) := by decide +kernel
theorem dX5_happenPart_23 : decode cX5_happenPart 23 = .ok (.getfield 29, 3) := by decide +kernel
theorem dX5_happenPart_26 : decode cX5_happenPart 26 = .ok (.iload_n 1, 1) := by decide +kernel
theorem dX5_happenPart_27 : decode cX5_happenPart 27 = .ok (.invokevirtual 233, 3) := by decide +kernel
theorem dX5_happenPart_30 : decode cX5_happenPart 30 = .ok (.lookupswitch 127 #[(36, 118), (108, 108), (109, 99), (111, 60), (113, 50)], 50) := by decide +kernel
theorem dX5_happenPart_80 : decode cX5_happenPart 80 = .ok (.aload_n 0, 1) := by decide +kernel
theorem dX5_happenPart_81 : decode cX5_happenPart 81 = .ok (.getfield 10, 3) := by decide +kernel
theorem dX5_happenPart_84 : decode cX5_happenPart 84 = .ok (.iload_n 2, 1) := by decide +kernel
theorem dX5_happenPart_85 : decode cX5_happenPart 85 = .ok (.iload_n 3, 1) := by decide +kernel
theorem dX5_happenPart_86 : decode cX5_happenPart 86 = .ok (.invokevirtual 275, 3) := by decide +kernel
theorem dX5_happenPart_89 : decode cX5_happenPart 89 = .ok (.ireturn, 1) := by decide +kernel
theorem dX5_happenPart_90 : decode cX5_happenPart 90 = .ok (.aload_n 0, 1) := by decide +kernel
theorem dX5_happenPart_91 : decode cX5_happenPart 91 = .ok (.getfield 29, 3) := by decide +kernel
theorem dX5_happenPart_94 : decode cX5_happenPart 94 = .ok (.iload_n 1, 1) := by decide +kernel
theorem dX5_happenPart_95 : decode cX5_happenPart 95 = .ok (.iconst 2, 1) := by decide +kernel
theorem dX5_happenPart_96 : decode cX5_happenPart 96 = .ok (.iadd, 1) := by decide +kernel
theorem dX5_happenPart_97 : decode cX5_happenPart 97 = .ok (.invokevirtual 278, 3) := by decide +kernel
theorem dX5_happenPart_100 : decode cX5_happenPart 100 = .ok (.istore 4, 2) := by decide +kernel
theorem dX5_happenPart_102 : decode cX5_happenPart 102 = .ok (.iconst 0, 1) := by decide +kernel
theorem dX5_happenPart_103 : decode cX5_happenPart 103 = .ok (.istore 5, 2) := by decide +kernel
theorem dX5_happenPart_105 : decode cX5_happenPart 105 = .ok (.iload 5, 2) := by decide +kernel
theorem dX5_happenPart_107 : decode cX5_happenPart 107 = .ok (.iload 4, 2) := by decide +kernel
theorem dX5_happenPart_109 : decode cX5_happenPart 109 = .ok (.if_icmp .ge 18, 3) := by decide +kernel
theorem dX5_happenPart_112 : decode cX5_happenPart 112 = .ok (.aload_n 0, 1) := by decide +kernel
theorem dX5_happenPart_113 : decode cX5_happenPart 113 = .ok (.getfield 10, 3) := by decide +kernel
theorem dX5_happenPart_116 : decode cX5_happenPart 116 = .ok (.iload_n 2, 1) := by decide +kernel
theorem dX5_happenPart_117 : decode cX5_happenPart 117 = .ok (.invokevirtual 139, 3) := by decide +kernel
theorem dX5_happenPart_120 : decode cX5_happenPart 120 = .ok (.pop, 1) := by decide +kernel
theorem dX5_happenPart_121 : decode cX5_happenPart 121 = .ok (.iinc 5 1, 3) := by decide +kernel
theorem dX5_happenPart_124 : decode cX5_happenPart 124 = .ok (.goto (-19), 3) := by decide +kernel
theorem dX5_happenPart_127 : decode cX5_happenPart 127 = .ok (.iconst 0, 1) := by decide +kernel
theorem dX5_happenPart_128 : decode cX5_happenPart 128 = .ok (.ireturn, 1) := by decide +kernel
theorem dX5_happenPart_129 : decode cX5_happenPart 129 = .ok (.aload_n 0, 1) := by decide +kernel
theorem dX5_happenPart_130 : decode cX5_happenPart 130 = .ok (.getfield 10, 3) := by decide +kernel
theorem dX5_happenPart_133 : decode cX5_happenPart 133 = .ok (.iload_n 2, 1) := by decide +kernel
theorem dX5_happenPart_134 : decode cX5_happenPart 134 = .ok (.invokevirtual 281, 3) := by decide +kernel
theorem dX5_happenPart_137 : decode cX5_happenPart 137 = .ok (.ireturn, 1) := by decide +kernel
theorem dX5_happenPart_138 : decode cX5_happenPart 138 = .ok (.aload_n 0, 1) := by decide +kernel
theorem dX5_happenPart_139 : decode cX5_happenPart 139 = .ok (.getfield 10, 3) := by decide +kernel
theorem dX5_happenPart_142 : decode cX5_happenPart 142 = .ok (.iload_n 2, 1) := by decide +kernel
theorem dX5_happenPart_143 : decode cX5_happenPart 143 = .ok (.iload_n 3, 1) := by decide +kernel
theorem dX5_happenPart_144 : decode cX5_happenPart 144 = .ok (.invokevirtual 284, 3) := by decide +kernel
theorem dX5_happenPart_147 : decode cX5_happenPart 147 = .ok (.ireturn, 1) := by decide +kernel
theorem dX5_happenPart_148 : decode cX5_happenPart 148 = .ok (.aload_n 0, 1) := by decide +kernel
theorem dX5_happenPart_149 : decode cX5_happenPart 149 = .ok (.getfield 10, 3) := by decide +kernel
theorem dX5_happenPart_152 : decode cX5_happenPart 152 = .ok (.iload_n 2, 1) := by decide +kernel
theorem dX5_happenPart_153 : decode cX5_happenPart 153 = .ok (.invokevirtual 287, 3) := by decide +kernel
theorem dX5_happenPart_156 : decode cX5_happenPart 156 = .ok (.ireturn, 1) := by decide +kernel
theorem dX5_happenPart_157 : decode cX5_happenPart 157 = .ok (.aload_n 0, 1) := by decide +kernel
theorem dX5_happenPart_158 : decode cX5_happenPart 158 = .ok (.getfield 10, 3) := by decide +kernel
theorem dX5_happenPart_161 : decode cX5_happenPart 161 = .ok (.invokevirtual 142, 3) := by decide +kernel
theorem dX5_happenPart_164 : decode cX5_happenPart 164 = .ok (.pop, 1) := by decide +kernel
theorem dX5_happenPart_165 : decode cX5_happenPart 165 = .ok (.iconst 0, 1) := by decide +kernel
theorem dX5_happenPart_166 : decode cX5_happenPart 166 = .ok (.ireturn, 1) := by decide +kernel
theorem dX5_mix_0 : decode cX5_mix 0 = .ok (.ldc2_w 290, 3) := by decide +kernel
theorem dX5_mix_3 : decode cX5_mix 3 = .ok (.lload_n 0, 1) := by decide +kernel
theorem dX5_mix_4 : decode cX5_mix 4 = .ok (.lmul, 1) := by decide +kernel
theorem dX5_mix_5 : decode cX5_mix 5 = .ok (.lload_n 2, 1) := by decide +kernel
theorem dX5_mix_6 : decode cX5_mix 6 = .ok (.ladd, 1) := by decide +kernel
theorem dX5_mix_7 : decode cX5_mix 7 = .ok (.lreturn, 1) := by decide +kernel
set_option maxRecDepth 20000 in
theorem ggX5_mixGuest_X0_guestNumber : GoodIn wsX5_mixGuest wsX0_guestNumber := goodIn_r _ [5, 6, 7, 8, 9, 10, 11, 12, 13, 14, 15, 16, 17, 18, 19, 20, 21, 22, 23, 24, 25, 26, 27, 28, 29, 30, 31, 32, 33, 34, 100, 101, 102, 103, 104, 105, 106, 107, 108, 109, 110, 111, 112, 113, 114, 115, 116, 117, 118, 119, 120, 121, 122] (by decide +kernel) (by decide +kernel)
set_option maxRecDepth 20000 in
theorem gX5_mixGuest_X0_guestNumber_n194 : GoodIn wsX5_mixGuest (wsX0_guestNumber) := ggX5_mixGuest_X0_guestNumber
set_option maxRecDepth 20000 in
theorem ggX5_mixGuest_X5_mix : GoodIn wsX5_mixGuest wsX5_mix := goodIn_r _ [37, 38] (by decide +kernel) (by decide +kernel)
set_option maxRecDepth 20000 in
theorem gX5_mixGuest_X5_mix : GoodIn wsX5_mixGuest (va_wsS RX5 218 yX5_mix wsX5_mix) := goodIn_app (goodIn_of _ (by decide +kernel)) ggX5_mixGuest_X5_mix
set_option maxRecDepth 20000 in
theorem ggX5_mixGuest_X0_reasonNoMask : GoodIn wsX5_mixGuest wsX0_reasonNoMask := goodIn_r _ [41, 6, 8, 9, 10, 100, 101, 102, 103, 104, 105, 106, 107, 108, 109, 110, 111, 112, 113, 114, 115, 116, 117, 118, 119, 120] (by decide +kernel) (by decide +kernel)
set_option maxRecDepth 20000 in
theorem gX5_mixGuest_X0_reasonNoMask_n103 : GoodIn wsX5_mixGuest (wsX0_reasonNoMask) := ggX5_mixGuest_X0_reasonNoMask
set_option maxRecDepth 20000 in
theorem ggX5_mixGuest_X0_reasonNoLine : GoodIn wsX5_mixGuest wsX0_reasonNoLine := goodIn_r _ [44, 6, 7, 45, 46, 12, 47, 48, 49, 8, 9, 10, 22, 23, 24, 25, 26, 27, 28, 29, 30, 31, 100, 101, 102, 103, 104, 105, 106, 107, 108, 109, 110, 111, 112, 113, 114, 115, 116, 117, 118, 119, 120, 121, 122] (by decide +kernel) (by decide +kernel)
set_option maxRecDepth 20000 in
theorem gX5_mixGuest_X0_reasonNoLine_n124 : GoodIn wsX5_mixGuest (wsX0_reasonNoLine) := ggX5_mixGuest_X0_reasonNoLine
set_option maxRecDepth 20000 in
theorem ggX5_mixGuest_X0_gateOfFewestElls : GoodIn wsX5_mixGuest wsX0_gateOfFewestElls := goodIn_r _ [52, 7, 53, 54, 55, 3, 56, 6, 57, 58, 59, 60, 61, 62, 63, 64, 65, 11, 12, 13, 14, 15, 16, 8, 9, 10, 17, 18, 19, 20, 21, 66, 67, 68, 69, 45, 100, 101, 102, 103, 104, 105, 106, 107, 108, 109, 110, 111, 121, 122, 112, 113, 114, 115, 116, 117, 118, 119, 120] (by decide +kernel) (by decide +kernel)
set_option maxRecDepth 20000 in
theorem gX5_mixGuest_X0_gateOfFewestElls_n206 : GoodIn wsX5_mixGuest (wsX0_gateOfFewestElls) := ggX5_mixGuest_X0_gateOfFewestElls
set_option maxRecDepth 20000 in
theorem ggX5_mixGuest_X0_gateNumber : GoodIn wsX5_mixGuest wsX0_gateNumber := goodIn_r _ [72, 45, 6, 53, 54, 55, 3, 56, 57, 58, 59, 60, 61, 62, 63, 64, 65, 11, 12, 13, 14, 15, 16, 8, 9, 10, 17, 18, 19, 20, 21, 66, 67, 68, 69, 73, 74, 75, 76, 77, 78, 79, 80, 81, 82, 83, 84, 85, 86, 87, 100, 101, 102, 103, 104, 105, 106, 107, 108, 109, 110, 111, 112, 113, 114, 115, 116, 117, 118, 119, 120] (by decide +kernel) (by decide +kernel)
set_option maxRecDepth 20000 in
theorem gX5_mixGuest_X0_gateNumber_n203 : GoodIn wsX5_mixGuest (wsX0_gateNumber) := ggX5_mixGuest_X0_gateNumber
set_option maxRecDepth 20000 in
theorem ggX5_mixGuest_X0_nightsUntilAllowed : GoodIn wsX5_mixGuest wsX0_nightsUntilAllowed := goodIn_r _ [90, 57, 91, 92, 93, 3, 94, 6, 17, 12, 18, 19, 20, 21, 11, 13, 14, 15, 16, 8, 9, 10, 66, 67, 68, 69, 45, 58, 59, 60, 61, 100, 101, 102, 103, 104, 105, 106, 107, 108, 109, 110, 111, 112, 113, 114, 115, 116, 117, 118, 119, 120] (by decide +kernel) (by decide +kernel)
set_option maxRecDepth 20000 in
theorem gX5_mixGuest_X0_nightsUntilAllowed_n209 : GoodIn wsX5_mixGuest (wsX0_nightsUntilAllowed) := ggX5_mixGuest_X0_nightsUntilAllowed
theorem dX5_mixGuest_0 : decode cX5_mixGuest 0 = .ok (.lload_n 1, 1) := by decide +kernel
theorem dX5_mixGuest_1 : decode cX5_mixGuest 1 = .ok (.lstore 4, 2) := by decide +kernel
theorem dX5_mixGuest_3 : decode cX5_mixGuest 3 = .ok (.iconst 0, 1) := by decide +kernel
theorem dX5_mixGuest_4 : decode cX5_mixGuest 4 = .ok (.istore 6, 2) := by decide +kernel
theorem dX5_mixGuest_6 : decode cX5_mixGuest 6 = .ok (.iload 6, 2) := by decide +kernel
theorem dX5_mixGuest_8 : decode cX5_mixGuest 8 = .ok (.bipush 11, 2) := by decide +kernel
theorem dX5_mixGuest_10 : decode cX5_mixGuest 10 = .ok (.if_icmp .ge 27, 3) := by decide +kernel
theorem dX5_mixGuest_13 : decode cX5_mixGuest 13 = .ok (.lload 4, 2) := by decide +kernel
theorem dX5_mixGuest_15 : decode cX5_mixGuest 15 = .ok (.aload_n 0, 1) := by decide +kernel
theorem dX5_mixGuest_16 : decode cX5_mixGuest 16 = .ok (.getfield 10, 3) := by decide +kernel
theorem dX5_mixGuest_19 : decode cX5_mixGuest 19 = .ok (.iload_n 3, 1) := by decide +kernel
theorem dX5_mixGuest_20 : decode cX5_mixGuest 20 = .ok (.iload 6, 2) := by decide +kernel
theorem dX5_mixGuest_22 : decode cX5_mixGuest 22 = .ok (.invokevirtual 194, 3) := by decide +kernel
theorem dX5_mixGuest_25 : decode cX5_mixGuest 25 = .ok (.i2l, 1) := by decide +kernel
theorem dX5_mixGuest_26 : decode cX5_mixGuest 26 = .ok (.invokestatic 218, 3) := by decide +kernel
theorem dX5_mixGuest_29 : decode cX5_mixGuest 29 = .ok (.lstore 4, 2) := by decide +kernel
theorem dX5_mixGuest_31 : decode cX5_mixGuest 31 = .ok (.iinc 6 1, 3) := by decide +kernel
theorem dX5_mixGuest_34 : decode cX5_mixGuest 34 = .ok (.goto (-28), 3) := by decide +kernel
theorem dX5_mixGuest_37 : decode cX5_mixGuest 37 = .ok (.lload 4, 2) := by decide +kernel
theorem dX5_mixGuest_39 : decode cX5_mixGuest 39 = .ok (.aload_n 0, 1) := by decide +kernel
theorem dX5_mixGuest_40 : decode cX5_mixGuest 40 = .ok (.getfield 10, 3) := by decide +kernel
theorem dX5_mixGuest_43 : decode cX5_mixGuest 43 = .ok (.iload_n 3, 1) := by decide +kernel
theorem dX5_mixGuest_44 : decode cX5_mixGuest 44 = .ok (.invokevirtual 103, 3) := by decide +kernel
theorem dX5_mixGuest_47 : decode cX5_mixGuest 47 = .ok (.i2l, 1) := by decide +kernel
theorem dX5_mixGuest_48 : decode cX5_mixGuest 48 = .ok (.invokestatic 218, 3) := by decide +kernel
theorem dX5_mixGuest_51 : decode cX5_mixGuest 51 = .ok (.lstore 4, 2) := by decide +kernel
theorem dX5_mixGuest_53 : decode cX5_mixGuest 53 = .ok (.lload 4, 2) := by decide +kernel
theorem dX5_mixGuest_55 : decode cX5_mixGuest 55 = .ok (.aload_n 0, 1) := by decide +kernel
theorem dX5_mixGuest_56 : decode cX5_mixGuest 56 = .ok (.getfield 10, 3) := by decide +kernel
theorem dX5_mixGuest_59 : decode cX5_mixGuest 59 = .ok (.iload_n 3, 1) := by decide +kernel
theorem dX5_mixGuest_60 : decode cX5_mixGuest 60 = .ok (.invokevirtual 124, 3) := by decide +kernel
theorem dX5_mixGuest_63 : decode cX5_mixGuest 63 = .ok (.i2l, 1) := by decide +kernel
theorem dX5_mixGuest_64 : decode cX5_mixGuest 64 = .ok (.invokestatic 218, 3) := by decide +kernel
theorem dX5_mixGuest_67 : decode cX5_mixGuest 67 = .ok (.lstore 4, 2) := by decide +kernel
theorem dX5_mixGuest_69 : decode cX5_mixGuest 69 = .ok (.lload 4, 2) := by decide +kernel
theorem dX5_mixGuest_71 : decode cX5_mixGuest 71 = .ok (.aload_n 0, 1) := by decide +kernel
theorem dX5_mixGuest_72 : decode cX5_mixGuest 72 = .ok (.getfield 10, 3) := by decide +kernel
theorem dX5_mixGuest_75 : decode cX5_mixGuest 75 = .ok (.iload_n 3, 1) := by decide +kernel
theorem dX5_mixGuest_76 : decode cX5_mixGuest 76 = .ok (.invokevirtual 206, 3) := by decide +kernel
theorem dX5_mixGuest_79 : decode cX5_mixGuest 79 = .ok (.i2l, 1) := by decide +kernel
theorem dX5_mixGuest_80 : decode cX5_mixGuest 80 = .ok (.invokestatic 218, 3) := by decide +kernel
theorem dX5_mixGuest_83 : decode cX5_mixGuest 83 = .ok (.lstore 4, 2) := by decide +kernel
theorem dX5_mixGuest_85 : decode cX5_mixGuest 85 = .ok (.iconst 0, 1) := by decide +kernel
theorem dX5_mixGuest_86 : decode cX5_mixGuest 86 = .ok (.istore 6, 2) := by decide +kernel
theorem dX5_mixGuest_88 : decode cX5_mixGuest 88 = .ok (.iload 6, 2) := by decide +kernel
theorem dX5_mixGuest_90 : decode cX5_mixGuest 90 = .ok (.iconst 3, 1) := by decide +kernel
theorem dX5_mixGuest_91 : decode cX5_mixGuest 91 = .ok (.if_icmp .ge 62, 3) := by decide +kernel
theorem dX5_mixGuest_94 : decode cX5_mixGuest 94 = .ok (.iconst 0, 1) := by decide +kernel
theorem dX5_mixGuest_95 : decode cX5_mixGuest 95 = .ok (.istore 7, 2) := by decide +kernel
theorem dX5_mixGuest_97 : decode cX5_mixGuest 97 = .ok (.iload 7, 2) := by decide +kernel
theorem dX5_mixGuest_99 : decode cX5_mixGuest 99 = .ok (.iconst 4, 1) := by decide +kernel
theorem dX5_mixGuest_100 : decode cX5_mixGuest 100 = .ok (.if_icmp .ge 29, 3) := by decide +kernel
theorem dX5_mixGuest_103 : decode cX5_mixGuest 103 = .ok (.lload 4, 2) := by decide +kernel
theorem dX5_mixGuest_105 : decode cX5_mixGuest 105 = .ok (.aload_n 0, 1) := by decide +kernel
theorem dX5_mixGuest_106 : decode cX5_mixGuest 106 = .ok (.getfield 10, 3) := by decide +kernel
theorem dX5_mixGuest_109 : decode cX5_mixGuest 109 = .ok (.iload_n 3, 1) := by decide +kernel
theorem dX5_mixGuest_110 : decode cX5_mixGuest 110 = .ok (.iload 6, 2) := by decide +kernel
theorem dX5_mixGuest_112 : decode cX5_mixGuest 112 = .ok (.iload 7, 2) := by decide +kernel
theorem dX5_mixGuest_114 : decode cX5_mixGuest 114 = .ok (.invokevirtual 203, 3) := by decide +kernel
theorem dX5_mixGuest_117 : decode cX5_mixGuest 117 = .ok (.i2l, 1) := by decide +kernel
theorem dX5_mixGuest_118 : decode cX5_mixGuest 118 = .ok (.invokestatic 218, 3) := by decide +kernel
theorem dX5_mixGuest_121 : decode cX5_mixGuest 121 = .ok (.lstore 4, 2) := by decide +kernel
theorem dX5_mixGuest_123 : decode cX5_mixGuest 123 = .ok (.iinc 7 1, 3) := by decide +kernel
theorem dX5_mixGuest_126 : decode cX5_mixGuest 126 = .ok (.goto (-29), 3) := by decide +kernel
theorem dX5_mixGuest_129 : decode cX5_mixGuest 129 = .ok (.lload 4, 2) := by decide +kernel
theorem dX5_mixGuest_131 : decode cX5_mixGuest 131 = .ok (.aload_n 0, 1) := by decide +kernel
theorem dX5_mixGuest_132 : decode cX5_mixGuest 132 = .ok (.getfield 10, 3) := by decide +kernel
theorem dX5_mixGuest_135 : decode cX5_mixGuest 135 = .ok (.iload_n 3, 1) := by decide +kernel
theorem dX5_mixGuest_136 : decode cX5_mixGuest 136 = .ok (.iload 6, 2) := by decide +kernel
theorem dX5_mixGuest_138 : decode cX5_mixGuest 138 = .ok (.invokevirtual 209, 3) := by decide +kernel
theorem dX5_mixGuest_141 : decode cX5_mixGuest 141 = .ok (.i2l, 1) := by decide +kernel
theorem dX5_mixGuest_142 : decode cX5_mixGuest 142 = .ok (.invokestatic 218, 3) := by decide +kernel
theorem dX5_mixGuest_145 : decode cX5_mixGuest 145 = .ok (.lstore 4, 2) := by decide +kernel
theorem dX5_mixGuest_147 : decode cX5_mixGuest 147 = .ok (.iinc 6 1, 3) := by decide +kernel
theorem dX5_mixGuest_150 : decode cX5_mixGuest 150 = .ok (.goto (-62), 3) := by decide +kernel
theorem dX5_mixGuest_153 : decode cX5_mixGuest 153 = .ok (.lload 4, 2) := by decide +kernel
theorem dX5_mixGuest_155 : decode cX5_mixGuest 155 = .ok (.lreturn, 1) := by decide +kernel
set_option maxRecDepth 20000 in
theorem ggX5_mixGate_X5_at : GoodIn wsX5_mixGate wsX5_at := goodIn_r _ [5] (by decide +kernel) (by decide +kernel)
set_option maxRecDepth 20000 in
theorem gX5_mixGate_X5_at : GoodIn wsX5_mixGate (va_wsS RX5 93 yX5_at wsX5_at) := goodIn_app (goodIn_of _ (by decide +kernel)) ggX5_mixGate_X5_at
set_option maxRecDepth 20000 in
theorem ggX5_mixGate_X5_mix : GoodIn wsX5_mixGate wsX5_mix := goodIn_r _ [8, 9] (by decide +kernel) (by decide +kernel)
set_option maxRecDepth 20000 in
theorem gX5_mixGate_X5_mix : GoodIn wsX5_mixGate (va_wsS RX5 218 yX5_mix wsX5_mix) := goodIn_app (goodIn_of _ (by decide +kernel)) ggX5_mixGate_X5_mix
set_option maxRecDepth 20000 in
theorem ggX5_mixGate_X0_allowedElls : GoodIn wsX5_mixGate wsX0_allowedElls := goodIn_r _ [13, 14, 15, 16, 17, 18, 3, 4, 5, 29, 30, 31, 32, 33, 34, 35, 36, 37, 38, 39, 40] (by decide +kernel) (by decide +kernel)
set_option maxRecDepth 20000 in
theorem gX5_mixGate_X0_allowedElls_n197 : GoodIn wsX5_mixGate (wsX0_allowedElls) := ggX5_mixGate_X0_allowedElls
set_option maxRecDepth 20000 in
theorem ggX5_mixGate_X3_standingAt : GoodIn wsX5_mixGate wsX3_standingAt := goodIn_r _ [22, 23, 3, 4, 5, 41, 42] (by decide +kernel) (by decide +kernel)
set_option maxRecDepth 20000 in
theorem gX5_mixGate_X3_standingAt_n292 : GoodIn wsX5_mixGate (wsX3_standingAt) := ggX5_mixGate_X3_standingAt
theorem dX5_mixGate_0 : decode cX5_mixGate 0 = .ok (.aload_n 0, 1) := by decide +kernel
theorem dX5_mixGate_1 : decode cX5_mixGate 1 = .ok (.getfield 10, 3) := by decide +kernel
theorem dX5_mixGate_4 : decode cX5_mixGate 4 = .ok (.getfield 127, 3) := by decide +kernel
theorem dX5_mixGate_7 : decode cX5_mixGate 7 = .ok (.getfield 136, 3) := by decide +kernel
theorem dX5_mixGate_10 : decode cX5_mixGate 10 = .ok (.iload_n 3, 1) := by decide +kernel
theorem dX5_mixGate_11 : decode cX5_mixGate 11 = .ok (.invokestatic 93, 3) := by decide +kernel
theorem dX5_mixGate_14 : decode cX5_mixGate 14 = .ok (.istore 4, 2) := by decide +kernel
theorem dX5_mixGate_16 : decode cX5_mixGate 16 = .ok (.lload_n 1, 1) := by decide +kernel
theorem dX5_mixGate_17 : decode cX5_mixGate 17 = .ok (.iload 4, 2) := by decide +kernel
theorem dX5_mixGate_19 : decode cX5_mixGate 19 = .ok (.i2l, 1) := by decide +kernel
theorem dX5_mixGate_20 : decode cX5_mixGate 20 = .ok (.invokestatic 218, 3) := by decide +kernel
theorem dX5_mixGate_23 : decode cX5_mixGate 23 = .ok (.lstore 5, 2) := by decide +kernel
theorem dX5_mixGate_25 : decode cX5_mixGate 25 = .ok (.iconst 0, 1) := by decide +kernel
theorem dX5_mixGate_26 : decode cX5_mixGate 26 = .ok (.istore 7, 2) := by decide +kernel
theorem dX5_mixGate_28 : decode cX5_mixGate 28 = .ok (.iload 7, 2) := by decide +kernel
theorem dX5_mixGate_30 : decode cX5_mixGate 30 = .ok (.iconst 4, 1) := by decide +kernel
theorem dX5_mixGate_31 : decode cX5_mixGate 31 = .ok (.if_icmp .gt 34, 3) := by decide +kernel
theorem dX5_mixGate_34 : decode cX5_mixGate 34 = .ok (.lload 5, 2) := by decide +kernel
theorem dX5_mixGate_36 : decode cX5_mixGate 36 = .ok (.aload_n 0, 1) := by decide +kernel
theorem dX5_mixGate_37 : decode cX5_mixGate 37 = .ok (.getfield 10, 3) := by decide +kernel
theorem dX5_mixGate_40 : decode cX5_mixGate 40 = .ok (.iload_n 3, 1) := by decide +kernel
theorem dX5_mixGate_41 : decode cX5_mixGate 41 = .ok (.iload 7, 2) := by decide +kernel
theorem dX5_mixGate_43 : decode cX5_mixGate 43 = .ok (.aload_n 0, 1) := by decide +kernel
theorem dX5_mixGate_44 : decode cX5_mixGate 44 = .ok (.getfield 10, 3) := by decide +kernel
theorem dX5_mixGate_47 : decode cX5_mixGate 47 = .ok (.getfield 191, 3) := by decide +kernel
theorem dX5_mixGate_50 : decode cX5_mixGate 50 = .ok (.invokevirtual 197, 3) := by decide +kernel
theorem dX5_mixGate_53 : decode cX5_mixGate 53 = .ok (.i2l, 1) := by decide +kernel
theorem dX5_mixGate_54 : decode cX5_mixGate 54 = .ok (.invokestatic 218, 3) := by decide +kernel
theorem dX5_mixGate_57 : decode cX5_mixGate 57 = .ok (.lstore 5, 2) := by decide +kernel
theorem dX5_mixGate_59 : decode cX5_mixGate 59 = .ok (.iinc 7 1, 3) := by decide +kernel
theorem dX5_mixGate_62 : decode cX5_mixGate 62 = .ok (.goto (-34), 3) := by decide +kernel
theorem dX5_mixGate_65 : decode cX5_mixGate 65 = .ok (.iconst 0, 1) := by decide +kernel
theorem dX5_mixGate_66 : decode cX5_mixGate 66 = .ok (.istore 7, 2) := by decide +kernel
theorem dX5_mixGate_68 : decode cX5_mixGate 68 = .ok (.iload 7, 2) := by decide +kernel
theorem dX5_mixGate_70 : decode cX5_mixGate 70 = .ok (.iload 4, 2) := by decide +kernel
theorem dX5_mixGate_72 : decode cX5_mixGate 72 = .ok (.if_icmp .ge 30, 3) := by decide +kernel
theorem dX5_mixGate_75 : decode cX5_mixGate 75 = .ok (.lload 5, 2) := by decide +kernel
theorem dX5_mixGate_77 : decode cX5_mixGate 77 = .ok (.aload_n 0, 1) := by decide +kernel
theorem dX5_mixGate_78 : decode cX5_mixGate 78 = .ok (.getfield 10, 3) := by decide +kernel
theorem dX5_mixGate_81 : decode cX5_mixGate 81 = .ok (.getfield 127, 3) := by decide +kernel
theorem dX5_mixGate_84 : decode cX5_mixGate 84 = .ok (.iload_n 3, 1) := by decide +kernel
theorem dX5_mixGate_85 : decode cX5_mixGate 85 = .ok (.iload 7, 2) := by decide +kernel
theorem dX5_mixGate_87 : decode cX5_mixGate 87 = .ok (.invokevirtual 292, 3) := by decide +kernel
theorem dX5_mixGate_90 : decode cX5_mixGate 90 = .ok (.i2l, 1) := by decide +kernel
theorem dX5_mixGate_91 : decode cX5_mixGate 91 = .ok (.invokestatic 218, 3) := by decide +kernel
theorem dX5_mixGate_94 : decode cX5_mixGate 94 = .ok (.lstore 5, 2) := by decide +kernel
theorem dX5_mixGate_96 : decode cX5_mixGate 96 = .ok (.iinc 7 1, 3) := by decide +kernel
theorem dX5_mixGate_99 : decode cX5_mixGate 99 = .ok (.goto (-31), 3) := by decide +kernel
theorem dX5_mixGate_102 : decode cX5_mixGate 102 = .ok (.lload 5, 2) := by decide +kernel
theorem dX5_mixGate_104 : decode cX5_mixGate 104 = .ok (.lreturn, 1) := by decide +kernel
theorem dX5_bitsOf_0 : decode cX5_bitsOf 0 = .ok (.dload_n 0, 1) := by decide +kernel
theorem dX5_bitsOf_1 : decode cX5_bitsOf 1 = .ok (.dconst 0, 1) := by decide +kernel
theorem dX5_bitsOf_2 : decode cX5_bitsOf 2 = .ok (.dcmp .g, 1) := by decide +kernel
theorem dX5_bitsOf_3 : decode cX5_bitsOf 3 = .ok (.ifCond .gt 5, 3) := by decide +kernel
theorem dX5_bitsOf_6 : decode cX5_bitsOf 6 = .ok (.lconst 0, 1) := by decide +kernel
theorem dX5_bitsOf_7 : decode cX5_bitsOf 7 = .ok (.lreturn, 1) := by decide +kernel
theorem dX5_bitsOf_8 : decode cX5_bitsOf 8 = .ok (.dload_n 0, 1) := by decide +kernel
theorem dX5_bitsOf_9 : decode cX5_bitsOf 9 = .ok (.dstore_n 2, 1) := by decide +kernel
theorem dX5_bitsOf_10 : decode cX5_bitsOf 10 = .ok (.ldc2_w 295, 3) := by decide +kernel
theorem dX5_bitsOf_13 : decode cX5_bitsOf 13 = .ok (.lstore 4, 2) := by decide +kernel
theorem dX5_bitsOf_15 : decode cX5_bitsOf 15 = .ok (.iconst 0, 1) := by decide +kernel
theorem dX5_bitsOf_16 : decode cX5_bitsOf 16 = .ok (.istore 6, 2) := by decide +kernel
theorem dX5_bitsOf_18 : decode cX5_bitsOf 18 = .ok (.iload 6, 2) := by decide +kernel
theorem dX5_bitsOf_20 : decode cX5_bitsOf 20 = .ok (.sipush 1022, 3) := by decide +kernel
theorem dX5_bitsOf_23 : decode cX5_bitsOf 23 = .ok (.if_icmp .ge 27, 3) := by decide +kernel
theorem dX5_bitsOf_26 : decode cX5_bitsOf 26 = .ok (.dload_n 2, 1) := by decide +kernel
theorem dX5_bitsOf_27 : decode cX5_bitsOf 27 = .ok (.dconst 1, 1) := by decide +kernel
theorem dX5_bitsOf_28 : decode cX5_bitsOf 28 = .ok (.dcmp .g, 1) := by decide +kernel
theorem dX5_bitsOf_29 : decode cX5_bitsOf 29 = .ok (.ifCond .ge 21, 3) := by decide +kernel
theorem dX5_bitsOf_32 : decode cX5_bitsOf 32 = .ok (.dload_n 2, 1) := by decide +kernel
theorem dX5_bitsOf_33 : decode cX5_bitsOf 33 = .ok (.ldc2_w 297, 3) := by decide +kernel
theorem dX5_bitsOf_36 : decode cX5_bitsOf 36 = .ok (.dmul, 1) := by decide +kernel
theorem dX5_bitsOf_37 : decode cX5_bitsOf 37 = .ok (.dstore_n 2, 1) := by decide +kernel
theorem dX5_bitsOf_38 : decode cX5_bitsOf 38 = .ok (.lload 4, 2) := by decide +kernel
theorem dX5_bitsOf_40 : decode cX5_bitsOf 40 = .ok (.lconst 1, 1) := by decide +kernel
theorem dX5_bitsOf_41 : decode cX5_bitsOf 41 = .ok (.lsub, 1) := by decide +kernel
theorem dX5_bitsOf_42 : decode cX5_bitsOf 42 = .ok (.lstore 4, 2) := by decide +kernel
theorem dX5_bitsOf_44 : decode cX5_bitsOf 44 = .ok (.iinc 6 1, 3) := by decide +kernel
theorem dX5_bitsOf_47 : decode cX5_bitsOf 47 = .ok (.goto (-29), 3) := by decide +kernel
theorem dX5_bitsOf_50 : decode cX5_bitsOf 50 = .ok (.lload 4, 2) := by decide +kernel
theorem dX5_bitsOf_52 : decode cX5_bitsOf 52 = .ok (.bipush 52, 2) := by decide +kernel
theorem dX5_bitsOf_54 : decode cX5_bitsOf 54 = .ok (.lshl, 1) := by decide +kernel
theorem dX5_bitsOf_55 : decode cX5_bitsOf 55 = .ok (.dload_n 2, 1) := by decide +kernel
theorem dX5_bitsOf_56 : decode cX5_bitsOf 56 = .ok (.dconst 1, 1) := by decide +kernel
theorem dX5_bitsOf_57 : decode cX5_bitsOf 57 = .ok (.dsub, 1) := by decide +kernel
theorem dX5_bitsOf_58 : decode cX5_bitsOf 58 = .ok (.ldc2_w 299, 3) := by decide +kernel
theorem dX5_bitsOf_61 : decode cX5_bitsOf 61 = .ok (.dmul, 1) := by decide +kernel
theorem dX5_bitsOf_62 : decode cX5_bitsOf 62 = .ok (.d2l, 1) := by decide +kernel
theorem dX5_bitsOf_63 : decode cX5_bitsOf 63 = .ok (.ladd, 1) := by decide +kernel
theorem dX5_bitsOf_64 : decode cX5_bitsOf 64 = .ok (.lreturn, 1) := by decide +kernel
theorem dX6_init_0 : decode cX6_init 0 = .ok (.aload_n 0, 1) := by decide +kernel
theorem dX6_init_1 : decode cX6_init 1 = .ok (.invokespecial 1, 3) := by decide +kernel
theorem dX6_init_4 : decode cX6_init 4 = .ok (.aload_n 0, 1) := by decide +kernel
theorem dX6_init_5 : decode cX6_init 5 = .ok (.sipush 952, 3) := by decide +kernel
theorem dX6_init_8 : decode cX6_init 8 = .ok (.newarray .int, 2) := by decide +kernel
theorem dX6_init_10 : decode cX6_init 10 = .ok (.putfield 7, 3) := by decide +kernel
theorem dX6_init_13 : decode cX6_init 13 = .ok (.aload_n 0, 1) := by decide +kernel
theorem dX6_init_14 : decode cX6_init 14 = .ok (.bipush 60, 2) := by decide +kernel
theorem dX6_init_16 : decode cX6_init 16 = .ok (.newarray .int, 2) := by decide +kernel
theorem dX6_init_18 : decode cX6_init 18 = .ok (.putfield 13, 3) := by decide +kernel
theorem dX6_init_21 : decode cX6_init 21 = .ok (.aload_n 0, 1) := by decide +kernel
theorem dX6_init_22 : decode cX6_init 22 = .ok (.iconst 5, 1) := by decide +kernel
theorem dX6_init_23 : decode cX6_init 23 = .ok (.newarray .int, 2) := by decide +kernel
theorem dX6_init_25 : decode cX6_init 25 = .ok (.putfield 16, 3) := by decide +kernel
theorem dX6_init_28 : decode cX6_init 28 = .ok (.aload_n 0, 1) := by decide +kernel
theorem dX6_init_29 : decode cX6_init 29 = .ok (.getfield 7, 3) := by decide +kernel
theorem dX6_init_32 : decode cX6_init 32 = .ok (.bipush 8, 2) := by decide +kernel
theorem dX6_init_34 : decode cX6_init 34 = .ok (.iconst (-1), 1) := by decide +kernel
theorem dX6_init_35 : decode cX6_init 35 = .ok (.iastore, 1) := by decide +kernel
theorem dX6_init_36 : decode cX6_init 36 = .ok (.aload_n 0, 1) := by decide +kernel
theorem dX6_init_37 : decode cX6_init 37 = .ok (.getfield 7, 3) := by decide +kernel
theorem dX6_init_40 : decode cX6_init 40 = .ok (.bipush 9, 2) := by decide +kernel
theorem dX6_init_42 : decode cX6_init 42 = .ok (.iconst (-1), 1) := by decide +kernel
theorem dX6_init_43 : decode cX6_init 43 = .ok (.iastore, 1) := by decide +kernel
theorem dX6_init_44 : decode cX6_init 44 = .ok (.aload_n 0, 1) := by decide +kernel
theorem dX6_init_45 : decode cX6_init 45 = .ok (.getfield 7, 3) := by decide +kernel
theorem dX6_init_48 : decode cX6_init 48 = .ok (.bipush 10, 2) := by decide +kernel
theorem dX6_init_50 : decode cX6_init 50 = .ok (.iconst 2, 1) := by decide +kernel
theorem dX6_init_51 : decode cX6_init 51 = .ok (.iastore, 1) := by decide +kernel
theorem dX6_init_52 : decode cX6_init 52 = .ok (.aload_n 0, 1) := by decide +kernel
theorem dX6_init_53 : decode cX6_init 53 = .ok (.getfield 7, 3) := by decide +kernel
theorem dX6_init_56 : decode cX6_init 56 = .ok (.bipush 11, 2) := by decide +kernel
theorem dX6_init_58 : decode cX6_init 58 = .ok (.iconst 4, 1) := by decide +kernel
theorem dX6_init_59 : decode cX6_init 59 = .ok (.iastore, 1) := by decide +kernel
theorem dX6_init_60 : decode cX6_init 60 = .ok (.aload_n 0, 1) := by decide +kernel
theorem dX6_init_61 : decode cX6_init 61 = .ok (.getfield 7, 3) := by decide +kernel
theorem dX6_init_64 : decode cX6_init 64 = .ok (.bipush 12, 2) := by decide +kernel
theorem dX6_init_66 : decode cX6_init 66 = .ok (.iconst 3, 1) := by decide +kernel
theorem dX6_init_67 : decode cX6_init 67 = .ok (.iastore, 1) := by decide +kernel
theorem dX6_init_68 : decode cX6_init 68 = .ok (.aload_n 0, 1) := by decide +kernel
theorem dX6_init_69 : decode cX6_init 69 = .ok (.getfield 7, 3) := by decide +kernel
theorem dX6_init_72 : decode cX6_init 72 = .ok (.bipush 13, 2) := by decide +kernel
theorem dX6_init_74 : decode cX6_init 74 = .ok (.iconst 2, 1) := by decide +kernel
theorem dX6_init_75 : decode cX6_init 75 = .ok (.iastore, 1) := by decide +kernel
theorem dX6_init_76 : decode cX6_init 76 = .ok (.aload_n 0, 1) := by decide +kernel
theorem dX6_init_77 : decode cX6_init 77 = .ok (.getfield 7, 3) := by decide +kernel
theorem dX6_init_80 : decode cX6_init 80 = .ok (.bipush 14, 2) := by decide +kernel
theorem dX6_init_82 : decode cX6_init 82 = .ok (.iconst 2, 1) := by decide +kernel
theorem dX6_init_83 : decode cX6_init 83 = .ok (.iastore, 1) := by decide +kernel
theorem dX6_init_84 : decode cX6_init 84 = .ok (.aload_n 0, 1) := by decide +kernel
theorem dX6_init_85 : decode cX6_init 85 = .ok (.getfield 7, 3) := by decide +kernel
theorem dX6_init_88 : decode cX6_init 88 = .ok (.bipush 15, 2) := by decide +kernel
theorem dX6_init_90 : decode cX6_init 90 = .ok (.bipush 10, 2) := by decide +kernel
theorem dX6_init_92 : decode cX6_init 92 = .ok (.iastore, 1) := by decide +kernel
theorem dX6_init_93 : decode cX6_init 93 = .ok (.return_, 1) := by decide +kernel
theorem dX6_thrown_0 : decode cX6_thrown 0 = .ok (.aload_n 0, 1) := by decide +kernel
theorem dX6_thrown_1 : decode cX6_thrown 1 = .ok (.getfield 19, 3) := by decide +kernel
theorem dX6_thrown_4 : decode cX6_thrown 4 = .ok (.ireturn, 1) := by decide +kernel
theorem dX6_in_0 : decode cX6_in 0 = .ok (.iload_n 0, 1) := by decide +kernel
theorem dX6_in_1 : decode cX6_in 1 = .ok (.iload_n 1, 1) := by decide +kernel
theorem dX6_in_2 : decode cX6_in 2 = .ok (.if_icmp .lt 12, 3) := by decide +kernel
theorem dX6_in_5 : decode cX6_in 5 = .ok (.iload_n 0, 1) := by decide +kernel
theorem dX6_in_6 : decode cX6_in 6 = .ok (.iload_n 2, 1) := by decide +kernel
theorem dX6_in_7 : decode cX6_in 7 = .ok (.if_icmp .gt 7, 3) := by decide +kernel
theorem dX6_in_10 : decode cX6_in 10 = .ok (.iconst 1, 1) := by decide +kernel
theorem dX6_in_11 : decode cX6_in 11 = .ok (.goto 4, 3) := by decide +kernel
theorem dX6_in_14 : decode cX6_in 14 = .ok (.iconst 0, 1) := by decide +kernel
theorem dX6_in_15 : decode cX6_in 15 = .ok (.ireturn, 1) := by decide +kernel
theorem dX6_holds_0 : decode cX6_holds 0 = .ok (.aload_n 0, 1) := by decide +kernel
theorem dX6_holds_1 : decode cX6_holds 1 = .ok (.iload_n 1, 1) := by decide +kernel
theorem dX6_holds_2 : decode cX6_holds 2 = .ok (.putfield 19, 3) := by decide +kernel
theorem dX6_holds_5 : decode cX6_holds 5 = .ok (.iload_n 1, 1) := by decide +kernel
theorem dX6_holds_6 : decode cX6_holds 6 = .ok (.ifCond .ne 7, 3) := by decide +kernel
theorem dX6_holds_9 : decode cX6_holds 9 = .ok (.iconst 1, 1) := by decide +kernel
theorem dX6_holds_10 : decode cX6_holds 10 = .ok (.goto 4, 3) := by decide +kernel
theorem dX6_holds_13 : decode cX6_holds 13 = .ok (.iconst 0, 1) := by decide +kernel
theorem dX6_holds_14 : decode cX6_holds 14 = .ok (.ireturn, 1) := by decide +kernel
set_option maxRecDepth 20000 in
theorem ggX6_isGuest_X6_in : GoodIn wsX6_isGuest wsX6_in := goodIn_r _ [5] (by decide +kernel) (by decide +kernel)
set_option maxRecDepth 20000 in
theorem gX6_isGuest_X6_in : GoodIn wsX6_isGuest (va_wsS RX6 23 yX6_in wsX6_in) := goodIn_app (goodIn_of _ (by decide +kernel)) ggX6_isGuest_X6_in
theorem dX6_isGuest_0 : decode cX6_isGuest 0 = .ok (.iload_n 1, 1) := by decide +kernel
theorem dX6_isGuest_1 : decode cX6_isGuest 1 = .ok (.iconst 0, 1) := by decide +kernel
theorem dX6_isGuest_2 : decode cX6_isGuest 2 = .ok (.aload_n 0, 1) := by decide +kernel
theorem dX6_isGuest_3 : decode cX6_isGuest 3 = .ok (.getfield 7, 3) := by decide +kernel
theorem dX6_isGuest_6 : decode cX6_isGuest 6 = .ok (.iconst 1, 1) := by decide +kernel
theorem dX6_isGuest_7 : decode cX6_isGuest 7 = .ok (.iaload, 1) := by decide +kernel
theorem dX6_isGuest_8 : decode cX6_isGuest 8 = .ok (.iconst 1, 1) := by decide +kernel
theorem dX6_isGuest_9 : decode cX6_isGuest 9 = .ok (.isub, 1) := by decide +kernel
theorem dX6_isGuest_10 : decode cX6_isGuest 10 = .ok (.invokestatic 23, 3) := by decide +kernel
theorem dX6_isGuest_13 : decode cX6_isGuest 13 = .ok (.ireturn, 1) := by decide +kernel
set_option maxRecDepth 20000 in
theorem ggX6_isGate_X6_in : GoodIn wsX6_isGate wsX6_in := goodIn_r _ [4] (by decide +kernel) (by decide +kernel)
set_option maxRecDepth 20000 in
theorem gX6_isGate_X6_in : GoodIn wsX6_isGate (va_wsS RX6 23 yX6_in wsX6_in) := goodIn_app (goodIn_of _ (by decide +kernel)) ggX6_isGate_X6_in
theorem dX6_isGate_0 : decode cX6_isGate 0 = .ok (.iload_n 0, 1) := by decide +kernel
theorem dX6_isGate_1 : decode cX6_isGate 1 = .ok (.iconst 0, 1) := by decide +kernel
theorem dX6_isGate_2 : decode cX6_isGate 2 = .ok (.iconst 2, 1) := by decide +kernel
theorem dX6_isGate_3 : decode cX6_isGate 3 = .ok (.invokestatic 23, 3) := by decide +kernel
theorem dX6_isGate_6 : decode cX6_isGate 6 = .ok (.ireturn, 1) := by decide +kernel
theorem dX6_lesser_0 : decode cX6_lesser 0 = .ok (.iload_n 0, 1) := by decide +kernel
theorem dX6_lesser_1 : decode cX6_lesser 1 = .ok (.iload_n 1, 1) := by decide +kernel
theorem dX6_lesser_2 : decode cX6_lesser 2 = .ok (.if_icmp .ge 7, 3) := by decide +kernel
theorem dX6_lesser_5 : decode cX6_lesser 5 = .ok (.iload_n 0, 1) := by decide +kernel
theorem dX6_lesser_6 : decode cX6_lesser 6 = .ok (.goto 4, 3) := by decide +kernel
theorem dX6_lesser_9 : decode cX6_lesser 9 = .ok (.iload_n 1, 1) := by decide +kernel
theorem dX6_lesser_10 : decode cX6_lesser 10 = .ok (.ireturn, 1) := by decide +kernel
theorem dX6_of_0 : decode cX6_of 0 = .ok (.aload_n 0, 1) := by decide +kernel
theorem dX6_of_1 : decode cX6_of 1 = .ok (.getfield 7, 3) := by decide +kernel
theorem dX6_of_4 : decode cX6_of 4 = .ok (.bipush 16, 2) := by decide +kernel
theorem dX6_of_6 : decode cX6_of 6 = .ok (.bipush 7, 2) := by decide +kernel
theorem dX6_of_8 : decode cX6_of 8 = .ok (.iload_n 1, 1) := by decide +kernel
theorem dX6_of_9 : decode cX6_of 9 = .ok (.imul, 1) := by decide +kernel
theorem dX6_of_10 : decode cX6_of 10 = .ok (.iadd, 1) := by decide +kernel
theorem dX6_of_11 : decode cX6_of 11 = .ok (.iload_n 2, 1) := by decide +kernel
theorem dX6_of_12 : decode cX6_of 12 = .ok (.iadd, 1) := by decide +kernel
theorem dX6_of_13 : decode cX6_of 13 = .ok (.iaload, 1) := by decide +kernel
theorem dX6_of_14 : decode cX6_of 14 = .ok (.ireturn, 1) := by decide +kernel
theorem dX6_lay_0 : decode cX6_lay 0 = .ok (.aload_n 0, 1) := by decide +kernel
theorem dX6_lay_1 : decode cX6_lay 1 = .ok (.getfield 7, 3) := by decide +kernel
theorem dX6_lay_4 : decode cX6_lay 4 = .ok (.bipush 16, 2) := by decide +kernel
theorem dX6_lay_6 : decode cX6_lay 6 = .ok (.bipush 7, 2) := by decide +kernel
theorem dX6_lay_8 : decode cX6_lay 8 = .ok (.iload_n 1, 1) := by decide +kernel
theorem dX6_lay_9 : decode cX6_lay 9 = .ok (.imul, 1) := by decide +kernel
theorem dX6_lay_10 : decode cX6_lay 10 = .ok (.iadd, 1) := by decide +kernel
theorem dX6_lay_11 : decode cX6_lay 11 = .ok (.iload_n 2, 1) := by decide +kernel
theorem dX6_lay_12 : decode cX6_lay 12 = .ok (.iadd, 1) := by decide +kernel
theorem dX6_lay_13 : decode cX6_lay 13 = .ok (.iload_n 3, 1) := by decide +kernel
theorem dX6_lay_14 : decode cX6_lay 14 = .ok (.iastore, 1) := by decide +kernel
theorem dX6_lay_15 : decode cX6_lay 15 = .ok (.return_, 1) := by decide +kernel
set_option maxRecDepth 20000 in
theorem ggX6_isBorrowed_X6_of : GoodIn wsX6_isBorrowed wsX6_of := goodIn_r _ [5, 6, 7, 8, 9, 10, 11, 12, 13, 14, 15, 16, 17, 18] (by decide +kernel) (by decide +kernel)
set_option maxRecDepth 20000 in
theorem gX6_isBorrowed_X6_of : GoodIn wsX6_isBorrowed (wsV RX6 27 RX6 yX6_of wsX6_of) := goodIn_app (goodIn_of _ (by decide +kernel)) ggX6_isBorrowed_X6_of
theorem dX6_isBorrowed_0 : decode cX6_isBorrowed 0 = .ok (.aload_n 0, 1) := by decide +kernel
theorem dX6_isBorrowed_1 : decode cX6_isBorrowed 1 = .ok (.iload_n 1, 1) := by decide +kernel
theorem dX6_isBorrowed_2 : decode cX6_isBorrowed 2 = .ok (.iconst 4, 1) := by decide +kernel
theorem dX6_isBorrowed_3 : decode cX6_isBorrowed 3 = .ok (.invokevirtual 27, 3) := by decide +kernel
theorem dX6_isBorrowed_6 : decode cX6_isBorrowed 6 = .ok (.iconst (-1), 1) := by decide +kernel
theorem dX6_isBorrowed_7 : decode cX6_isBorrowed 7 = .ok (.if_icmp .eq 17, 3) := by decide +kernel
theorem dX6_isBorrowed_10 : decode cX6_isBorrowed 10 = .ok (.aload_n 0, 1) := by decide +kernel
theorem dX6_isBorrowed_11 : decode cX6_isBorrowed 11 = .ok (.iload_n 1, 1) := by decide +kernel
theorem dX6_isBorrowed_12 : decode cX6_isBorrowed 12 = .ok (.iconst 4, 1) := by decide +kernel
theorem dX6_isBorrowed_13 : decode cX6_isBorrowed 13 = .ok (.invokevirtual 27, 3) := by decide +kernel
theorem dX6_isBorrowed_16 : decode cX6_isBorrowed 16 = .ok (.iload_n 1, 1) := by decide +kernel
theorem dX6_isBorrowed_17 : decode cX6_isBorrowed 17 = .ok (.if_icmp .eq 7, 3) := by decide +kernel
theorem dX6_isBorrowed_20 : decode cX6_isBorrowed 20 = .ok (.iconst 1, 1) := by decide +kernel
theorem dX6_isBorrowed_21 : decode cX6_isBorrowed 21 = .ok (.goto 4, 3) := by decide +kernel
theorem dX6_isBorrowed_24 : decode cX6_isBorrowed 24 = .ok (.iconst 0, 1) := by decide +kernel
theorem dX6_isBorrowed_25 : decode cX6_isBorrowed 25 = .ok (.ireturn, 1) := by decide +kernel
set_option maxRecDepth 20000 in
theorem ggX6_lentTo_X6_of : GoodIn wsX6_lentTo wsX6_of := goodIn_r _ [6, 1, 7, 8, 9, 10, 11, 12, 13, 14, 15, 16, 17, 18] (by decide +kernel) (by decide +kernel)
set_option maxRecDepth 20000 in
theorem gX6_lentTo_X6_of : GoodIn wsX6_lentTo (wsV RX6 27 RX6 yX6_of wsX6_of) := goodIn_app (goodIn_of _ (by decide +kernel)) ggX6_lentTo_X6_of
theorem dX6_lentTo_0 : decode cX6_lentTo 0 = .ok (.iconst 0, 1) := by decide +kernel
theorem dX6_lentTo_1 : decode cX6_lentTo 1 = .ok (.istore_n 2, 1) := by decide +kernel
theorem dX6_lentTo_2 : decode cX6_lentTo 2 = .ok (.iload_n 2, 1) := by decide +kernel
theorem dX6_lentTo_3 : decode cX6_lentTo 3 = .ok (.aload_n 0, 1) := by decide +kernel
theorem dX6_lentTo_4 : decode cX6_lentTo 4 = .ok (.getfield 7, 3) := by decide +kernel
theorem dX6_lentTo_7 : decode cX6_lentTo 7 = .ok (.iconst 1, 1) := by decide +kernel
theorem dX6_lentTo_8 : decode cX6_lentTo 8 = .ok (.iaload, 1) := by decide +kernel
theorem dX6_lentTo_9 : decode cX6_lentTo 9 = .ok (.if_icmp .ge 26, 3) := by decide +kernel
theorem dX6_lentTo_12 : decode cX6_lentTo 12 = .ok (.iload_n 2, 1) := by decide +kernel
theorem dX6_lentTo_13 : decode cX6_lentTo 13 = .ok (.iload_n 1, 1) := by decide +kernel
theorem dX6_lentTo_14 : decode cX6_lentTo 14 = .ok (.if_icmp .eq 15, 3) := by decide +kernel
theorem dX6_lentTo_17 : decode cX6_lentTo 17 = .ok (.aload_n 0, 1) := by decide +kernel
theorem dX6_lentTo_18 : decode cX6_lentTo 18 = .ok (.iload_n 2, 1) := by decide +kernel
theorem dX6_lentTo_19 : decode cX6_lentTo 19 = .ok (.iconst 4, 1) := by decide +kernel
theorem dX6_lentTo_20 : decode cX6_lentTo 20 = .ok (.invokevirtual 27, 3) := by decide +kernel
theorem dX6_lentTo_23 : decode cX6_lentTo 23 = .ok (.iload_n 1, 1) := by decide +kernel
theorem dX6_lentTo_24 : decode cX6_lentTo 24 = .ok (.if_icmp .ne 5, 3) := by decide +kernel
theorem dX6_lentTo_27 : decode cX6_lentTo 27 = .ok (.iload_n 2, 1) := by decide +kernel
theorem dX6_lentTo_28 : decode cX6_lentTo 28 = .ok (.ireturn, 1) := by decide +kernel
theorem dX6_lentTo_29 : decode cX6_lentTo 29 = .ok (.iinc 2 1, 3) := by decide +kernel
theorem dX6_lentTo_32 : decode cX6_lentTo 32 = .ok (.goto (-30), 3) := by decide +kernel
theorem dX6_lentTo_35 : decode cX6_lentTo 35 = .ok (.iconst (-1), 1) := by decide +kernel
theorem dX6_lentTo_36 : decode cX6_lentTo 36 = .ok (.ireturn, 1) := by decide +kernel
set_option maxRecDepth 20000 in
theorem ggX6_worn_X6_of : GoodIn wsX6_worn wsX6_of := goodIn_r _ [5, 6, 7, 8, 9, 10, 11, 12, 13, 14, 15, 16, 17, 18] (by decide +kernel) (by decide +kernel)
set_option maxRecDepth 20000 in
theorem gX6_worn_X6_of : GoodIn wsX6_worn (wsV RX6 27 RX6 yX6_of wsX6_of) := goodIn_app (goodIn_of _ (by decide +kernel)) ggX6_worn_X6_of
theorem dX6_worn_0 : decode cX6_worn 0 = .ok (.aload_n 0, 1) := by decide +kernel
theorem dX6_worn_1 : decode cX6_worn 1 = .ok (.iload_n 1, 1) := by decide +kernel
theorem dX6_worn_2 : decode cX6_worn 2 = .ok (.iconst 4, 1) := by decide +kernel
theorem dX6_worn_3 : decode cX6_worn 3 = .ok (.invokevirtual 27, 3) := by decide +kernel
theorem dX6_worn_6 : decode cX6_worn 6 = .ok (.istore_n 2, 1) := by decide +kernel
theorem dX6_worn_7 : decode cX6_worn 7 = .ok (.iload_n 2, 1) := by decide +kernel
theorem dX6_worn_8 : decode cX6_worn 8 = .ok (.iconst (-1), 1) := by decide +kernel
theorem dX6_worn_9 : decode cX6_worn 9 = .ok (.if_icmp .ne 7, 3) := by decide +kernel
theorem dX6_worn_12 : decode cX6_worn 12 = .ok (.iconst 0, 1) := by decide +kernel
theorem dX6_worn_13 : decode cX6_worn 13 = .ok (.goto 9, 3) := by decide +kernel
theorem dX6_worn_16 : decode cX6_worn 16 = .ok (.aload_n 0, 1) := by decide +kernel
theorem dX6_worn_17 : decode cX6_worn 17 = .ok (.iload_n 2, 1) := by decide +kernel
theorem dX6_worn_18 : decode cX6_worn 18 = .ok (.iconst 3, 1) := by decide +kernel
theorem dX6_worn_19 : decode cX6_worn 19 = .ok (.invokevirtual 27, 3) := by decide +kernel
theorem dX6_worn_22 : decode cX6_worn 22 = .ok (.ireturn, 1) := by decide +kernel
set_option maxRecDepth 20000 in
theorem ggX6_whyNoLoan_X6_of : GoodIn wsX6_whyNoLoan wsX6_of := goodIn_r _ [5, 6, 11, 12, 13, 14, 15, 16, 17, 18, 19, 20, 21, 22] (by decide +kernel) (by decide +kernel)
set_option maxRecDepth 20000 in
theorem gX6_whyNoLoan_X6_of : GoodIn wsX6_whyNoLoan (wsV RX6 27 RX6 yX6_of wsX6_of) := goodIn_app (goodIn_of _ (by decide +kernel)) ggX6_whyNoLoan_X6_of
set_option maxRecDepth 20000 in
theorem ggX6_whyNoLoan_X6_isBorrowed : GoodIn wsX6_whyNoLoan wsX6_isBorrowed := goodIn_r _ [10, 1, 2, 3, 4, 5, 6, 11, 12, 13, 14, 15, 16, 17, 18, 19, 20, 21, 22] (by decide +kernel) (by decide +kernel)
set_option maxRecDepth 20000 in
theorem gX6_whyNoLoan_X6_isBorrowed : GoodIn wsX6_whyNoLoan (wsV RX6 31 RX6 yX6_isBorrowed wsX6_isBorrowed) := goodIn_app (goodIn_of _ (by decide +kernel)) ggX6_whyNoLoan_X6_isBorrowed
theorem dX6_whyNoLoan_0 : decode cX6_whyNoLoan 0 = .ok (.iload_n 1, 1) := by decide +kernel
theorem dX6_whyNoLoan_1 : decode cX6_whyNoLoan 1 = .ok (.iload_n 2, 1) := by decide +kernel
theorem dX6_whyNoLoan_2 : decode cX6_whyNoLoan 2 = .ok (.if_icmp .ne 5, 3) := by decide +kernel
theorem dX6_whyNoLoan_5 : decode cX6_whyNoLoan 5 = .ok (.iconst 1, 1) := by decide +kernel
theorem dX6_whyNoLoan_6 : decode cX6_whyNoLoan 6 = .ok (.ireturn, 1) := by decide +kernel
theorem dX6_whyNoLoan_7 : decode cX6_whyNoLoan 7 = .ok (.aload_n 0, 1) := by decide +kernel
theorem dX6_whyNoLoan_8 : decode cX6_whyNoLoan 8 = .ok (.iload_n 1, 1) := by decide +kernel
theorem dX6_whyNoLoan_9 : decode cX6_whyNoLoan 9 = .ok (.iconst 4, 1) := by decide +kernel
theorem dX6_whyNoLoan_10 : decode cX6_whyNoLoan 10 = .ok (.invokevirtual 27, 3) := by decide +kernel
theorem dX6_whyNoLoan_13 : decode cX6_whyNoLoan 13 = .ok (.iload_n 1, 1) := by decide +kernel
theorem dX6_whyNoLoan_14 : decode cX6_whyNoLoan 14 = .ok (.if_icmp .eq 5, 3) := by decide +kernel
theorem dX6_whyNoLoan_17 : decode cX6_whyNoLoan 17 = .ok (.iconst 2, 1) := by decide +kernel
theorem dX6_whyNoLoan_18 : decode cX6_whyNoLoan 18 = .ok (.ireturn, 1) := by decide +kernel
theorem dX6_whyNoLoan_19 : decode cX6_whyNoLoan 19 = .ok (.aload_n 0, 1) := by decide +kernel
theorem dX6_whyNoLoan_20 : decode cX6_whyNoLoan 20 = .ok (.iload_n 2, 1) := by decide +kernel
theorem dX6_whyNoLoan_21 : decode cX6_whyNoLoan 21 = .ok (.invokevirtual 31, 3) := by decide +kernel
theorem dX6_whyNoLoan_24 : decode cX6_whyNoLoan 24 = .ok (.ifCond .ne 14, 3) := by decide +kernel
theorem dX6_whyNoLoan_27 : decode cX6_whyNoLoan 27 = .ok (.aload_n 0, 1) := by decide +kernel
theorem dX6_whyNoLoan_28 : decode cX6_whyNoLoan 28 = .ok (.iload_n 2, 1) := by decide +kernel
theorem dX6_whyNoLoan_29 : decode cX6_whyNoLoan 29 = .ok (.bipush 6, 2) := by decide +kernel
theorem dX6_whyNoLoan_31 : decode cX6_whyNoLoan 31 = .ok (.invokevirtual 27, 3) := by decide +kernel
theorem dX6_whyNoLoan_34 : decode cX6_whyNoLoan 34 = .ok (.iconst 1, 1) := by decide +kernel
theorem dX6_whyNoLoan_35 : decode cX6_whyNoLoan 35 = .ok (.if_icmp .ne 7, 3) := by decide +kernel
theorem dX6_whyNoLoan_38 : decode cX6_whyNoLoan 38 = .ok (.iconst 3, 1) := by decide +kernel
theorem dX6_whyNoLoan_39 : decode cX6_whyNoLoan 39 = .ok (.goto 4, 3) := by decide +kernel
theorem dX6_whyNoLoan_42 : decode cX6_whyNoLoan 42 = .ok (.iconst 0, 1) := by decide +kernel
theorem dX6_whyNoLoan_43 : decode cX6_whyNoLoan 43 = .ok (.ireturn, 1) := by decide +kernel
set_option maxRecDepth 20000 in
theorem ggX6_lends_X6_lay : GoodIn wsX6_lends wsX6_lay := goodIn_r _ [5, 6, 11, 12, 13, 14, 15, 16, 17, 18, 19, 20, 21, 22] (by decide +kernel) (by decide +kernel)
set_option maxRecDepth 20000 in
theorem gX6_lends_X6_lay : GoodIn wsX6_lends (wsV RX6 35 RX6 yX6_lay wsX6_lay) := goodIn_app (goodIn_of _ (by decide +kernel)) ggX6_lends_X6_lay
set_option maxRecDepth 20000 in
theorem ggX6_lends_X6_of : GoodIn wsX6_lends wsX6_of := goodIn_r _ [10, 6, 11, 12, 13, 14, 15, 16, 17, 18, 19, 20, 21, 22] (by decide +kernel) (by decide +kernel)
set_option maxRecDepth 20000 in
theorem gX6_lends_X6_of : GoodIn wsX6_lends (wsV RX6 27 RX6 yX6_of wsX6_of) := goodIn_app (goodIn_of _ (by decide +kernel)) ggX6_lends_X6_of
theorem dX6_lends_0 : decode cX6_lends 0 = .ok (.aload_n 0, 1) := by decide +kernel
theorem dX6_lends_1 : decode cX6_lends 1 = .ok (.iload_n 1, 1) := by decide +kernel
theorem dX6_lends_2 : decode cX6_lends 2 = .ok (.iconst 4, 1) := by decide +kernel
theorem dX6_lends_3 : decode cX6_lends 3 = .ok (.iconst (-1), 1) := by decide +kernel
theorem dX6_lends_4 : decode cX6_lends 4 = .ok (.invokevirtual 35, 3) := by decide +kernel
theorem dX6_lends_7 : decode cX6_lends 7 = .ok (.aload_n 0, 1) := by decide +kernel
theorem dX6_lends_8 : decode cX6_lends 8 = .ok (.iload_n 2, 1) := by decide +kernel
theorem dX6_lends_9 : decode cX6_lends 9 = .ok (.iconst 4, 1) := by decide +kernel
theorem dX6_lends_10 : decode cX6_lends 10 = .ok (.iload_n 1, 1) := by decide +kernel
theorem dX6_lends_11 : decode cX6_lends 11 = .ok (.invokevirtual 35, 3) := by decide +kernel
theorem dX6_lends_14 : decode cX6_lends 14 = .ok (.aload_n 0, 1) := by decide +kernel
theorem dX6_lends_15 : decode cX6_lends 15 = .ok (.iload_n 1, 1) := by decide +kernel
theorem dX6_lends_16 : decode cX6_lends 16 = .ok (.iconst 3, 1) := by decide +kernel
theorem dX6_lends_17 : decode cX6_lends 17 = .ok (.invokevirtual 27, 3) := by decide +kernel
theorem dX6_lends_20 : decode cX6_lends 20 = .ok (.ireturn, 1) := by decide +kernel
set_option maxRecDepth 20000 in
theorem ggX6_canGiveBack_X6_isBorrowed : GoodIn wsX6_canGiveBack wsX6_isBorrowed := goodIn_r _ [5, 6, 7, 8, 4, 9, 10, 11, 12, 13, 14, 15, 16, 17, 18, 19, 20, 21, 22] (by decide +kernel) (by decide +kernel)
set_option maxRecDepth 20000 in
theorem gX6_canGiveBack_X6_isBorrowed : GoodIn wsX6_canGiveBack (wsV RX6 31 RX6 yX6_isBorrowed wsX6_isBorrowed) := goodIn_app (goodIn_of _ (by decide +kernel)) ggX6_canGiveBack_X6_isBorrowed
set_option maxRecDepth 20000 in
theorem ggX6_canGiveBack_X6_of : GoodIn wsX6_canGiveBack wsX6_of := goodIn_r _ [9, 10, 11, 12, 13, 14, 15, 16, 17, 18, 19, 20, 21, 22] (by decide +kernel) (by decide +kernel)
set_option maxRecDepth 20000 in
theorem gX6_canGiveBack_X6_of : GoodIn wsX6_canGiveBack (wsV RX6 27 RX6 yX6_of wsX6_of) := goodIn_app (goodIn_of _ (by decide +kernel)) ggX6_canGiveBack_X6_of
theorem dX6_canGiveBack_0 : decode cX6_canGiveBack 0 = .ok (.aload_n 0, 1) := by decide +kernel
theorem dX6_canGiveBack_1 : decode cX6_canGiveBack 1 = .ok (.iload_n 1, 1) := by decide +kernel
theorem dX6_canGiveBack_2 : decode cX6_canGiveBack 2 = .ok (.invokevirtual 31, 3) := by decide +kernel
theorem dX6_canGiveBack_5 : decode cX6_canGiveBack 5 = .ok (.ifCond .eq 32, 3) := by decide +kernel
theorem dX6_canGiveBack_8 : decode cX6_canGiveBack 8 = .ok (.aload_n 0, 1) := by decide +kernel
theorem dX6_canGiveBack_9 : decode cX6_canGiveBack 9 = .ok (.iload_n 1, 1) := by decide +kernel
theorem dX6_canGiveBack_10 : decode cX6_canGiveBack 10 = .ok (.bipush 6, 2) := by decide +kernel
theorem dX6_canGiveBack_12 : decode cX6_canGiveBack 12 = .ok (.invokevirtual 27, 3) := by decide +kernel
theorem dX6_canGiveBack_15 : decode cX6_canGiveBack 15 = .ok (.ifCond .ne 22, 3) := by decide +kernel
theorem dX6_canGiveBack_18 : decode cX6_canGiveBack 18 = .ok (.aload_n 0, 1) := by decide +kernel
theorem dX6_canGiveBack_19 : decode cX6_canGiveBack 19 = .ok (.aload_n 0, 1) := by decide +kernel
theorem dX6_canGiveBack_20 : decode cX6_canGiveBack 20 = .ok (.iload_n 1, 1) := by decide +kernel
theorem dX6_canGiveBack_21 : decode cX6_canGiveBack 21 = .ok (.iconst 4, 1) := by decide +kernel
theorem dX6_canGiveBack_22 : decode cX6_canGiveBack 22 = .ok (.invokevirtual 27, 3) := by decide +kernel
theorem dX6_canGiveBack_25 : decode cX6_canGiveBack 25 = .ok (.bipush 6, 2) := by decide +kernel
theorem dX6_canGiveBack_27 : decode cX6_canGiveBack 27 = .ok (.invokevirtual 27, 3) := by decide +kernel
theorem dX6_canGiveBack_30 : decode cX6_canGiveBack 30 = .ok (.ifCond .ne 7, 3) := by decide +kernel
theorem dX6_canGiveBack_33 : decode cX6_canGiveBack 33 = .ok (.iconst 1, 1) := by decide +kernel
theorem dX6_canGiveBack_34 : decode cX6_canGiveBack 34 = .ok (.goto 4, 3) := by decide +kernel
theorem dX6_canGiveBack_37 : decode cX6_canGiveBack 37 = .ok (.iconst 0, 1) := by decide +kernel
theorem dX6_canGiveBack_38 : decode cX6_canGiveBack 38 = .ok (.ireturn, 1) := by decide +kernel
theorem dX6_lineLength_0 : decode cX6_lineLength 0 = .ok (.aload_n 0, 1) := by decide +kernel
theorem dX6_lineLength_1 : decode cX6_lineLength 1 = .ok (.getfield 7, 3) := by decide +kernel
theorem dX6_lineLength_4 : decode cX6_lineLength 4 = .ok (.bipush 86, 2) := by decide +kernel
theorem dX6_lineLength_6 : decode cX6_lineLength 6 = .ok (.bipush 11, 2) := by decide +kernel
theorem dX6_lineLength_8 : decode cX6_lineLength 8 = .ok (.iload_n 1, 1) := by decide +kernel
theorem dX6_lineLength_9 : decode cX6_lineLength 9 = .ok (.imul, 1) := by decide +kernel
theorem dX6_lineLength_10 : decode cX6_lineLength 10 = .ok (.iadd, 1) := by decide +kernel
theorem dX6_lineLength_11 : decode cX6_lineLength 11 = .ok (.iaload, 1) := by decide +kernel
theorem dX6_lineLength_12 : decode cX6_lineLength 12 = .ok (.ireturn, 1) := by decide +kernel
theorem dX6_inLine_0 : decode cX6_inLine 0 = .ok (.aload_n 0, 1) := by decide +kernel
theorem dX6_inLine_1 : decode cX6_inLine 1 = .ok (.getfield 7, 3) := by decide +kernel
theorem dX6_inLine_4 : decode cX6_inLine 4 = .ok (.bipush 86, 2) := by decide +kernel
theorem dX6_inLine_6 : decode cX6_inLine 6 = .ok (.bipush 11, 2) := by decide +kernel
theorem dX6_inLine_8 : decode cX6_inLine 8 = .ok (.iload_n 1, 1) := by decide +kernel
theorem dX6_inLine_9 : decode cX6_inLine 9 = .ok (.imul, 1) := by decide +kernel
theorem dX6_inLine_10 : decode cX6_inLine 10 = .ok (.iadd, 1) := by decide +kernel
theorem dX6_inLine_11 : decode cX6_inLine 11 = .ok (.iconst 1, 1) := by decide +kernel
theorem dX6_inLine_12 : decode cX6_inLine 12 = .ok (.iadd, 1) := by decide +kernel
theorem dX6_inLine_13 : decode cX6_inLine 13 = .ok (.iload_n 2, 1) := by decide +kernel
theorem dX6_inLine_14 : decode cX6_inLine 14 = .ok (.iadd, 1) := by decide +kernel
theorem dX6_inLine_15 : decode cX6_inLine 15 = .ok (.iaload, 1) := by decide +kernel
theorem dX6_inLine_16 : decode cX6_inLine 16 = .ok (.ireturn, 1) := by decide +kernel
set_option maxRecDepth 20000 in
theorem ggX6_standing_X6_lineLength : GoodIn wsX6_standing wsX6_lineLength := goodIn_r _ [5, 6, 11, 12, 13, 14, 15, 16, 17, 18, 19, 20, 21, 22] (by decide +kernel) (by decide +kernel)
set_option maxRecDepth 20000 in
theorem gX6_standing_X6_lineLength : GoodIn wsX6_standing (wsV RX6 39 RX6 yX6_lineLength wsX6_lineLength) := goodIn_app (goodIn_of _ (by decide +kernel)) ggX6_standing_X6_lineLength
set_option maxRecDepth 20000 in
theorem ggX6_standing_X6_inLine : GoodIn wsX6_standing wsX6_inLine := goodIn_r _ [10, 6, 11, 12, 13, 14, 15, 16, 17, 18, 19, 20, 21, 22] (by decide +kernel) (by decide +kernel)
set_option maxRecDepth 20000 in
theorem gX6_standing_X6_inLine : GoodIn wsX6_standing (wsV RX6 43 RX6 yX6_inLine wsX6_inLine) := goodIn_app (goodIn_of _ (by decide +kernel)) ggX6_standing_X6_inLine
theorem dX6_standing_0 : decode cX6_standing 0 = .ok (.iconst 0, 1) := by decide +kernel
theorem dX6_standing_1 : decode cX6_standing 1 = .ok (.istore_n 2, 1) := by decide +kernel
theorem dX6_standing_2 : decode cX6_standing 2 = .ok (.iload_n 2, 1) := by decide +kernel
theorem dX6_standing_3 : decode cX6_standing 3 = .ok (.iconst 3, 1) := by decide +kernel
theorem dX6_standing_4 : decode cX6_standing 4 = .ok (.if_icmp .ge 43, 3) := by decide +kernel
theorem dX6_standing_7 : decode cX6_standing 7 = .ok (.iconst 0, 1) := by decide +kernel
theorem dX6_standing_8 : decode cX6_standing 8 = .ok (.istore_n 3, 1) := by decide +kernel
theorem dX6_standing_9 : decode cX6_standing 9 = .ok (.iload_n 3, 1) := by decide +kernel
theorem dX6_standing_10 : decode cX6_standing 10 = .ok (.aload_n 0, 1) := by decide +kernel
theorem dX6_standing_11 : decode cX6_standing 11 = .ok (.iload_n 2, 1) := by decide +kernel
theorem dX6_standing_12 : decode cX6_standing 12 = .ok (.invokevirtual 39, 3) := by decide +kernel
theorem dX6_standing_15 : decode cX6_standing 15 = .ok (.if_icmp .ge 26, 3) := by decide +kernel
theorem dX6_standing_18 : decode cX6_standing 18 = .ok (.aload_n 0, 1) := by decide +kernel
theorem dX6_standing_19 : decode cX6_standing 19 = .ok (.iload_n 2, 1) := by decide +kernel
theorem dX6_standing_20 : decode cX6_standing 20 = .ok (.iload_n 3, 1) := by decide +kernel
theorem dX6_standing_21 : decode cX6_standing 21 = .ok (.invokevirtual 43, 3) := by decide +kernel
theorem dX6_standing_24 : decode cX6_standing 24 = .ok (.iload_n 1, 1) := by decide +kernel
theorem dX6_standing_25 : decode cX6_standing 25 = .ok (.if_icmp .ne 10, 3) := by decide +kernel
theorem dX6_standing_28 : decode cX6_standing 28 = .ok (.bipush 16, 2) := by decide +kernel
theorem dX6_standing_30 : decode cX6_standing 30 = .ok (.iload_n 2, 1) := by decide +kernel
theorem dX6_standing_31 : decode cX6_standing 31 = .ok (.imul, 1) := by decide +kernel
theorem dX6_standing_32 : decode cX6_standing 32 = .ok (.iload_n 3, 1) := by decide +kernel
theorem dX6_standing_33 : decode cX6_standing 33 = .ok (.iadd, 1) := by decide +kernel
theorem dX6_standing_34 : decode cX6_standing 34 = .ok (.ireturn, 1) := by decide +kernel
theorem dX6_standing_35 : decode cX6_standing 35 = .ok (.iinc 3 1, 3) := by decide +kernel
theorem dX6_standing_38 : decode cX6_standing 38 = .ok (.goto (-29), 3) := by decide +kernel
theorem dX6_standing_41 : decode cX6_standing 41 = .ok (.iinc 2 1, 3) := by decide +kernel
theorem dX6_standing_44 : decode cX6_standing 44 = .ok (.goto (-42), 3) := by decide +kernel
theorem dX6_standing_47 : decode cX6_standing 47 = .ok (.iconst (-1), 1) := by decide +kernel
theorem dX6_standing_48 : decode cX6_standing 48 = .ok (.ireturn, 1) := by decide +kernel
set_option maxRecDepth 20000 in
theorem ggX6_whyNoLine_X6_of : GoodIn wsX6_whyNoLine wsX6_of := goodIn_r _ [6, 1, 19, 20, 21, 22, 23, 24, 25, 26, 27, 28, 29, 30] (by decide +kernel) (by decide +kernel)
set_option maxRecDepth 20000 in
theorem gX6_whyNoLine_X6_of : GoodIn wsX6_whyNoLine (wsV RX6 27 RX6 yX6_of wsX6_of) := goodIn_app (goodIn_of _ (by decide +kernel)) ggX6_whyNoLine_X6_of
set_option maxRecDepth 20000 in
theorem ggX6_whyNoLine_X6_standing : GoodIn wsX6_whyNoLine wsX6_standing := goodIn_r _ [10, 11, 12, 13, 5, 14, 1, 15, 16, 17, 18, 19, 20, 21, 22, 23, 24, 25, 26, 27, 28, 29, 30] (by decide +kernel) (by decide +kernel)
set_option maxRecDepth 20000 in
theorem gX6_whyNoLine_X6_standing : GoodIn wsX6_whyNoLine (wsV RX6 46 RX6 yX6_standing wsX6_standing) := goodIn_app (goodIn_of _ (by decide +kernel)) ggX6_whyNoLine_X6_standing
theorem dX6_whyNoLine_0 : decode cX6_whyNoLine 0 = .ok (.aload_n 0, 1) := by decide +kernel
theorem dX6_whyNoLine_1 : decode cX6_whyNoLine 1 = .ok (.iload_n 1, 1) := by decide +kernel
theorem dX6_whyNoLine_2 : decode cX6_whyNoLine 2 = .ok (.bipush 6, 2) := by decide +kernel
theorem dX6_whyNoLine_4 : decode cX6_whyNoLine 4 = .ok (.invokevirtual 27, 3) := by decide +kernel
theorem dX6_whyNoLine_7 : decode cX6_whyNoLine 7 = .ok (.iconst 1, 1) := by decide +kernel
theorem dX6_whyNoLine_8 : decode cX6_whyNoLine 8 = .ok (.if_icmp .ne 5, 3) := by decide +kernel
theorem dX6_whyNoLine_11 : decode cX6_whyNoLine 11 = .ok (.iconst 5, 1) := by decide +kernel
theorem dX6_whyNoLine_12 : decode cX6_whyNoLine 12 = .ok (.ireturn, 1) := by decide +kernel
theorem dX6_whyNoLine_13 : decode cX6_whyNoLine 13 = .ok (.aload_n 0, 1) := by decide +kernel
theorem dX6_whyNoLine_14 : decode cX6_whyNoLine 14 = .ok (.iload_n 1, 1) := by decide +kernel
theorem dX6_whyNoLine_15 : decode cX6_whyNoLine 15 = .ok (.invokevirtual 46, 3) := by decide +kernel
theorem dX6_whyNoLine_18 : decode cX6_whyNoLine 18 = .ok (.iconst (-1), 1) := by decide +kernel
theorem dX6_whyNoLine_19 : decode cX6_whyNoLine 19 = .ok (.if_icmp .eq 8, 3) := by decide +kernel
theorem dX6_whyNoLine_22 : decode cX6_whyNoLine 22 = .ok (.bipush 6, 2) := by decide +kernel
theorem dX6_whyNoLine_24 : decode cX6_whyNoLine 24 = .ok (.goto 25, 3) := by decide +kernel
theorem dX6_whyNoLine_27 : decode cX6_whyNoLine 27 = .ok (.aload_n 0, 1) := by decide +kernel
theorem dX6_whyNoLine_28 : decode cX6_whyNoLine 28 = .ok (.iload_n 1, 1) := by decide +kernel
theorem dX6_whyNoLine_29 : decode cX6_whyNoLine 29 = .ok (.iconst 2, 1) := by decide +kernel
theorem dX6_whyNoLine_30 : decode cX6_whyNoLine 30 = .ok (.invokevirtual 27, 3) := by decide +kernel
theorem dX6_whyNoLine_33 : decode cX6_whyNoLine 33 = .ok (.aload_n 0, 1) := by decide +kernel
theorem dX6_whyNoLine_34 : decode cX6_whyNoLine 34 = .ok (.getfield 7, 3) := by decide +kernel
theorem dX6_whyNoLine_37 : decode cX6_whyNoLine 37 = .ok (.bipush 15, 2) := by decide +kernel
theorem dX6_whyNoLine_39 : decode cX6_whyNoLine 39 = .ok (.iaload, 1) := by decide +kernel
theorem dX6_whyNoLine_40 : decode cX6_whyNoLine 40 = .ok (.if_icmp .le 8, 3) := by decide +kernel
theorem dX6_whyNoLine_43 : decode cX6_whyNoLine 43 = .ok (.bipush 7, 2) := by decide +kernel
theorem dX6_whyNoLine_45 : decode cX6_whyNoLine 45 = .ok (.goto 4, 3) := by decide +kernel
theorem dX6_whyNoLine_48 : decode cX6_whyNoLine 48 = .ok (.iconst 0, 1) := by decide +kernel
theorem dX6_whyNoLine_49 : decode cX6_whyNoLine 49 = .ok (.ireturn, 1) := by decide +kernel
theorem dX6_queues_0 : decode cX6_queues 0 = .ok (.bipush 86, 2) := by decide +kernel
theorem dX6_queues_2 : decode cX6_queues 2 = .ok (.bipush 11, 2) := by decide +kernel
theorem dX6_queues_4 : decode cX6_queues 4 = .ok (.iload_n 2, 1) := by decide +kernel
theorem dX6_queues_5 : decode cX6_queues 5 = .ok (.imul, 1) := by decide +kernel
theorem dX6_queues_6 : decode cX6_queues 6 = .ok (.iadd, 1) := by decide +kernel
theorem dX6_queues_7 : decode cX6_queues 7 = .ok (.istore_n 3, 1) := by decide +kernel
theorem dX6_queues_8 : decode cX6_queues 8 = .ok (.aload_n 0, 1) := by decide +kernel
theorem dX6_queues_9 : decode cX6_queues 9 = .ok (.getfield 7, 3) := by decide +kernel
theorem dX6_queues_12 : decode cX6_queues 12 = .ok (.iload_n 3, 1) := by decide +kernel
theorem dX6_queues_13 : decode cX6_queues 13 = .ok (.dup2, 1) := by decide +kernel
theorem dX6_queues_14 : decode cX6_queues 14 = .ok (.iaload, 1) := by decide +kernel
theorem dX6_queues_15 : decode cX6_queues 15 = .ok (.iconst 1, 1) := by decide +kernel
theorem dX6_queues_16 : decode cX6_queues 16 = .ok (.iadd, 1) := by decide +kernel
theorem dX6_queues_17 : decode cX6_queues 17 = .ok (.iastore, 1) := by decide +kernel
theorem dX6_queues_18 : decode cX6_queues 18 = .ok (.aload_n 0, 1) := by decide +kernel
theorem dX6_queues_19 : decode cX6_queues 19 = .ok (.getfield 7, 3) := by decide +kernel
theorem dX6_queues_22 : decode cX6_queues 22 = .ok (.iload_n 3, 1) := by decide +kernel
theorem dX6_queues_23 : decode cX6_queues 23 = .ok (.aload_n 0, 1) := by decide +kernel
theorem dX6_queues_24 : decode cX6_queues 24 = .ok (.getfield 7, 3) := by decide +kernel
theorem dX6_queues_27 : decode cX6_queues 27 = .ok (.iload_n 3, 1) := by decide +kernel
theorem dX6_queues_28 : decode cX6_queues 28 = .ok (.iaload, 1) := by decide +kernel
theorem dX6_queues_29 : decode cX6_queues 29 = .ok (.iadd, 1) := by decide +kernel
theorem dX6_queues_30 : decode cX6_queues 30 = .ok (.iload_n 1, 1) := by decide +kernel
theorem dX6_queues_31 : decode cX6_queues 31 = .ok (.iastore, 1) := by decide +kernel
theorem dX6_queues_32 : decode cX6_queues 32 = .ok (.aload_n 0, 1) := by decide +kernel
theorem dX6_queues_33 : decode cX6_queues 33 = .ok (.getfield 7, 3) := by decide +kernel
theorem dX6_queues_36 : decode cX6_queues 36 = .ok (.iload_n 3, 1) := by decide +kernel
theorem dX6_queues_37 : decode cX6_queues 37 = .ok (.iaload, 1) := by decide +kernel
theorem dX6_queues_38 : decode cX6_queues 38 = .ok (.iconst 1, 1) := by decide +kernel
theorem dX6_queues_39 : decode cX6_queues 39 = .ok (.isub, 1) := by decide +kernel
theorem dX6_queues_40 : decode cX6_queues 40 = .ok (.ireturn, 1) := by decide +kernel
set_option maxRecDepth 20000 in
theorem ggX6_whyNoMask_X6_of : GoodIn wsX6_whyNoMask wsX6_of := goodIn_r _ [5, 6, 7, 8, 9, 10, 11, 12, 13, 14, 15, 16, 17, 18] (by decide +kernel) (by decide +kernel)
set_option maxRecDepth 20000 in
theorem gX6_whyNoMask_X6_of : GoodIn wsX6_whyNoMask (wsV RX6 27 RX6 yX6_of wsX6_of) := goodIn_app (goodIn_of _ (by decide +kernel)) ggX6_whyNoMask_X6_of
theorem dX6_whyNoMask_0 : decode cX6_whyNoMask 0 = .ok (.aload_n 0, 1) := by decide +kernel
theorem dX6_whyNoMask_1 : decode cX6_whyNoMask 1 = .ok (.iload_n 1, 1) := by decide +kernel
theorem dX6_whyNoMask_2 : decode cX6_whyNoMask 2 = .ok (.iconst 5, 1) := by decide +kernel
theorem dX6_whyNoMask_3 : decode cX6_whyNoMask 3 = .ok (.invokevirtual 27, 3) := by decide +kernel
theorem dX6_whyNoMask_6 : decode cX6_whyNoMask 6 = .ok (.ifCond .le 8, 3) := by decide +kernel
theorem dX6_whyNoMask_9 : decode cX6_whyNoMask 9 = .ok (.bipush 8, 2) := by decide +kernel
theorem dX6_whyNoMask_11 : decode cX6_whyNoMask 11 = .ok (.goto 19, 3) := by decide +kernel
theorem dX6_whyNoMask_14 : decode cX6_whyNoMask 14 = .ok (.aload_n 0, 1) := by decide +kernel
theorem dX6_whyNoMask_15 : decode cX6_whyNoMask 15 = .ok (.iload_n 1, 1) := by decide +kernel
theorem dX6_whyNoMask_16 : decode cX6_whyNoMask 16 = .ok (.iconst 1, 1) := by decide +kernel
theorem dX6_whyNoMask_17 : decode cX6_whyNoMask 17 = .ok (.invokevirtual 27, 3) := by decide +kernel
theorem dX6_whyNoMask_20 : decode cX6_whyNoMask 20 = .ok (.iconst 3, 1) := by decide +kernel
theorem dX6_whyNoMask_21 : decode cX6_whyNoMask 21 = .ok (.if_icmp .ge 8, 3) := by decide +kernel
theorem dX6_whyNoMask_24 : decode cX6_whyNoMask 24 = .ok (.bipush 9, 2) := by decide +kernel
theorem dX6_whyNoMask_26 : decode cX6_whyNoMask 26 = .ok (.goto 4, 3) := by decide +kernel
theorem dX6_whyNoMask_29 : decode cX6_whyNoMask 29 = .ok (.iconst 0, 1) := by decide +kernel
theorem dX6_whyNoMask_30 : decode cX6_whyNoMask 30 = .ok (.ireturn, 1) := by decide +kernel
set_option maxRecDepth 20000 in
theorem ggX6_paysToChest_X6_of : GoodIn wsX6_paysToChest wsX6_of := goodIn_r _ [6, 1, 11, 12, 13, 14, 15, 16, 17, 18, 19, 20, 21, 22] (by decide +kernel) (by decide +kernel)
set_option maxRecDepth 20000 in
theorem gX6_paysToChest_X6_of : GoodIn wsX6_paysToChest (wsV RX6 27 RX6 yX6_of wsX6_of) := goodIn_app (goodIn_of _ (by decide +kernel)) ggX6_paysToChest_X6_of
set_option maxRecDepth 20000 in
theorem ggX6_paysToChest_X6_lay : GoodIn wsX6_paysToChest wsX6_lay := goodIn_r _ [10, 1, 11, 12, 13, 14, 15, 16, 17, 18, 19, 20, 21, 22] (by decide +kernel) (by decide +kernel)
set_option maxRecDepth 20000 in
theorem gX6_paysToChest_X6_lay : GoodIn wsX6_paysToChest (wsV RX6 35 RX6 yX6_lay wsX6_lay) := goodIn_app (goodIn_of _ (by decide +kernel)) ggX6_paysToChest_X6_lay
theorem dX6_paysToChest_0 : decode cX6_paysToChest 0 = .ok (.aload_n 0, 1) := by decide +kernel
theorem dX6_paysToChest_1 : decode cX6_paysToChest 1 = .ok (.iload_n 1, 1) := by decide +kernel
theorem dX6_paysToChest_2 : decode cX6_paysToChest 2 = .ok (.iconst 1, 1) := by decide +kernel
theorem dX6_paysToChest_3 : decode cX6_paysToChest 3 = .ok (.aload_n 0, 1) := by decide +kernel
theorem dX6_paysToChest_4 : decode cX6_paysToChest 4 = .ok (.iload_n 1, 1) := by decide +kernel
theorem dX6_paysToChest_5 : decode cX6_paysToChest 5 = .ok (.iconst 1, 1) := by decide +kernel
theorem dX6_paysToChest_6 : decode cX6_paysToChest 6 = .ok (.invokevirtual 27, 3) := by decide +kernel
theorem dX6_paysToChest_9 : decode cX6_paysToChest 9 = .ok (.iload_n 2, 1) := by decide +kernel
theorem dX6_paysToChest_10 : decode cX6_paysToChest 10 = .ok (.isub, 1) := by decide +kernel
theorem dX6_paysToChest_11 : decode cX6_paysToChest 11 = .ok (.invokevirtual 35, 3) := by decide +kernel
theorem dX6_paysToChest_14 : decode cX6_paysToChest 14 = .ok (.aload_n 0, 1) := by decide +kernel
theorem dX6_paysToChest_15 : decode cX6_paysToChest 15 = .ok (.getfield 7, 3) := by decide +kernel
theorem dX6_paysToChest_18 : decode cX6_paysToChest 18 = .ok (.iconst 2, 1) := by decide +kernel
theorem dX6_paysToChest_19 : decode cX6_paysToChest 19 = .ok (.dup2, 1) := by decide +kernel
theorem dX6_paysToChest_20 : decode cX6_paysToChest 20 = .ok (.iaload, 1) := by decide +kernel
theorem dX6_paysToChest_21 : decode cX6_paysToChest 21 = .ok (.iload_n 2, 1) := by decide +kernel
theorem dX6_paysToChest_22 : decode cX6_paysToChest 22 = .ok (.iadd, 1) := by decide +kernel
theorem dX6_paysToChest_23 : decode cX6_paysToChest 23 = .ok (.iastore, 1) := by decide +kernel
theorem dX6_paysToChest_24 : decode cX6_paysToChest 24 = .ok (.return_, 1) := by decide +kernel
set_option maxRecDepth 20000 in
theorem ggX6_masks_X6_paysToChest : GoodIn wsX6_masks wsX6_paysToChest := goodIn_r _ [6, 1, 7, 8, 9, 5, 10, 11, 12, 13, 14, 15, 16, 17, 18, 19, 20, 21, 22, 23, 24, 25, 26] (by decide +kernel) (by decide +kernel)
set_option maxRecDepth 20000 in
theorem gX6_masks_X6_paysToChest : GoodIn wsX6_masks (wsV RX6 49 RX6 yX6_paysToChest wsX6_paysToChest) := goodIn_app (goodIn_of _ (by decide +kernel)) ggX6_masks_X6_paysToChest
set_option maxRecDepth 20000 in
theorem ggX6_masks_X6_lay : GoodIn wsX6_masks wsX6_lay := goodIn_r _ [14, 1, 15, 16, 17, 18, 19, 20, 21, 22, 23, 24, 25, 26] (by decide +kernel) (by decide +kernel)
set_option maxRecDepth 20000 in
theorem gX6_masks_X6_lay : GoodIn wsX6_masks (wsV RX6 35 RX6 yX6_lay wsX6_lay) := goodIn_app (goodIn_of _ (by decide +kernel)) ggX6_masks_X6_lay
set_option maxRecDepth 20000 in
theorem ggX6_masks_X6_of : GoodIn wsX6_masks wsX6_of := goodIn_r _ [10, 1, 15, 16, 17, 18, 19, 20, 21, 22, 23, 24, 25, 26] (by decide +kernel) (by decide +kernel)
set_option maxRecDepth 20000 in
theorem gX6_masks_X6_of : GoodIn wsX6_masks (wsV RX6 27 RX6 yX6_of wsX6_of) := goodIn_app (goodIn_of _ (by decide +kernel)) ggX6_masks_X6_of
theorem dX6_masks_0 : decode cX6_masks 0 = .ok (.aload_n 0, 1) := by decide +kernel
theorem dX6_masks_1 : decode cX6_masks 1 = .ok (.iload_n 1, 1) := by decide +kernel
theorem dX6_masks_2 : decode cX6_masks 2 = .ok (.iconst 3, 1) := by decide +kernel
theorem dX6_masks_3 : decode cX6_masks 3 = .ok (.invokevirtual 49, 3) := by decide +kernel
theorem dX6_masks_6 : decode cX6_masks 6 = .ok (.aload_n 0, 1) := by decide +kernel
theorem dX6_masks_7 : decode cX6_masks 7 = .ok (.iload_n 1, 1) := by decide +kernel
theorem dX6_masks_8 : decode cX6_masks 8 = .ok (.iconst 5, 1) := by decide +kernel
theorem dX6_masks_9 : decode cX6_masks 9 = .ok (.aload_n 0, 1) := by decide +kernel
theorem dX6_masks_10 : decode cX6_masks 10 = .ok (.getfield 7, 3) := by decide +kernel
theorem dX6_masks_13 : decode cX6_masks 13 = .ok (.bipush 14, 2) := by decide +kernel
theorem dX6_masks_15 : decode cX6_masks 15 = .ok (.iaload, 1) := by decide +kernel
theorem dX6_masks_16 : decode cX6_masks 16 = .ok (.invokevirtual 35, 3) := by decide +kernel
theorem dX6_masks_19 : decode cX6_masks 19 = .ok (.aload_n 0, 1) := by decide +kernel
theorem dX6_masks_20 : decode cX6_masks 20 = .ok (.iload_n 1, 1) := by decide +kernel
theorem dX6_masks_21 : decode cX6_masks 21 = .ok (.iconst 1, 1) := by decide +kernel
theorem dX6_masks_22 : decode cX6_masks 22 = .ok (.invokevirtual 27, 3) := by decide +kernel
theorem dX6_masks_25 : decode cX6_masks 25 = .ok (.ireturn, 1) := by decide +kernel
set_option maxRecDepth 20000 in
theorem ggX6_pays_X6_of : GoodIn wsX6_pays wsX6_of := goodIn_r _ [5, 6, 18, 19, 20, 21, 22, 23, 24, 25, 26, 27, 28, 29] (by decide +kernel) (by decide +kernel)
set_option maxRecDepth 20000 in
theorem gX6_pays_X6_of : GoodIn wsX6_pays (wsV RX6 27 RX6 yX6_of wsX6_of) := goodIn_app (goodIn_of _ (by decide +kernel)) ggX6_pays_X6_of
set_option maxRecDepth 20000 in
theorem ggX6_pays_X6_lesser : GoodIn wsX6_pays wsX6_lesser := goodIn_r _ [9] (by decide +kernel) (by decide +kernel)
set_option maxRecDepth 20000 in
theorem gX6_pays_X6_lesser : GoodIn wsX6_pays (va_wsS RX6 53 yX6_lesser wsX6_lesser) := goodIn_app (goodIn_of _ (by decide +kernel)) ggX6_pays_X6_lesser
set_option maxRecDepth 20000 in
theorem ggX6_pays_X6_paysToChest : GoodIn wsX6_pays wsX6_paysToChest := goodIn_r _ [13, 6, 1, 2, 3, 4, 5, 14, 15, 16, 17, 18, 19, 20, 21, 22, 23, 24, 25, 26, 27, 28, 29] (by decide +kernel) (by decide +kernel)
set_option maxRecDepth 20000 in
theorem gX6_pays_X6_paysToChest : GoodIn wsX6_pays (wsV RX6 49 RX6 yX6_paysToChest wsX6_paysToChest) := goodIn_app (goodIn_of _ (by decide +kernel)) ggX6_pays_X6_paysToChest
set_option maxRecDepth 20000 in
theorem ggX6_pays_X6_lay : GoodIn wsX6_pays wsX6_lay := goodIn_r _ [17, 6, 18, 19, 20, 21, 22, 23, 24, 25, 26, 27, 28, 29] (by decide +kernel) (by decide +kernel)
set_option maxRecDepth 20000 in
theorem gX6_pays_X6_lay : GoodIn wsX6_pays (wsV RX6 35 RX6 yX6_lay wsX6_lay) := goodIn_app (goodIn_of _ (by decide +kernel)) ggX6_pays_X6_lay
theorem dX6_pays_0 : decode cX6_pays 0 = .ok (.aload_n 0, 1) := by decide +kernel
theorem dX6_pays_1 : decode cX6_pays 1 = .ok (.iload_n 1, 1) := by decide +kernel
theorem dX6_pays_2 : decode cX6_pays 2 = .ok (.iconst 1, 1) := by decide +kernel
theorem dX6_pays_3 : decode cX6_pays 3 = .ok (.invokevirtual 27, 3) := by decide +kernel
theorem dX6_pays_6 : decode cX6_pays 6 = .ok (.aload_n 0, 1) := by decide +kernel
theorem dX6_pays_7 : decode cX6_pays 7 = .ok (.iload_n 1, 1) := by decide +kernel
theorem dX6_pays_8 : decode cX6_pays 8 = .ok (.iconst 2, 1) := by decide +kernel
theorem dX6_pays_9 : decode cX6_pays 9 = .ok (.invokevirtual 27, 3) := by decide +kernel
theorem dX6_pays_12 : decode cX6_pays 12 = .ok (.invokestatic 53, 3) := by decide +kernel
theorem dX6_pays_15 : decode cX6_pays 15 = .ok (.istore_n 2, 1) := by decide +kernel
theorem dX6_pays_16 : decode cX6_pays 16 = .ok (.aload_n 0, 1) := by decide +kernel
theorem dX6_pays_17 : decode cX6_pays 17 = .ok (.iload_n 1, 1) := by decide +kernel
theorem dX6_pays_18 : decode cX6_pays 18 = .ok (.iload_n 2, 1) := by decide +kernel
theorem dX6_pays_19 : decode cX6_pays 19 = .ok (.invokevirtual 49, 3) := by decide +kernel
theorem dX6_pays_22 : decode cX6_pays 22 = .ok (.aload_n 0, 1) := by decide +kernel
theorem dX6_pays_23 : decode cX6_pays 23 = .ok (.iload_n 1, 1) := by decide +kernel
theorem dX6_pays_24 : decode cX6_pays 24 = .ok (.iconst 2, 1) := by decide +kernel
theorem dX6_pays_25 : decode cX6_pays 25 = .ok (.aload_n 0, 1) := by decide +kernel
theorem dX6_pays_26 : decode cX6_pays 26 = .ok (.iload_n 1, 1) := by decide +kernel
theorem dX6_pays_27 : decode cX6_pays 27 = .ok (.iconst 2, 1) := by decide +kernel
theorem dX6_pays_28 : decode cX6_pays 28 = .ok (.invokevirtual 27, 3) := by decide +kernel
theorem dX6_pays_31 : decode cX6_pays 31 = .ok (.iload_n 2, 1) := by decide +kernel
theorem dX6_pays_32 : decode cX6_pays 32 = .ok (.isub, 1) := by decide +kernel
theorem dX6_pays_33 : decode cX6_pays 33 = .ok (.invokevirtual 35, 3) := by decide +kernel
theorem dX6_pays_36 : decode cX6_pays 36 = .ok (.aload_n 0, 1) := by decide +kernel
theorem dX6_pays_37 : decode cX6_pays 37 = .ok (.iload_n 1, 1) := by decide +kernel
theorem dX6_pays_38 : decode cX6_pays 38 = .ok (.iconst 2, 1) := by decide +kernel
theorem dX6_pays_39 : decode cX6_pays 39 = .ok (.invokevirtual 27, 3) := by decide +kernel
theorem dX6_pays_42 : decode cX6_pays 42 = .ok (.ireturn, 1) := by decide +kernel
theorem dX6_allowed_0 : decode cX6_allowed 0 = .ok (.aload_n 0, 1) := by decide +kernel
theorem dX6_allowed_1 : decode cX6_allowed 1 = .ok (.getfield 7, 3) := by decide +kernel
theorem dX6_allowed_4 : decode cX6_allowed 4 = .ok (.bipush 10, 2) := by decide +kernel
theorem dX6_allowed_6 : decode cX6_allowed 6 = .ok (.iaload, 1) := by decide +kernel
theorem dX6_allowed_7 : decode cX6_allowed 7 = .ok (.aload_n 0, 1) := by decide +kernel
theorem dX6_allowed_8 : decode cX6_allowed 8 = .ok (.getfield 7, 3) := by decide +kernel
theorem dX6_allowed_11 : decode cX6_allowed 11 = .ok (.bipush 11, 2) := by decide +kernel
theorem dX6_allowed_13 : decode cX6_allowed 13 = .ok (.iaload, 1) := by decide +kernel
theorem dX6_allowed_14 : decode cX6_allowed 14 = .ok (.iload_n 2, 1) := by decide +kernel
theorem dX6_allowed_15 : decode cX6_allowed 15 = .ok (.imul, 1) := by decide +kernel
theorem dX6_allowed_16 : decode cX6_allowed 16 = .ok (.iadd, 1) := by decide +kernel
theorem dX6_allowed_17 : decode cX6_allowed 17 = .ok (.istore 4, 2) := by decide +kernel
theorem dX6_allowed_19 : decode cX6_allowed 19 = .ok (.iload_n 1, 1) := by decide +kernel
theorem dX6_allowed_20 : decode cX6_allowed 20 = .ok (.iconst 1, 1) := by decide +kernel
theorem dX6_allowed_21 : decode cX6_allowed 21 = .ok (.if_icmp .ne 18, 3) := by decide +kernel
theorem dX6_allowed_24 : decode cX6_allowed 24 = .ok (.iload 4, 2) := by decide +kernel
theorem dX6_allowed_26 : decode cX6_allowed 26 = .ok (.iconst 2, 1) := by decide +kernel
theorem dX6_allowed_27 : decode cX6_allowed 27 = .ok (.if_icmp .ge 7, 3) := by decide +kernel
theorem dX6_allowed_30 : decode cX6_allowed 30 = .ok (.iconst 0, 1) := by decide +kernel
theorem dX6_allowed_31 : decode cX6_allowed 31 = .ok (.goto 7, 3) := by decide +kernel
theorem dX6_allowed_34 : decode cX6_allowed 34 = .ok (.iload 4, 2) := by decide +kernel
theorem dX6_allowed_36 : decode cX6_allowed 36 = .ok (.iconst 2, 1) := by decide +kernel
theorem dX6_allowed_37 : decode cX6_allowed 37 = .ok (.isub, 1) := by decide +kernel
theorem dX6_allowed_38 : decode cX6_allowed 38 = .ok (.ireturn, 1) := by decide +kernel
theorem dX6_allowed_39 : decode cX6_allowed 39 = .ok (.iload_n 1, 1) := by decide +kernel
theorem dX6_allowed_40 : decode cX6_allowed 40 = .ok (.ifCond .ne 8, 3) := by decide +kernel
theorem dX6_allowed_43 : decode cX6_allowed 43 = .ok (.iload 4, 2) := by decide +kernel
theorem dX6_allowed_45 : decode cX6_allowed 45 = .ok (.goto 17, 3) := by decide +kernel
theorem dX6_allowed_48 : decode cX6_allowed 48 = .ok (.iload 4, 2) := by decide +kernel
theorem dX6_allowed_50 : decode cX6_allowed 50 = .ok (.iload_n 3, 1) := by decide +kernel
theorem dX6_allowed_51 : decode cX6_allowed 51 = .ok (.iconst 3, 1) := by decide +kernel
theorem dX6_allowed_52 : decode cX6_allowed 52 = .ok (.irem, 1) := by decide +kernel
theorem dX6_allowed_53 : decode cX6_allowed 53 = .ok (.aload_n 0, 1) := by decide +kernel
theorem dX6_allowed_54 : decode cX6_allowed 54 = .ok (.getfield 7, 3) := by decide +kernel
theorem dX6_allowed_57 : decode cX6_allowed 57 = .ok (.bipush 12, 2) := by decide +kernel
theorem dX6_allowed_59 : decode cX6_allowed 59 = .ok (.iaload, 1) := by decide +kernel
theorem dX6_allowed_60 : decode cX6_allowed 60 = .ok (.imul, 1) := by decide +kernel
theorem dX6_allowed_61 : decode cX6_allowed 61 = .ok (.iadd, 1) := by decide +kernel
theorem dX6_allowed_62 : decode cX6_allowed 62 = .ok (.ireturn, 1) := by decide +kernel
set_option maxRecDepth 20000 in
theorem ggX6_judges_X6_of : GoodIn wsX6_judges wsX6_of := goodIn_r _ [7, 1, 23, 24, 25, 26, 27, 28, 29, 30, 31, 32, 33, 34] (by decide +kernel) (by decide +kernel)
set_option maxRecDepth 20000 in
theorem gX6_judges_X6_of : GoodIn wsX6_judges (wsV RX6 27 RX6 yX6_of wsX6_of) := goodIn_app (goodIn_of _ (by decide +kernel)) ggX6_judges_X6_of
set_option maxRecDepth 20000 in
theorem ggX6_judges_X6_worn : GoodIn wsX6_judges wsX6_worn := goodIn_r _ [11, 3, 4, 5, 6, 7, 1, 23, 24, 25, 26, 27, 28, 29, 30, 31, 32, 33, 34] (by decide +kernel) (by decide +kernel)
set_option maxRecDepth 20000 in
theorem gX6_judges_X6_worn : GoodIn wsX6_judges (wsV RX6 56 RX6 yX6_worn wsX6_worn) := goodIn_app (goodIn_of _ (by decide +kernel)) ggX6_judges_X6_worn
set_option maxRecDepth 20000 in
theorem ggX6_judges_X6_allowed : GoodIn wsX6_judges wsX6_allowed := goodIn_r _ [15, 1, 23, 24, 25, 26, 27, 28, 29, 30, 31, 32, 33, 34] (by decide +kernel) (by decide +kernel)
set_option maxRecDepth 20000 in
theorem gX6_judges_X6_allowed : GoodIn wsX6_judges (wsV RX6 59 RX6 yX6_allowed wsX6_allowed) := goodIn_app (goodIn_of _ (by decide +kernel)) ggX6_judges_X6_allowed
set_option maxRecDepth 20000 in
theorem ggX6_judges_X6_lesser : GoodIn wsX6_judges wsX6_lesser := goodIn_r _ [18] (by decide +kernel) (by decide +kernel)
set_option maxRecDepth 20000 in
theorem gX6_judges_X6_lesser : GoodIn wsX6_judges (va_wsS RX6 53 yX6_lesser wsX6_lesser) := goodIn_app (goodIn_of _ (by decide +kernel)) ggX6_judges_X6_lesser
set_option maxRecDepth 20000 in
theorem ggX6_judges_X6_isBorrowed : GoodIn wsX6_judges wsX6_isBorrowed := goodIn_r _ [22, 3, 4, 5, 6, 7, 1, 23, 24, 25, 26, 27, 28, 29, 30, 31, 32, 33, 34] (by decide +kernel) (by decide +kernel)
set_option maxRecDepth 20000 in
theorem gX6_judges_X6_isBorrowed : GoodIn wsX6_judges (wsV RX6 31 RX6 yX6_isBorrowed wsX6_isBorrowed) := goodIn_app (goodIn_of _ (by decide +kernel)) ggX6_judges_X6_isBorrowed
theorem dX6_judges_0 : decode cX6_judges 0 = .ok (.aload_n 0, 1) := by decide +kernel
theorem dX6_judges_1 : decode cX6_judges 1 = .ok (.iload_n 1, 1) := by decide +kernel
theorem dX6_judges_2 : decode cX6_judges 2 = .ok (.iconst 1, 1) := by decide +kernel
theorem dX6_judges_3 : decode cX6_judges 3 = .ok (.invokevirtual 27, 3) := by decide +kernel
theorem dX6_judges_6 : decode cX6_judges 6 = .ok (.istore_n 3, 1) := by decide +kernel
theorem dX6_judges_7 : decode cX6_judges 7 = .ok (.aload_n 0, 1) := by decide +kernel
theorem dX6_judges_8 : decode cX6_judges 8 = .ok (.iload_n 1, 1) := by decide +kernel
theorem dX6_judges_9 : decode cX6_judges 9 = .ok (.iconst 4, 1) := by decide +kernel
theorem dX6_judges_10 : decode cX6_judges 10 = .ok (.invokevirtual 27, 3) := by decide +kernel
theorem dX6_judges_13 : decode cX6_judges 13 = .ok (.iconst (-1), 1) := by decide +kernel
theorem dX6_judges_14 : decode cX6_judges 14 = .ok (.if_icmp .eq 7, 3) := by decide +kernel
theorem dX6_judges_17 : decode cX6_judges 17 = .ok (.iconst 1, 1) := by decide +kernel
theorem dX6_judges_18 : decode cX6_judges 18 = .ok (.goto 4, 3) := by decide +kernel
theorem dX6_judges_21 : decode cX6_judges 21 = .ok (.iconst 0, 1) := by decide +kernel
theorem dX6_judges_22 : decode cX6_judges 22 = .ok (.istore 4, 2) := by decide +kernel
theorem dX6_judges_24 : decode cX6_judges 24 = .ok (.iload 4, 2) := by decide +kernel
theorem dX6_judges_26 : decode cX6_judges 26 = .ok (.ifCond .eq 20, 3) := by decide +kernel
theorem dX6_judges_29 : decode cX6_judges 29 = .ok (.aload_n 0, 1) := by decide +kernel
theorem dX6_judges_30 : decode cX6_judges 30 = .ok (.iload_n 1, 1) := by decide +kernel
theorem dX6_judges_31 : decode cX6_judges 31 = .ok (.iconst 5, 1) := by decide +kernel
theorem dX6_judges_32 : decode cX6_judges 32 = .ok (.invokevirtual 27, 3) := by decide +kernel
theorem dX6_judges_35 : decode cX6_judges 35 = .ok (.ifCond .le 11, 3) := by decide +kernel
theorem dX6_judges_38 : decode cX6_judges 38 = .ok (.iload_n 3, 1) := by decide +kernel
theorem dX6_judges_39 : decode cX6_judges 39 = .ok (.ifCond .le 7, 3) := by decide +kernel
theorem dX6_judges_42 : decode cX6_judges 42 = .ok (.iconst 1, 1) := by decide +kernel
theorem dX6_judges_43 : decode cX6_judges 43 = .ok (.goto 4, 3) := by decide +kernel
theorem dX6_judges_46 : decode cX6_judges 46 = .ok (.iconst 0, 1) := by decide +kernel
theorem dX6_judges_47 : decode cX6_judges 47 = .ok (.istore 5, 2) := by decide +kernel
theorem dX6_judges_49 : decode cX6_judges 49 = .ok (.aload_n 0, 1) := by decide +kernel
theorem dX6_judges_50 : decode cX6_judges 50 = .ok (.iload_n 1, 1) := by decide +kernel
theorem dX6_judges_51 : decode cX6_judges 51 = .ok (.invokevirtual 56, 3) := by decide +kernel
theorem dX6_judges_54 : decode cX6_judges 54 = .ok (.aload_n 0, 1) := by decide +kernel
theorem dX6_judges_55 : decode cX6_judges 55 = .ok (.iload_n 2, 1) := by decide +kernel
theorem dX6_judges_56 : decode cX6_judges 56 = .ok (.aload_n 0, 1) := by decide +kernel
theorem dX6_judges_57 : decode cX6_judges 57 = .ok (.iload_n 1, 1) := by decide +kernel
theorem dX6_judges_58 : decode cX6_judges 58 = .ok (.iconst 0, 1) := by decide +kernel
theorem dX6_judges_59 : decode cX6_judges 59 = .ok (.invokevirtual 27, 3) := by decide +kernel
theorem dX6_judges_62 : decode cX6_judges 62 = .ok (.aload_n 0, 1) := by decide +kernel
theorem dX6_judges_63 : decode cX6_judges 63 = .ok (.getfield 7, 3) := by decide +kernel
theorem dX6_judges_66 : decode cX6_judges 66 = .ok (.iconst 0, 1) := by decide +kernel
theorem dX6_judges_67 : decode cX6_judges 67 = .ok (.iaload, 1) := by decide +kernel
theorem dX6_judges_68 : decode cX6_judges 68 = .ok (.invokevirtual 59, 3) := by decide +kernel
theorem dX6_judges_71 : decode cX6_judges 71 = .ok (.isub, 1) := by decide +kernel
theorem dX6_judges_72 : decode cX6_judges 72 = .ok (.istore 6, 2) := by decide +kernel
theorem dX6_judges_74 : decode cX6_judges 74 = .ok (.iload 4, 2) := by decide +kernel
theorem dX6_judges_76 : decode cX6_judges 76 = .ok (.ifCond .eq 18, 3) := by decide +kernel
theorem dX6_judges_79 : decode cX6_judges 79 = .ok (.iload 5, 2) := by decide +kernel
theorem dX6_judges_81 : decode cX6_judges 81 = .ok (.ifCond .ne 13, 3) := by decide +kernel
theorem dX6_judges_84 : decode cX6_judges 84 = .ok (.iload 6, 2) := by decide +kernel
theorem dX6_judges_86 : decode cX6_judges 86 = .ok (.ifCond .le 8, 3) := by decide +kernel
theorem dX6_judges_89 : decode cX6_judges 89 = .ok (.iload 6, 2) := by decide +kernel
theorem dX6_judges_91 : decode cX6_judges 91 = .ok (.goto 4, 3) := by decide +kernel
theorem dX6_judges_94 : decode cX6_judges 94 = .ok (.iconst 0, 1) := by decide +kernel
theorem dX6_judges_95 : decode cX6_judges 95 = .ok (.istore 7, 2) := by decide +kernel
theorem dX6_judges_97 : decode cX6_judges 97 = .ok (.aload_n 0, 1) := by decide +kernel
theorem dX6_judges_98 : decode cX6_judges 98 = .ok (.getfield 7, 3) := by decide +kernel
theorem dX6_judges_101 : decode cX6_judges 101 = .ok (.bipush 13, 2) := by decide +kernel
theorem dX6_judges_103 : decode cX6_judges 103 = .ok (.iaload, 1) := by decide +kernel
theorem dX6_judges_104 : decode cX6_judges 104 = .ok (.iload 7, 2) := by decide +kernel
theorem dX6_judges_106 : decode cX6_judges 106 = .ok (.imul, 1) := by decide +kernel
theorem dX6_judges_107 : decode cX6_judges 107 = .ok (.istore 8, 2) := by decide +kernel
theorem dX6_judges_109 : decode cX6_judges 109 = .ok (.iload 8, 2) := by decide +kernel
theorem dX6_judges_111 : decode cX6_judges 111 = .ok (.iload_n 3, 1) := by decide +kernel
theorem dX6_judges_112 : decode cX6_judges 112 = .ok (.invokestatic 53, 3) := by decide +kernel
theorem dX6_judges_115 : decode cX6_judges 115 = .ok (.istore 9, 2) := by decide +kernel
theorem dX6_judges_117 : decode cX6_judges 117 = .ok (.iload 8, 2) := by decide +kernel
theorem dX6_judges_119 : decode cX6_judges 119 = .ok (.iload 9, 2) := by decide +kernel
theorem dX6_judges_121 : decode cX6_judges 121 = .ok (.isub, 1) := by decide +kernel
theorem dX6_judges_122 : decode cX6_judges 122 = .ok (.istore 10, 2) := by decide +kernel
theorem dX6_judges_124 : decode cX6_judges 124 = .ok (.aload_n 0, 1) := by decide +kernel
theorem dX6_judges_125 : decode cX6_judges 125 = .ok (.iload_n 1, 1) := by decide +kernel
theorem dX6_judges_126 : decode cX6_judges 126 = .ok (.invokevirtual 31, 3) := by decide +kernel
theorem dX6_judges_129 : decode cX6_judges 129 = .ok (.ifCond .eq 24, 3) := by decide +kernel
theorem dX6_judges_132 : decode cX6_judges 132 = .ok (.iload 10, 2) := by decide +kernel
theorem dX6_judges_134 : decode cX6_judges 134 = .ok (.iconst 2, 1) := by decide +kernel
theorem dX6_judges_135 : decode cX6_judges 135 = .ok (.idiv, 1) := by decide +kernel
theorem dX6_judges_136 : decode cX6_judges 136 = .ok (.aload_n 0, 1) := by decide +kernel
theorem dX6_judges_137 : decode cX6_judges 137 = .ok (.aload_n 0, 1) := by decide +kernel
theorem dX6_judges_138 : decode cX6_judges 138 = .ok (.iload_n 1, 1) := by decide +kernel
theorem dX6_judges_139 : decode cX6_judges 139 = .ok (.iconst 4, 1) := by decide +kernel
theorem dX6_judges_140 : decode cX6_judges 140 = .ok (.invokevirtual 27, 3) := by decide +kernel
theorem dX6_judges_143 : decode cX6_judges 143 = .ok (.iconst 1, 1) := by decide +kernel
theorem dX6_judges_144 : decode cX6_judges 144 = .ok (.invokevirtual 27, 3) := by decide +kernel
theorem dX6_judges_147 : decode cX6_judges 147 = .ok (.invokestatic 53, 3) := by decide +kernel
theorem dX6_judges_150 : decode cX6_judges 150 = .ok (.goto 4, 3) := by decide +kernel
theorem dX6_judges_153 : decode cX6_judges 153 = .ok (.iconst 0, 1) := by decide +kernel
theorem dX6_judges_154 : decode cX6_judges 154 = .ok (.istore 11, 2) := by decide +kernel
theorem dX6_judges_156 : decode cX6_judges 156 = .ok (.aload_n 0, 1) := by decide +kernel
theorem dX6_judges_157 : decode cX6_judges 157 = .ok (.getfield 16, 3) := by decide +kernel
theorem dX6_judges_160 : decode cX6_judges 160 = .ok (.iconst 0, 1) := by decide +kernel
theorem dX6_judges_161 : decode cX6_judges 161 = .ok (.iload 7, 2) := by decide +kernel
theorem dX6_judges_163 : decode cX6_judges 163 = .ok (.iastore, 1) := by decide +kernel
theorem dX6_judges_164 : decode cX6_judges 164 = .ok (.aload_n 0, 1) := by decide +kernel
theorem dX6_judges_165 : decode cX6_judges 165 = .ok (.getfield 16, 3) := by decide +kernel
theorem dX6_judges_168 : decode cX6_judges 168 = .ok (.iconst 1, 1) := by decide +kernel
theorem dX6_judges_169 : decode cX6_judges 169 = .ok (.iload 8, 2) := by decide +kernel
theorem dX6_judges_171 : decode cX6_judges 171 = .ok (.iastore, 1) := by decide +kernel
theorem dX6_judges_172 : decode cX6_judges 172 = .ok (.aload_n 0, 1) := by decide +kernel
theorem dX6_judges_173 : decode cX6_judges 173 = .ok (.getfield 16, 3) := by decide +kernel
theorem dX6_judges_176 : decode cX6_judges 176 = .ok (.iconst 2, 1) := by decide +kernel
theorem dX6_judges_177 : decode cX6_judges 177 = .ok (.iload 5, 2) := by decide +kernel
theorem dX6_judges_179 : decode cX6_judges 179 = .ok (.ifCond .eq 7, 3) := by decide +kernel
theorem dX6_judges_182 : decode cX6_judges 182 = .ok (.iconst 1, 1) := by decide +kernel
theorem dX6_judges_183 : decode cX6_judges 183 = .ok (.goto 5, 3) := by decide +kernel
theorem dX6_judges_186 : decode cX6_judges 186 = .ok (.iload 9, 2) := by decide +kernel
theorem dX6_judges_188 : decode cX6_judges 188 = .ok (.iastore, 1) := by decide +kernel
theorem dX6_judges_189 : decode cX6_judges 189 = .ok (.aload_n 0, 1) := by decide +kernel
theorem dX6_judges_190 : decode cX6_judges 190 = .ok (.getfield 16, 3) := by decide +kernel
theorem dX6_judges_193 : decode cX6_judges 193 = .ok (.iconst 3, 1) := by decide +kernel
theorem dX6_judges_194 : decode cX6_judges 194 = .ok (.aload_n 0, 1) := by decide +kernel
theorem dX6_judges_195 : decode cX6_judges 195 = .ok (.iload_n 1, 1) := by decide +kernel
theorem dX6_judges_196 : decode cX6_judges 196 = .ok (.iconst 2, 1) := by decide +kernel
theorem dX6_judges_197 : decode cX6_judges 197 = .ok (.invokevirtual 27, 3) := by decide +kernel
theorem dX6_judges_200 : decode cX6_judges 200 = .ok (.iload 10, 2) := by decide +kernel
theorem dX6_judges_202 : decode cX6_judges 202 = .ok (.iadd, 1) := by decide +kernel
theorem dX6_judges_203 : decode cX6_judges 203 = .ok (.iload 11, 2) := by decide +kernel
theorem dX6_judges_205 : decode cX6_judges 205 = .ok (.isub, 1) := by decide +kernel
theorem dX6_judges_206 : decode cX6_judges 206 = .ok (.iastore, 1) := by decide +kernel
theorem dX6_judges_207 : decode cX6_judges 207 = .ok (.aload_n 0, 1) := by decide +kernel
theorem dX6_judges_208 : decode cX6_judges 208 = .ok (.getfield 16, 3) := by decide +kernel
theorem dX6_judges_211 : decode cX6_judges 211 = .ok (.iconst 4, 1) := by decide +kernel
theorem dX6_judges_212 : decode cX6_judges 212 = .ok (.iload 11, 2) := by decide +kernel
theorem dX6_judges_214 : decode cX6_judges 214 = .ok (.iastore, 1) := by decide +kernel
theorem dX6_judges_215 : decode cX6_judges 215 = .ok (.return_, 1) := by decide +kernel
set_option maxRecDepth 20000 in
theorem ggX6_opens_X6_judges : GoodIn wsX6_opens wsX6_judges := goodIn_r _ [7, 1, 2, 8, 9, 10, 6, 11, 12, 13, 14, 15, 16, 17, 18, 19, 20, 21, 22, 23, 24, 25, 26, 35, 36, 37, 38, 39, 40, 41, 42, 43, 44, 45, 46] (by decide +kernel) (by decide +kernel)
set_option maxRecDepth 20000 in
theorem gX6_opens_X6_judges : GoodIn wsX6_opens (wsV RX6 63 RX6 yX6_judges wsX6_judges) := goodIn_app (goodIn_of _ (by decide +kernel)) ggX6_opens_X6_judges
set_option maxRecDepth 20000 in
theorem ggX6_opens_X6_paysToChest : GoodIn wsX6_opens wsX6_paysToChest := goodIn_r _ [30, 1, 8, 9, 10, 6, 11, 31, 32, 33, 34, 35, 36, 37, 38, 39, 40, 41, 42, 43, 44, 45, 46] (by decide +kernel) (by decide +kernel)
set_option maxRecDepth 20000 in
theorem gX6_opens_X6_paysToChest : GoodIn wsX6_opens (wsV RX6 49 RX6 yX6_paysToChest wsX6_paysToChest) := goodIn_app (goodIn_of _ (by decide +kernel)) ggX6_opens_X6_paysToChest
set_option maxRecDepth 20000 in
theorem ggX6_opens_X6_lay : GoodIn wsX6_opens wsX6_lay := goodIn_r _ [34, 1, 35, 36, 37, 38, 39, 40, 41, 42, 43, 44, 45, 46] (by decide +kernel) (by decide +kernel)
set_option maxRecDepth 20000 in
theorem gX6_opens_X6_lay : GoodIn wsX6_opens (wsV RX6 35 RX6 yX6_lay wsX6_lay) := goodIn_app (goodIn_of _ (by decide +kernel)) ggX6_opens_X6_lay
set_option maxRecDepth 20000 in
theorem ggX6_opens_X6_of : GoodIn wsX6_opens wsX6_of := goodIn_r _ [11, 1, 35, 36, 37, 38, 39, 40, 41, 42, 43, 44, 45, 46] (by decide +kernel) (by decide +kernel)
set_option maxRecDepth 20000 in
theorem gX6_opens_X6_of : GoodIn wsX6_opens (wsV RX6 27 RX6 yX6_of wsX6_of) := goodIn_app (goodIn_of _ (by decide +kernel)) ggX6_opens_X6_of
theorem dX6_opens_0 : decode cX6_opens 0 = .ok (.bipush 86, 2) := by decide +kernel
theorem dX6_opens_2 : decode cX6_opens 2 = .ok (.bipush 11, 2) := by decide +kernel
theorem dX6_opens_4 : decode cX6_opens 4 = .ok (.iload_n 1, 1) := by decide +kernel
theorem dX6_opens_5 : decode cX6_opens 5 = .ok (.imul, 1) := by decide +kernel
theorem dX6_opens_6 : decode cX6_opens 6 = .ok (.iadd, 1) := by decide +kernel
theorem dX6_opens_7 : decode cX6_opens 7 = .ok (.istore_n 2, 1) := by decide +kernel
theorem dX6_opens_8 : decode cX6_opens 8 = .ok (.aload_n 0, 1) := by decide +kernel
theorem dX6_opens_9 : decode cX6_opens 9 = .ok (.getfield 7, 3) := by decide +kernel
theorem dX6_opens_12 : decode cX6_opens 12 = .ok (.iload_n 2, 1) := by decide +kernel
theorem dX6_opens_13 : decode cX6_opens 13 = .ok (.iconst 1, 1) := by decide +kernel
theorem dX6_opens_14 : decode cX6_opens 14 = .ok (.iadd, 1) := by decide +kernel
theorem dX6_opens_15 : decode cX6_opens 15 = .ok (.iaload, 1) := by decide +kernel
theorem dX6_opens_16 : decode cX6_opens 16 = .ok (.istore_n 3, 1) := by decide +kernel
theorem dX6_opens_17 : decode cX6_opens 17 = .ok (.aload_n 0, 1) := by decide +kernel
theorem dX6_opens_18 : decode cX6_opens 18 = .ok (.getfield 7, 3) := by decide +kernel
theorem dX6_opens_21 : decode cX6_opens 21 = .ok (.iload_n 2, 1) := by decide +kernel
theorem dX6_opens_22 : decode cX6_opens 22 = .ok (.dup2, 1) := by decide +kernel
theorem dX6_opens_23 : decode cX6_opens 23 = .ok (.iaload, 1) := by decide +kernel
theorem dX6_opens_24 : decode cX6_opens 24 = .ok (.iconst 1, 1) := by decide +kernel
theorem dX6_opens_25 : decode cX6_opens 25 = .ok (.isub, 1) := by decide +kernel
theorem dX6_opens_26 : decode cX6_opens 26 = .ok (.iastore, 1) := by decide +kernel
theorem dX6_opens_27 : decode cX6_opens 27 = .ok (.iconst 1, 1) := by decide +kernel
theorem dX6_opens_28 : decode cX6_opens 28 = .ok (.istore 4, 2) := by decide +kernel
theorem dX6_opens_30 : decode cX6_opens 30 = .ok (.iload 4, 2) := by decide +kernel
theorem dX6_opens_32 : decode cX6_opens 32 = .ok (.aload_n 0, 1) := by decide +kernel
theorem dX6_opens_33 : decode cX6_opens 33 = .ok (.getfield 7, 3) := by decide +kernel
theorem dX6_opens_36 : decode cX6_opens 36 = .ok (.iload_n 2, 1) := by decide +kernel
theorem dX6_opens_37 : decode cX6_opens 37 = .ok (.iaload, 1) := by decide +kernel
theorem dX6_opens_38 : decode cX6_opens 38 = .ok (.if_icmp .gt 29, 3) := by decide +kernel
theorem dX6_opens_41 : decode cX6_opens 41 = .ok (.aload_n 0, 1) := by decide +kernel
theorem dX6_opens_42 : decode cX6_opens 42 = .ok (.getfield 7, 3) := by decide +kernel
theorem dX6_opens_45 : decode cX6_opens 45 = .ok (.iload_n 2, 1) := by decide +kernel
theorem dX6_opens_46 : decode cX6_opens 46 = .ok (.iload 4, 2) := by decide +kernel
theorem dX6_opens_48 : decode cX6_opens 48 = .ok (.iadd, 1) := by decide +kernel
theorem dX6_opens_49 : decode cX6_opens 49 = .ok (.aload_n 0, 1) := by decide +kernel
theorem dX6_opens_50 : decode cX6_opens 50 = .ok (.getfield 7, 3) := by decide +kernel
theorem dX6_opens_53 : decode cX6_opens 53 = .ok (.iload_n 2, 1) := by decide +kernel
theorem dX6_opens_54 : decode cX6_opens 54 = .ok (.iload 4, 2) := by decide +kernel
theorem dX6_opens_56 : decode cX6_opens 56 = .ok (.iadd, 1) := by decide +kernel
theorem dX6_opens_57 : decode cX6_opens 57 = .ok (.iconst 1, 1) := by decide +kernel
theorem dX6_opens_58 : decode cX6_opens 58 = .ok (.iadd, 1) := by decide +kernel
theorem dX6_opens_59 : decode cX6_opens 59 = .ok (.iaload, 1) := by decide +kernel
theorem dX6_opens_60 : decode cX6_opens 60 = .ok (.iastore, 1) := by decide +kernel
theorem dX6_opens_61 : decode cX6_opens 61 = .ok (.iinc 4 1, 3) := by decide +kernel
theorem dX6_opens_64 : decode cX6_opens 64 = .ok (.goto (-34), 3) := by decide +kernel
theorem dX6_opens_67 : decode cX6_opens 67 = .ok (.aload_n 0, 1) := by decide +kernel
theorem dX6_opens_68 : decode cX6_opens 68 = .ok (.iload_n 3, 1) := by decide +kernel
theorem dX6_opens_69 : decode cX6_opens 69 = .ok (.iload_n 1, 1) := by decide +kernel
theorem dX6_opens_70 : decode cX6_opens 70 = .ok (.invokevirtual 63, 3) := by decide +kernel
theorem dX6_opens_73 : decode cX6_opens 73 = .ok (.aload_n 0, 1) := by decide +kernel
theorem dX6_opens_74 : decode cX6_opens 74 = .ok (.iload_n 3, 1) := by decide +kernel
theorem dX6_opens_75 : decode cX6_opens 75 = .ok (.aload_n 0, 1) := by decide +kernel
theorem dX6_opens_76 : decode cX6_opens 76 = .ok (.getfield 16, 3) := by decide +kernel
theorem dX6_opens_79 : decode cX6_opens 79 = .ok (.iconst 2, 1) := by decide +kernel
theorem dX6_opens_80 : decode cX6_opens 80 = .ok (.iaload, 1) := by decide +kernel
theorem dX6_opens_81 : decode cX6_opens 81 = .ok (.invokevirtual 49, 3) := by decide +kernel
theorem dX6_opens_84 : decode cX6_opens 84 = .ok (.aload_n 0, 1) := by decide +kernel
theorem dX6_opens_85 : decode cX6_opens 85 = .ok (.iload_n 3, 1) := by decide +kernel
theorem dX6_opens_86 : decode cX6_opens 86 = .ok (.iconst 2, 1) := by decide +kernel
theorem dX6_opens_87 : decode cX6_opens 87 = .ok (.aload_n 0, 1) := by decide +kernel
theorem dX6_opens_88 : decode cX6_opens 88 = .ok (.getfield 16, 3) := by decide +kernel
theorem dX6_opens_91 : decode cX6_opens 91 = .ok (.iconst 3, 1) := by decide +kernel
theorem dX6_opens_92 : decode cX6_opens 92 = .ok (.iaload, 1) := by decide +kernel
theorem dX6_opens_93 : decode cX6_opens 93 = .ok (.invokevirtual 35, 3) := by decide +kernel
theorem dX6_opens_96 : decode cX6_opens 96 = .ok (.aload_n 0, 1) := by decide +kernel
theorem dX6_opens_97 : decode cX6_opens 97 = .ok (.iload_n 3, 1) := by decide +kernel
theorem dX6_opens_98 : decode cX6_opens 98 = .ok (.bipush 6, 2) := by decide +kernel
theorem dX6_opens_100 : decode cX6_opens 100 = .ok (.iconst 1, 1) := by decide +kernel
theorem dX6_opens_101 : decode cX6_opens 101 = .ok (.invokevirtual 35, 3) := by decide +kernel
theorem dX6_opens_104 : decode cX6_opens 104 = .ok (.aload_n 0, 1) := by decide +kernel
theorem dX6_opens_105 : decode cX6_opens 105 = .ok (.getfield 16, 3) := by decide +kernel
theorem dX6_opens_108 : decode cX6_opens 108 = .ok (.iconst 0, 1) := by decide +kernel
theorem dX6_opens_109 : decode cX6_opens 109 = .ok (.iaload, 1) := by decide +kernel
theorem dX6_opens_110 : decode cX6_opens 110 = .ok (.ifCond .le 92, 3) := by decide +kernel
theorem dX6_opens_113 : decode cX6_opens 113 = .ok (.aload_n 0, 1) := by decide +kernel
theorem dX6_opens_114 : decode cX6_opens 114 = .ok (.iload_n 3, 1) := by decide +kernel
theorem dX6_opens_115 : decode cX6_opens 115 = .ok (.iconst 4, 1) := by decide +kernel
theorem dX6_opens_116 : decode cX6_opens 116 = .ok (.invokevirtual 27, 3) := by decide +kernel
theorem dX6_opens_119 : decode cX6_opens 119 = .ok (.istore 4, 2) := by decide +kernel
theorem dX6_opens_121 : decode cX6_opens 121 = .ok (.iload 4, 2) := by decide +kernel
theorem dX6_opens_123 : decode cX6_opens 123 = .ok (.iload_n 3, 1) := by decide +kernel
theorem dX6_opens_124 : decode cX6_opens 124 = .ok (.if_icmp .eq 15, 3) := by decide +kernel
theorem dX6_opens_127 : decode cX6_opens 127 = .ok (.aload_n 0, 1) := by decide +kernel
theorem dX6_opens_128 : decode cX6_opens 128 = .ok (.iload 4, 2) := by decide +kernel
theorem dX6_opens_130 : decode cX6_opens 130 = .ok (.aload_n 0, 1) := by decide +kernel
theorem dX6_opens_131 : decode cX6_opens 131 = .ok (.getfield 16, 3) := by decide +kernel
theorem dX6_opens_134 : decode cX6_opens 134 = .ok (.iconst 4, 1) := by decide +kernel
theorem dX6_opens_135 : decode cX6_opens 135 = .ok (.iaload, 1) := by decide +kernel
theorem dX6_opens_136 : decode cX6_opens 136 = .ok (.invokevirtual 49, 3) := by decide +kernel
theorem dX6_opens_139 : decode cX6_opens 139 = .ok (.aload_n 0, 1) := by decide +kernel
theorem dX6_opens_140 : decode cX6_opens 140 = .ok (.iload 4, 2) := by decide +kernel
theorem dX6_opens_142 : decode cX6_opens 142 = .ok (.iconst 3, 1) := by decide +kernel
theorem dX6_opens_143 : decode cX6_opens 143 = .ok (.aload_n 0, 1) := by decide +kernel
theorem dX6_opens_144 : decode cX6_opens 144 = .ok (.iload 4, 2) := by decide +kernel
theorem dX6_opens_146 : decode cX6_opens 146 = .ok (.iconst 3, 1) := by decide +kernel
theorem dX6_opens_147 : decode cX6_opens 147 = .ok (.invokevirtual 27, 3) := by decide +kernel
theorem dX6_opens_150 : decode cX6_opens 150 = .ok (.aload_n 0, 1) := by decide +kernel
theorem dX6_opens_151 : decode cX6_opens 151 = .ok (.getfield 16, 3) := by decide +kernel
theorem dX6_opens_154 : decode cX6_opens 154 = .ok (.iconst 0, 1) := by decide +kernel
theorem dX6_opens_155 : decode cX6_opens 155 = .ok (.iaload, 1) := by decide +kernel
theorem dX6_opens_156 : decode cX6_opens 156 = .ok (.isub, 1) := by decide +kernel
theorem dX6_opens_157 : decode cX6_opens 157 = .ok (.invokevirtual 35, 3) := by decide +kernel
theorem dX6_opens_160 : decode cX6_opens 160 = .ok (.aload_n 0, 1) := by decide +kernel
theorem dX6_opens_161 : decode cX6_opens 161 = .ok (.getfield 7, 3) := by decide +kernel
theorem dX6_opens_164 : decode cX6_opens 164 = .ok (.iconst 3, 1) := by decide +kernel
theorem dX6_opens_165 : decode cX6_opens 165 = .ok (.dup2, 1) := by decide +kernel
theorem dX6_opens_166 : decode cX6_opens 166 = .ok (.iaload, 1) := by decide +kernel
theorem dX6_opens_167 : decode cX6_opens 167 = .ok (.aload_n 0, 1) := by decide +kernel
theorem dX6_opens_168 : decode cX6_opens 168 = .ok (.getfield 16, 3) := by decide +kernel
theorem dX6_opens_171 : decode cX6_opens 171 = .ok (.iconst 0, 1) := by decide +kernel
theorem dX6_opens_172 : decode cX6_opens 172 = .ok (.iaload, 1) := by decide +kernel
theorem dX6_opens_173 : decode cX6_opens 173 = .ok (.iadd, 1) := by decide +kernel
theorem dX6_opens_174 : decode cX6_opens 174 = .ok (.iastore, 1) := by decide +kernel
theorem dX6_opens_175 : decode cX6_opens 175 = .ok (.aload_n 0, 1) := by decide +kernel
theorem dX6_opens_176 : decode cX6_opens 176 = .ok (.getfield 7, 3) := by decide +kernel
theorem dX6_opens_179 : decode cX6_opens 179 = .ok (.bipush 7, 2) := by decide +kernel
theorem dX6_opens_181 : decode cX6_opens 181 = .ok (.dup2, 1) := by decide +kernel
theorem dX6_opens_182 : decode cX6_opens 182 = .ok (.iaload, 1) := by decide +kernel
theorem dX6_opens_183 : decode cX6_opens 183 = .ok (.aload_n 0, 1) := by decide +kernel
theorem dX6_opens_184 : decode cX6_opens 184 = .ok (.getfield 16, 3) := by decide +kernel
theorem dX6_opens_187 : decode cX6_opens 187 = .ok (.iconst 0, 1) := by decide +kernel
theorem dX6_opens_188 : decode cX6_opens 188 = .ok (.iaload, 1) := by decide +kernel
theorem dX6_opens_189 : decode cX6_opens 189 = .ok (.iadd, 1) := by decide +kernel
theorem dX6_opens_190 : decode cX6_opens 190 = .ok (.iastore, 1) := by decide +kernel
theorem dX6_opens_191 : decode cX6_opens 191 = .ok (.aload_n 0, 1) := by decide +kernel
theorem dX6_opens_192 : decode cX6_opens 192 = .ok (.getfield 7, 3) := by decide +kernel
theorem dX6_opens_195 : decode cX6_opens 195 = .ok (.bipush 6, 2) := by decide +kernel
theorem dX6_opens_197 : decode cX6_opens 197 = .ok (.dup2, 1) := by decide +kernel
theorem dX6_opens_198 : decode cX6_opens 198 = .ok (.iaload, 1) := by decide +kernel
theorem dX6_opens_199 : decode cX6_opens 199 = .ok (.iconst 1, 1) := by decide +kernel
theorem dX6_opens_200 : decode cX6_opens 200 = .ok (.iadd, 1) := by decide +kernel
theorem dX6_opens_201 : decode cX6_opens 201 = .ok (.iastore, 1) := by decide +kernel
theorem dX6_opens_202 : decode cX6_opens 202 = .ok (.aload_n 0, 1) := by decide +kernel
theorem dX6_opens_203 : decode cX6_opens 203 = .ok (.getfield 16, 3) := by decide +kernel
theorem dX6_opens_206 : decode cX6_opens 206 = .ok (.iconst 0, 1) := by decide +kernel
theorem dX6_opens_207 : decode cX6_opens 207 = .ok (.iaload, 1) := by decide +kernel
theorem dX6_opens_208 : decode cX6_opens 208 = .ok (.ireturn, 1) := by decide +kernel
set_option maxRecDepth 20000 in
theorem ggX6_nights_X6_of : GoodIn wsX6_nights wsX6_of := goodIn_r _ [6, 1, 11, 12, 13, 14, 15, 16, 17, 18, 19, 20, 21, 22] (by decide +kernel) (by decide +kernel)
set_option maxRecDepth 20000 in
theorem gX6_nights_X6_of : GoodIn wsX6_nights (wsV RX6 27 RX6 yX6_of wsX6_of) := goodIn_app (goodIn_of _ (by decide +kernel)) ggX6_nights_X6_of
set_option maxRecDepth 20000 in
theorem ggX6_nights_X6_lay : GoodIn wsX6_nights wsX6_lay := goodIn_r _ [10, 1, 11, 12, 13, 14, 15, 16, 17, 18, 19, 20, 21, 22] (by decide +kernel) (by decide +kernel)
set_option maxRecDepth 20000 in
theorem gX6_nights_X6_lay : GoodIn wsX6_nights (wsV RX6 35 RX6 yX6_lay wsX6_lay) := goodIn_app (goodIn_of _ (by decide +kernel)) ggX6_nights_X6_lay
theorem dX6_nights_0 : decode cX6_nights 0 = .ok (.iconst 0, 1) := by decide +kernel
theorem dX6_nights_1 : decode cX6_nights 1 = .ok (.istore_n 1, 1) := by decide +kernel
theorem dX6_nights_2 : decode cX6_nights 2 = .ok (.iconst 0, 1) := by decide +kernel
theorem dX6_nights_3 : decode cX6_nights 3 = .ok (.istore_n 2, 1) := by decide +kernel
theorem dX6_nights_4 : decode cX6_nights 4 = .ok (.iload_n 2, 1) := by decide +kernel
theorem dX6_nights_5 : decode cX6_nights 5 = .ok (.aload_n 0, 1) := by decide +kernel
theorem dX6_nights_6 : decode cX6_nights 6 = .ok (.getfield 7, 3) := by decide +kernel
theorem dX6_nights_9 : decode cX6_nights 9 = .ok (.iconst 1, 1) := by decide +kernel
theorem dX6_nights_10 : decode cX6_nights 10 = .ok (.iaload, 1) := by decide +kernel
theorem dX6_nights_11 : decode cX6_nights 11 = .ok (.if_icmp .ge 54, 3) := by decide +kernel
theorem dX6_nights_14 : decode cX6_nights 14 = .ok (.iload_n 1, 1) := by decide +kernel
theorem dX6_nights_15 : decode cX6_nights 15 = .ok (.aload_n 0, 1) := by decide +kernel
theorem dX6_nights_16 : decode cX6_nights 16 = .ok (.iload_n 2, 1) := by decide +kernel
theorem dX6_nights_17 : decode cX6_nights 17 = .ok (.bipush 6, 2) := by decide +kernel
theorem dX6_nights_19 : decode cX6_nights 19 = .ok (.invokevirtual 27, 3) := by decide +kernel
theorem dX6_nights_22 : decode cX6_nights 22 = .ok (.iadd, 1) := by decide +kernel
theorem dX6_nights_23 : decode cX6_nights 23 = .ok (.istore_n 1, 1) := by decide +kernel
theorem dX6_nights_24 : decode cX6_nights 24 = .ok (.aload_n 0, 1) := by decide +kernel
theorem dX6_nights_25 : decode cX6_nights 25 = .ok (.iload_n 2, 1) := by decide +kernel
theorem dX6_nights_26 : decode cX6_nights 26 = .ok (.bipush 6, 2) := by decide +kernel
theorem dX6_nights_28 : decode cX6_nights 28 = .ok (.iconst 0, 1) := by decide +kernel
theorem dX6_nights_29 : decode cX6_nights 29 = .ok (.invokevirtual 35, 3) := by decide +kernel
theorem dX6_nights_32 : decode cX6_nights 32 = .ok (.aload_n 0, 1) := by decide +kernel
theorem dX6_nights_33 : decode cX6_nights 33 = .ok (.iload_n 2, 1) := by decide +kernel
theorem dX6_nights_34 : decode cX6_nights 34 = .ok (.iconst 5, 1) := by decide +kernel
theorem dX6_nights_35 : decode cX6_nights 35 = .ok (.aload_n 0, 1) := by decide +kernel
theorem dX6_nights_36 : decode cX6_nights 36 = .ok (.iload_n 2, 1) := by decide +kernel
theorem dX6_nights_37 : decode cX6_nights 37 = .ok (.iconst 5, 1) := by decide +kernel
theorem dX6_nights_38 : decode cX6_nights 38 = .ok (.invokevirtual 27, 3) := by decide +kernel
theorem dX6_nights_41 : decode cX6_nights 41 = .ok (.ifCond .ne 7, 3) := by decide +kernel
theorem dX6_nights_44 : decode cX6_nights 44 = .ok (.iconst 0, 1) := by decide +kernel
theorem dX6_nights_45 : decode cX6_nights 45 = .ok (.goto 11, 3) := by decide +kernel
theorem dX6_nights_48 : decode cX6_nights 48 = .ok (.aload_n 0, 1) := by decide +kernel
theorem dX6_nights_49 : decode cX6_nights 49 = .ok (.iload_n 2, 1) := by decide +kernel
theorem dX6_nights_50 : decode cX6_nights 50 = .ok (.iconst 5, 1) := by decide +kernel
theorem dX6_nights_51 : decode cX6_nights 51 = .ok (.invokevirtual 27, 3) := by decide +kernel
theorem dX6_nights_54 : decode cX6_nights 54 = .ok (.iconst 1, 1) := by decide +kernel
theorem dX6_nights_55 : decode cX6_nights 55 = .ok (.isub, 1) := by decide +kernel
theorem dX6_nights_56 : decode cX6_nights 56 = .ok (.invokevirtual 35, 3) := by decide +kernel
theorem dX6_nights_59 : decode cX6_nights 59 = .ok (.iinc 2 1, 3) := by decide +kernel
theorem dX6_nights_62 : decode cX6_nights 62 = .ok (.goto (-58), 3) := by decide +kernel
theorem dX6_nights_65 : decode cX6_nights 65 = .ok (.iconst 0, 1) := by decide +kernel
theorem dX6_nights_66 : decode cX6_nights 66 = .ok (.istore_n 2, 1) := by decide +kernel
theorem dX6_nights_67 : decode cX6_nights 67 = .ok (.iload_n 2, 1) := by decide +kernel
theorem dX6_nights_68 : decode cX6_nights 68 = .ok (.iconst 3, 1) := by decide +kernel
theorem dX6_nights_69 : decode cX6_nights 69 = .ok (.if_icmp .ge 22, 3) := by decide +kernel
theorem dX6_nights_72 : decode cX6_nights 72 = .ok (.aload_n 0, 1) := by decide +kernel
theorem dX6_nights_73 : decode cX6_nights 73 = .ok (.getfield 7, 3) := by decide +kernel
theorem dX6_nights_76 : decode cX6_nights 76 = .ok (.bipush 86, 2) := by decide +kernel
theorem dX6_nights_78 : decode cX6_nights 78 = .ok (.bipush 11, 2) := by decide +kernel
theorem dX6_nights_80 : decode cX6_nights 80 = .ok (.iload_n 2, 1) := by decide +kernel
theorem dX6_nights_81 : decode cX6_nights 81 = .ok (.imul, 1) := by decide +kernel
theorem dX6_nights_82 : decode cX6_nights 82 = .ok (.iadd, 1) := by decide +kernel
theorem dX6_nights_83 : decode cX6_nights 83 = .ok (.iconst 0, 1) := by decide +kernel
theorem dX6_nights_84 : decode cX6_nights 84 = .ok (.iastore, 1) := by decide +kernel
theorem dX6_nights_85 : decode cX6_nights 85 = .ok (.iinc 2 1, 3) := by decide +kernel
theorem dX6_nights_88 : decode cX6_nights 88 = .ok (.goto (-21), 3) := by decide +kernel
theorem dX6_nights_91 : decode cX6_nights 91 = .ok (.aload_n 0, 1) := by decide +kernel
theorem dX6_nights_92 : decode cX6_nights 92 = .ok (.getfield 7, 3) := by decide +kernel
theorem dX6_nights_95 : decode cX6_nights 95 = .ok (.iconst 0, 1) := by decide +kernel
theorem dX6_nights_96 : decode cX6_nights 96 = .ok (.dup2, 1) := by decide +kernel
theorem dX6_nights_97 : decode cX6_nights 97 = .ok (.iaload, 1) := by decide +kernel
theorem dX6_nights_98 : decode cX6_nights 98 = .ok (.iconst 1, 1) := by decide +kernel
theorem dX6_nights_99 : decode cX6_nights 99 = .ok (.iadd, 1) := by decide +kernel
theorem dX6_nights_100 : decode cX6_nights 100 = .ok (.iastore, 1) := by decide +kernel
theorem dX6_nights_101 : decode cX6_nights 101 = .ok (.iload_n 1, 1) := by decide +kernel
theorem dX6_nights_102 : decode cX6_nights 102 = .ok (.ireturn, 1) := by decide +kernel
theorem dX6_copies_0 : decode cX6_copies 0 = .ok (.iconst 0, 1) := by decide +kernel
theorem dX6_copies_1 : decode cX6_copies 1 = .ok (.istore_n 3, 1) := by decide +kernel
theorem dX6_copies_2 : decode cX6_copies 2 = .ok (.iload_n 3, 1) := by decide +kernel
theorem dX6_copies_3 : decode cX6_copies 3 = .ok (.bipush 119, 2) := by decide +kernel
theorem dX6_copies_5 : decode cX6_copies 5 = .ok (.if_icmp .ge 31, 3) := by decide +kernel
theorem dX6_copies_8 : decode cX6_copies 8 = .ok (.aload_n 0, 1) := by decide +kernel
theorem dX6_copies_9 : decode cX6_copies 9 = .ok (.getfield 7, 3) := by decide +kernel
theorem dX6_copies_12 : decode cX6_copies 12 = .ok (.bipush 119, 2) := by decide +kernel
theorem dX6_copies_14 : decode cX6_copies 14 = .ok (.iload_n 2, 1) := by decide +kernel
theorem dX6_copies_15 : decode cX6_copies 15 = .ok (.imul, 1) := by decide +kernel
theorem dX6_copies_16 : decode cX6_copies 16 = .ok (.iload_n 3, 1) := by decide +kernel
theorem dX6_copies_17 : decode cX6_copies 17 = .ok (.iadd, 1) := by decide +kernel
theorem dX6_copies_18 : decode cX6_copies 18 = .ok (.aload_n 0, 1) := by decide +kernel
theorem dX6_copies_19 : decode cX6_copies 19 = .ok (.getfield 7, 3) := by decide +kernel
theorem dX6_copies_22 : decode cX6_copies 22 = .ok (.bipush 119, 2) := by decide +kernel
theorem dX6_copies_24 : decode cX6_copies 24 = .ok (.iload_n 1, 1) := by decide +kernel
theorem dX6_copies_25 : decode cX6_copies 25 = .ok (.imul, 1) := by decide +kernel
theorem dX6_copies_26 : decode cX6_copies 26 = .ok (.iload_n 3, 1) := by decide +kernel
theorem dX6_copies_27 : decode cX6_copies 27 = .ok (.iadd, 1) := by decide +kernel
theorem dX6_copies_28 : decode cX6_copies 28 = .ok (.iaload, 1) := by decide +kernel
theorem dX6_copies_29 : decode cX6_copies 29 = .ok (.iastore, 1) := by decide +kernel
theorem dX6_copies_30 : decode cX6_copies 30 = .ok (.iinc 3 1, 3) := by decide +kernel
theorem dX6_copies_33 : decode cX6_copies 33 = .ok (.goto (-31), 3) := by decide +kernel
theorem dX6_copies_36 : decode cX6_copies 36 = .ok (.return_, 1) := by decide +kernel
set_option maxRecDepth 20000 in
theorem ggX6_save_X6_copies : GoodIn wsX6_save wsX6_copies := goodIn_r _ [6, 7, 8, 9, 10, 11, 12, 13, 14, 15, 16, 17, 18, 19] (by decide +kernel) (by decide +kernel)
set_option maxRecDepth 20000 in
theorem gX6_save_X6_copies : GoodIn wsX6_save (wsV RX6 69 RX6 yX6_copies wsX6_copies) := goodIn_app (goodIn_of _ (by decide +kernel)) ggX6_save_X6_copies
theorem dX6_save_0 : decode cX6_save 0 = .ok (.iconst 1, 1) := by decide +kernel
theorem dX6_save_1 : decode cX6_save 1 = .ok (.istore_n 1, 1) := by decide +kernel
theorem dX6_save_2 : decode cX6_save 2 = .ok (.iload_n 1, 1) := by decide +kernel
theorem dX6_save_3 : decode cX6_save 3 = .ok (.bipush 6, 2) := by decide +kernel
theorem dX6_save_5 : decode cX6_save 5 = .ok (.if_icmp .ge 26, 3) := by decide +kernel
theorem dX6_save_8 : decode cX6_save 8 = .ok (.aload_n 0, 1) := by decide +kernel
theorem dX6_save_9 : decode cX6_save 9 = .ok (.getfield 66, 3) := by decide +kernel
theorem dX6_save_12 : decode cX6_save 12 = .ok (.bipush 6, 2) := by decide +kernel
theorem dX6_save_14 : decode cX6_save 14 = .ok (.if_icmp .ne 17, 3) := by decide +kernel
theorem dX6_save_17 : decode cX6_save 17 = .ok (.aload_n 0, 1) := by decide +kernel
theorem dX6_save_18 : decode cX6_save 18 = .ok (.iload_n 1, 1) := by decide +kernel
theorem dX6_save_19 : decode cX6_save 19 = .ok (.iconst 1, 1) := by decide +kernel
theorem dX6_save_20 : decode cX6_save 20 = .ok (.iadd, 1) := by decide +kernel
theorem dX6_save_21 : decode cX6_save 21 = .ok (.iload_n 1, 1) := by decide +kernel
theorem dX6_save_22 : decode cX6_save 22 = .ok (.invokevirtual 69, 3) := by decide +kernel
theorem dX6_save_25 : decode cX6_save 25 = .ok (.iinc 1 1, 3) := by decide +kernel
theorem dX6_save_28 : decode cX6_save 28 = .ok (.goto (-26), 3) := by decide +kernel
theorem dX6_save_31 : decode cX6_save 31 = .ok (.aload_n 0, 1) := by decide +kernel
theorem dX6_save_32 : decode cX6_save 32 = .ok (.dup, 1) := by decide +kernel
theorem dX6_save_33 : decode cX6_save 33 = .ok (.getfield 66, 3) := by decide +kernel
theorem dX6_save_36 : decode cX6_save 36 = .ok (.aload_n 0, 1) := by decide +kernel
theorem dX6_save_37 : decode cX6_save 37 = .ok (.getfield 66, 3) := by decide +kernel
theorem dX6_save_40 : decode cX6_save 40 = .ok (.bipush 6, 2) := by decide +kernel
theorem dX6_save_42 : decode cX6_save 42 = .ok (.if_icmp .ge 7, 3) := by decide +kernel
theorem dX6_save_45 : decode cX6_save 45 = .ok (.iconst 1, 1) := by decide +kernel
theorem dX6_save_46 : decode cX6_save 46 = .ok (.goto 4, 3) := by decide +kernel
theorem dX6_save_49 : decode cX6_save 49 = .ok (.iconst 0, 1) := by decide +kernel
theorem dX6_save_50 : decode cX6_save 50 = .ok (.iadd, 1) := by decide +kernel
theorem dX6_save_51 : decode cX6_save 51 = .ok (.putfield 66, 3) := by decide +kernel
theorem dX6_save_54 : decode cX6_save 54 = .ok (.aload_n 0, 1) := by decide +kernel
theorem dX6_save_55 : decode cX6_save 55 = .ok (.iconst 0, 1) := by decide +kernel
theorem dX6_save_56 : decode cX6_save 56 = .ok (.aload_n 0, 1) := by decide +kernel
theorem dX6_save_57 : decode cX6_save 57 = .ok (.getfield 66, 3) := by decide +kernel
theorem dX6_save_60 : decode cX6_save 60 = .ok (.invokevirtual 69, 3) := by decide +kernel
theorem dX6_save_63 : decode cX6_save 63 = .ok (.return_, 1) := by decide +kernel
set_option maxRecDepth 20000 in
theorem ggX6_come_X6_in : GoodIn wsX6_come wsX6_in := goodIn_r _ [5] (by decide +kernel) (by decide +kernel)
set_option maxRecDepth 20000 in
theorem gX6_come_X6_in : GoodIn wsX6_come (va_wsS RX6 23 yX6_in wsX6_in) := goodIn_app (goodIn_of _ (by decide +kernel)) ggX6_come_X6_in
set_option maxRecDepth 20000 in
theorem ggX6_come_X6_holds : GoodIn wsX6_come wsX6_holds := goodIn_r _ [9, 10, 24, 25, 26, 27, 28, 29, 30, 31, 32, 33, 34, 35] (by decide +kernel) (by decide +kernel)
set_option maxRecDepth 20000 in
theorem gX6_come_X6_holds : GoodIn wsX6_come (wsV RX6 72 RX6 yX6_holds wsX6_holds) := goodIn_app (goodIn_of _ (by decide +kernel)) ggX6_come_X6_holds
set_option maxRecDepth 20000 in
theorem ggX6_come_X6_save : GoodIn wsX6_come wsX6_save := goodIn_r _ [14, 15, 16, 17, 18, 4, 19, 1, 24, 25, 26, 27, 28, 29, 30, 31, 32, 33, 34, 35] (by decide +kernel) (by decide +kernel)
set_option maxRecDepth 20000 in
theorem gX6_come_X6_save : GoodIn wsX6_come (wsV RX6 75 RX6 yX6_save wsX6_save) := goodIn_app (goodIn_of _ (by decide +kernel)) ggX6_come_X6_save
set_option maxRecDepth 20000 in
theorem ggX6_come_X6_lay : GoodIn wsX6_come wsX6_lay := goodIn_r _ [23, 1, 24, 25, 26, 27, 28, 29, 30, 31, 32, 33, 34, 35] (by decide +kernel) (by decide +kernel)
set_option maxRecDepth 20000 in
theorem gX6_come_X6_lay : GoodIn wsX6_come (wsV RX6 35 RX6 yX6_lay wsX6_lay) := goodIn_app (goodIn_of _ (by decide +kernel)) ggX6_come_X6_lay
theorem dX6_come_0 : decode cX6_come 0 = .ok (.iload_n 1, 1) := by decide +kernel
theorem dX6_come_1 : decode cX6_come 1 = .ok (.iconst 0, 1) := by decide +kernel
theorem dX6_come_2 : decode cX6_come 2 = .ok (.iconst 4, 1) := by decide +kernel
theorem dX6_come_3 : decode cX6_come 3 = .ok (.invokestatic 23, 3) := by decide +kernel
theorem dX6_come_6 : decode cX6_come 6 = .ok (.ifCond .eq 27, 3) := by decide +kernel
theorem dX6_come_9 : decode cX6_come 9 = .ok (.iload_n 2, 1) := by decide +kernel
theorem dX6_come_10 : decode cX6_come 10 = .ok (.iconst 0, 1) := by decide +kernel
theorem dX6_come_11 : decode cX6_come 11 = .ok (.bipush 40, 2) := by decide +kernel
theorem dX6_come_13 : decode cX6_come 13 = .ok (.invokestatic 23, 3) := by decide +kernel
theorem dX6_come_16 : decode cX6_come 16 = .ok (.ifCond .eq 17, 3) := by decide +kernel
theorem dX6_come_19 : decode cX6_come 19 = .ok (.iload_n 3, 1) := by decide +kernel
theorem dX6_come_20 : decode cX6_come 20 = .ok (.iconst 0, 1) := by decide +kernel
theorem dX6_come_21 : decode cX6_come 21 = .ok (.bipush 99, 2) := by decide +kernel
theorem dX6_come_23 : decode cX6_come 23 = .ok (.invokestatic 23, 3) := by decide +kernel
theorem dX6_come_26 : decode cX6_come 26 = .ok (.ifCond .eq 7, 3) := by decide +kernel
theorem dX6_come_29 : decode cX6_come 29 = .ok (.iconst 1, 1) := by decide +kernel
theorem dX6_come_30 : decode cX6_come 30 = .ok (.goto 4, 3) := by decide +kernel
theorem dX6_come_33 : decode cX6_come 33 = .ok (.iconst 0, 1) := by decide +kernel
theorem dX6_come_34 : decode cX6_come 34 = .ok (.istore 4, 2) := by decide +kernel
theorem dX6_come_36 : decode cX6_come 36 = .ok (.aload_n 0, 1) := by decide +kernel
theorem dX6_come_37 : decode cX6_come 37 = .ok (.iload 4, 2) := by decide +kernel
theorem dX6_come_39 : decode cX6_come 39 = .ok (.ifCond .ne 7, 3) := by decide +kernel
theorem dX6_come_42 : decode cX6_come 42 = .ok (.iconst 1, 1) := by decide +kernel
theorem dX6_come_43 : decode cX6_come 43 = .ok (.goto 19, 3) := by decide +kernel
theorem dX6_come_46 : decode cX6_come 46 = .ok (.aload_n 0, 1) := by decide +kernel
theorem dX6_come_47 : decode cX6_come 47 = .ok (.getfield 7, 3) := by decide +kernel
theorem dX6_come_50 : decode cX6_come 50 = .ok (.iconst 1, 1) := by decide +kernel
theorem dX6_come_51 : decode cX6_come 51 = .ok (.iaload, 1) := by decide +kernel
theorem dX6_come_52 : decode cX6_come 52 = .ok (.bipush 10, 2) := by decide +kernel
theorem dX6_come_54 : decode cX6_come 54 = .ok (.if_icmp .ne 7, 3) := by decide +kernel
theorem dX6_come_57 : decode cX6_come 57 = .ok (.iconst 2, 1) := by decide +kernel
theorem dX6_come_58 : decode cX6_come 58 = .ok (.goto 4, 3) := by decide +kernel
theorem dX6_come_61 : decode cX6_come 61 = .ok (.iconst 0, 1) := by decide +kernel
theorem dX6_come_62 : decode cX6_come 62 = .ok (.invokevirtual 72, 3) := by decide +kernel
theorem dX6_come_65 : decode cX6_come 65 = .ok (.ifCond .ne 5, 3) := by decide +kernel
theorem dX6_come_68 : decode cX6_come 68 = .ok (.iconst 0, 1) := by decide +kernel
theorem dX6_come_69 : decode cX6_come 69 = .ok (.ireturn, 1) := by decide +kernel
theorem dX6_come_70 : decode cX6_come 70 = .ok (.aload_n 0, 1) := by decide +kernel
theorem dX6_come_71 : decode cX6_come 71 = .ok (.invokevirtual 75, 3) := by decide +kernel
theorem dX6_come_74 : decode cX6_come 74 = .ok (.aload_n 0, 1) := by decide +kernel
theorem dX6_come_75 : decode cX6_come 75 = .ok (.getfield 7, 3) := by decide +kernel
theorem dX6_come_78 : decode cX6_come 78 = .ok (.iconst 1, 1) := by decide +kernel
theorem dX6_come_79 : decode cX6_come 79 = .ok (.iaload, 1) := by decide +kernel
theorem dX6_come_80 : decode cX6_come 80 = .ok (.istore 5, 2) := by decide +kernel
theorem dX6_come_82 : decode cX6_come 82 = .ok (.iconst 0, 1) := by decide +kernel
theorem dX6_come_83 : decode cX6_come 83 = .ok (.istore 6, 2) := by decide +kernel
theorem dX6_come_85 : decode cX6_come 85 = .ok (.iload 6, 2) := by decide +kernel
theorem dX6_come_87 : decode cX6_come 87 = .ok (.bipush 7, 2) := by decide +kernel
theorem dX6_come_89 : decode cX6_come 89 = .ok (.if_icmp .ge 18, 3) := by decide +kernel
theorem dX6_come_92 : decode cX6_come 92 = .ok (.aload_n 0, 1) := by decide +kernel
theorem dX6_come_93 : decode cX6_come 93 = .ok (.iload 5, 2) := by decide +kernel
